/-! Hash. -/
abbrev b_Ha_compress : ByteArray := prog_7_method_8_code
def y_Ha_compress : MethodName := ⟨R_Ha, "compress", "()V"⟩
abbrev k_Ha_compress : Cond := .code y_Ha_compress b_Ha_compress 9 none
theorem ki_Ha_compress : k_Ha_compress ∈ lw_tg := in_t 600 (by decide +kernel)
theorem ks_Ha_compress : Cond.instanceMethod y_Ha_compress ∈ lw_tg := in_t 599 (by decide +kernel)
theorem kx_Ha_compress : Cond.selects R_Ha y_Ha_compress y_Ha_compress ∈ lw_tg := List.mem_filter.mpr ⟨List.mem_append_left _ (List.mem_of_getElem? (i := 1) (by decide +kernel)), rfl⟩
theorem kl_Ha_Ha_compress : Cond.methodLink R_Ha 44 y_Ha_compress ∈ lw_tg := in_t 597 (by decide +kernel)
theorem hd_Ha_compress : y_Ha_compress.cls = R_Ha ∧ y_Ha_compress.cls ≠ "java/lang/invoke/MethodHandle" ∧ y_Ha_compress.cls ≠ "java/lang/invoke/VarHandle" ∧ (parseMethodDescriptor y_Ha_compress.desc).map (fun d => d.parameters.length) = some 0 := by decide +kernel
theorem d_Ha_compress_0 : decode b_Ha_compress 0 = .ok (.iconst 0, 1) := by decide +kernel
theorem d_Ha_compress_1 : decode b_Ha_compress 1 = .ok (.istore_n 1, 1) := by decide +kernel
theorem d_Ha_compress_2 : decode b_Ha_compress 2 = .ok (.iload_n 1, 1) := by decide +kernel
theorem d_Ha_compress_3 : decode b_Ha_compress 3 = .ok (.bipush 16, 2) := by decide +kernel
theorem d_Ha_compress_5 : decode b_Ha_compress 5 = .ok (.if_icmp .ge 77, 3) := by decide +kernel
theorem d_Ha_compress_8 : decode b_Ha_compress 8 = .ok (.aload_n 0, 1) := by decide +kernel
theorem d_Ha_compress_9 : decode b_Ha_compress 9 = .ok (.getfield 7, 3) := by decide +kernel
theorem lk_Ha_7 : Cond.fieldLink R_Ha 7 R_Ha (F_Ha 0).2.1 (F_Ha 0).2.2.1 ∈ lw_tg := in_t 70 (by decide +kernel)
theorem d_Ha_compress_12 : decode b_Ha_compress 12 = .ok (.iload_n 1, 1) := by decide +kernel
theorem d_Ha_compress_13 : decode b_Ha_compress 13 = .ok (.aload_n 0, 1) := by decide +kernel
theorem d_Ha_compress_14 : decode b_Ha_compress 14 = .ok (.getfield 13, 3) := by decide +kernel
theorem lk_Ha_13 : Cond.fieldLink R_Ha 13 R_Ha (F_Ha 1).2.1 (F_Ha 1).2.2.1 ∈ lw_tg := in_t 71 (by decide +kernel)
theorem d_Ha_compress_17 : decode b_Ha_compress 17 = .ok (.iconst 4, 1) := by decide +kernel
theorem d_Ha_compress_18 : decode b_Ha_compress 18 = .ok (.iload_n 1, 1) := by decide +kernel
theorem d_Ha_compress_19 : decode b_Ha_compress 19 = .ok (.imul, 1) := by decide +kernel
theorem d_Ha_compress_20 : decode b_Ha_compress 20 = .ok (.baload, 1) := by decide +kernel
theorem d_Ha_compress_21 : decode b_Ha_compress 21 = .ok (.bipush 24, 2) := by decide +kernel
theorem d_Ha_compress_23 : decode b_Ha_compress 23 = .ok (.ishl, 1) := by decide +kernel
theorem d_Ha_compress_24 : decode b_Ha_compress 24 = .ok (.aload_n 0, 1) := by decide +kernel
theorem d_Ha_compress_25 : decode b_Ha_compress 25 = .ok (.getfield 13, 3) := by decide +kernel
theorem d_Ha_compress_28 : decode b_Ha_compress 28 = .ok (.iconst 4, 1) := by decide +kernel
theorem d_Ha_compress_29 : decode b_Ha_compress 29 = .ok (.iload_n 1, 1) := by decide +kernel
theorem d_Ha_compress_30 : decode b_Ha_compress 30 = .ok (.imul, 1) := by decide +kernel
theorem d_Ha_compress_31 : decode b_Ha_compress 31 = .ok (.iconst 1, 1) := by decide +kernel
theorem d_Ha_compress_32 : decode b_Ha_compress 32 = .ok (.iadd, 1) := by decide +kernel
theorem d_Ha_compress_33 : decode b_Ha_compress 33 = .ok (.baload, 1) := by decide +kernel
theorem d_Ha_compress_34 : decode b_Ha_compress 34 = .ok (.sipush 255, 3) := by decide +kernel
theorem d_Ha_compress_37 : decode b_Ha_compress 37 = .ok (.iand, 1) := by decide +kernel
theorem d_Ha_compress_38 : decode b_Ha_compress 38 = .ok (.bipush 16, 2) := by decide +kernel
theorem d_Ha_compress_40 : decode b_Ha_compress 40 = .ok (.ishl, 1) := by decide +kernel
theorem d_Ha_compress_41 : decode b_Ha_compress 41 = .ok (.ior, 1) := by decide +kernel
theorem d_Ha_compress_42 : decode b_Ha_compress 42 = .ok (.aload_n 0, 1) := by decide +kernel
theorem d_Ha_compress_43 : decode b_Ha_compress 43 = .ok (.getfield 13, 3) := by decide +kernel
theorem d_Ha_compress_46 : decode b_Ha_compress 46 = .ok (.iconst 4, 1) := by decide +kernel
theorem d_Ha_compress_47 : decode b_Ha_compress 47 = .ok (.iload_n 1, 1) := by decide +kernel
theorem d_Ha_compress_48 : decode b_Ha_compress 48 = .ok (.imul, 1) := by decide +kernel
theorem d_Ha_compress_49 : decode b_Ha_compress 49 = .ok (.iconst 2, 1) := by decide +kernel
theorem d_Ha_compress_50 : decode b_Ha_compress 50 = .ok (.iadd, 1) := by decide +kernel
theorem d_Ha_compress_51 : decode b_Ha_compress 51 = .ok (.baload, 1) := by decide +kernel
theorem d_Ha_compress_52 : decode b_Ha_compress 52 = .ok (.sipush 255, 3) := by decide +kernel
theorem d_Ha_compress_55 : decode b_Ha_compress 55 = .ok (.iand, 1) := by decide +kernel
theorem d_Ha_compress_56 : decode b_Ha_compress 56 = .ok (.bipush 8, 2) := by decide +kernel
theorem d_Ha_compress_58 : decode b_Ha_compress 58 = .ok (.ishl, 1) := by decide +kernel
theorem d_Ha_compress_59 : decode b_Ha_compress 59 = .ok (.ior, 1) := by decide +kernel
theorem d_Ha_compress_60 : decode b_Ha_compress 60 = .ok (.aload_n 0, 1) := by decide +kernel
theorem d_Ha_compress_61 : decode b_Ha_compress 61 = .ok (.getfield 13, 3) := by decide +kernel
theorem d_Ha_compress_64 : decode b_Ha_compress 64 = .ok (.iconst 4, 1) := by decide +kernel
theorem d_Ha_compress_65 : decode b_Ha_compress 65 = .ok (.iload_n 1, 1) := by decide +kernel
theorem d_Ha_compress_66 : decode b_Ha_compress 66 = .ok (.imul, 1) := by decide +kernel
theorem d_Ha_compress_67 : decode b_Ha_compress 67 = .ok (.iconst 3, 1) := by decide +kernel
theorem d_Ha_compress_68 : decode b_Ha_compress 68 = .ok (.iadd, 1) := by decide +kernel
theorem d_Ha_compress_69 : decode b_Ha_compress 69 = .ok (.baload, 1) := by decide +kernel
theorem d_Ha_compress_70 : decode b_Ha_compress 70 = .ok (.sipush 255, 3) := by decide +kernel
theorem d_Ha_compress_73 : decode b_Ha_compress 73 = .ok (.iand, 1) := by decide +kernel
theorem d_Ha_compress_74 : decode b_Ha_compress 74 = .ok (.ior, 1) := by decide +kernel
theorem d_Ha_compress_75 : decode b_Ha_compress 75 = .ok (.iastore, 1) := by decide +kernel
theorem d_Ha_compress_76 : decode b_Ha_compress 76 = .ok (.iinc 1 1, 3) := by decide +kernel
theorem d_Ha_compress_79 : decode b_Ha_compress 79 = .ok (.goto (-77), 3) := by decide +kernel
theorem d_Ha_compress_82 : decode b_Ha_compress 82 = .ok (.bipush 16, 2) := by decide +kernel
theorem d_Ha_compress_84 : decode b_Ha_compress 84 = .ok (.istore_n 1, 1) := by decide +kernel
theorem d_Ha_compress_85 : decode b_Ha_compress 85 = .ok (.iload_n 1, 1) := by decide +kernel
theorem d_Ha_compress_86 : decode b_Ha_compress 86 = .ok (.bipush 80, 2) := by decide +kernel
theorem d_Ha_compress_88 : decode b_Ha_compress 88 = .ok (.if_icmp .ge 62, 3) := by decide +kernel
theorem d_Ha_compress_91 : decode b_Ha_compress 91 = .ok (.aload_n 0, 1) := by decide +kernel
theorem d_Ha_compress_92 : decode b_Ha_compress 92 = .ok (.getfield 7, 3) := by decide +kernel
theorem d_Ha_compress_95 : decode b_Ha_compress 95 = .ok (.iload_n 1, 1) := by decide +kernel
theorem d_Ha_compress_96 : decode b_Ha_compress 96 = .ok (.iconst 3, 1) := by decide +kernel
theorem d_Ha_compress_97 : decode b_Ha_compress 97 = .ok (.isub, 1) := by decide +kernel
theorem d_Ha_compress_98 : decode b_Ha_compress 98 = .ok (.iaload, 1) := by decide +kernel
theorem d_Ha_compress_99 : decode b_Ha_compress 99 = .ok (.aload_n 0, 1) := by decide +kernel
theorem d_Ha_compress_100 : decode b_Ha_compress 100 = .ok (.getfield 7, 3) := by decide +kernel
theorem d_Ha_compress_103 : decode b_Ha_compress 103 = .ok (.iload_n 1, 1) := by decide +kernel
theorem d_Ha_compress_104 : decode b_Ha_compress 104 = .ok (.bipush 8, 2) := by decide +kernel
theorem d_Ha_compress_106 : decode b_Ha_compress 106 = .ok (.isub, 1) := by decide +kernel
theorem d_Ha_compress_107 : decode b_Ha_compress 107 = .ok (.iaload, 1) := by decide +kernel
theorem d_Ha_compress_108 : decode b_Ha_compress 108 = .ok (.ixor, 1) := by decide +kernel
theorem d_Ha_compress_109 : decode b_Ha_compress 109 = .ok (.aload_n 0, 1) := by decide +kernel
theorem d_Ha_compress_110 : decode b_Ha_compress 110 = .ok (.getfield 7, 3) := by decide +kernel
theorem d_Ha_compress_113 : decode b_Ha_compress 113 = .ok (.iload_n 1, 1) := by decide +kernel
theorem d_Ha_compress_114 : decode b_Ha_compress 114 = .ok (.bipush 14, 2) := by decide +kernel
theorem d_Ha_compress_116 : decode b_Ha_compress 116 = .ok (.isub, 1) := by decide +kernel
theorem d_Ha_compress_117 : decode b_Ha_compress 117 = .ok (.iaload, 1) := by decide +kernel
theorem d_Ha_compress_118 : decode b_Ha_compress 118 = .ok (.ixor, 1) := by decide +kernel
theorem d_Ha_compress_119 : decode b_Ha_compress 119 = .ok (.aload_n 0, 1) := by decide +kernel
theorem d_Ha_compress_120 : decode b_Ha_compress 120 = .ok (.getfield 7, 3) := by decide +kernel
theorem d_Ha_compress_123 : decode b_Ha_compress 123 = .ok (.iload_n 1, 1) := by decide +kernel
theorem d_Ha_compress_124 : decode b_Ha_compress 124 = .ok (.bipush 16, 2) := by decide +kernel
theorem d_Ha_compress_126 : decode b_Ha_compress 126 = .ok (.isub, 1) := by decide +kernel
theorem d_Ha_compress_127 : decode b_Ha_compress 127 = .ok (.iaload, 1) := by decide +kernel
theorem d_Ha_compress_128 : decode b_Ha_compress 128 = .ok (.ixor, 1) := by decide +kernel
theorem d_Ha_compress_129 : decode b_Ha_compress 129 = .ok (.istore_n 2, 1) := by decide +kernel
theorem d_Ha_compress_130 : decode b_Ha_compress 130 = .ok (.aload_n 0, 1) := by decide +kernel
theorem d_Ha_compress_131 : decode b_Ha_compress 131 = .ok (.getfield 7, 3) := by decide +kernel
theorem d_Ha_compress_134 : decode b_Ha_compress 134 = .ok (.iload_n 1, 1) := by decide +kernel
theorem d_Ha_compress_135 : decode b_Ha_compress 135 = .ok (.iload_n 2, 1) := by decide +kernel
theorem d_Ha_compress_136 : decode b_Ha_compress 136 = .ok (.iconst 1, 1) := by decide +kernel
theorem d_Ha_compress_137 : decode b_Ha_compress 137 = .ok (.ishl, 1) := by decide +kernel
theorem d_Ha_compress_138 : decode b_Ha_compress 138 = .ok (.iload_n 2, 1) := by decide +kernel
theorem d_Ha_compress_139 : decode b_Ha_compress 139 = .ok (.bipush 31, 2) := by decide +kernel
theorem d_Ha_compress_141 : decode b_Ha_compress 141 = .ok (.iushr, 1) := by decide +kernel
theorem d_Ha_compress_142 : decode b_Ha_compress 142 = .ok (.ior, 1) := by decide +kernel
theorem d_Ha_compress_143 : decode b_Ha_compress 143 = .ok (.iastore, 1) := by decide +kernel
theorem d_Ha_compress_144 : decode b_Ha_compress 144 = .ok (.iinc 1 1, 3) := by decide +kernel
theorem d_Ha_compress_147 : decode b_Ha_compress 147 = .ok (.goto (-62), 3) := by decide +kernel
theorem d_Ha_compress_150 : decode b_Ha_compress 150 = .ok (.aload_n 0, 1) := by decide +kernel
theorem d_Ha_compress_151 : decode b_Ha_compress 151 = .ok (.getfield 17, 3) := by decide +kernel
theorem lk_Ha_17 : Cond.fieldLink R_Ha 17 R_Ha (F_Ha 2).2.1 (F_Ha 2).2.2.1 ∈ lw_tg := in_t 72 (by decide +kernel)
theorem d_Ha_compress_154 : decode b_Ha_compress 154 = .ok (.iconst 0, 1) := by decide +kernel
theorem d_Ha_compress_155 : decode b_Ha_compress 155 = .ok (.iaload, 1) := by decide +kernel
theorem d_Ha_compress_156 : decode b_Ha_compress 156 = .ok (.istore_n 1, 1) := by decide +kernel
theorem d_Ha_compress_157 : decode b_Ha_compress 157 = .ok (.aload_n 0, 1) := by decide +kernel
theorem d_Ha_compress_158 : decode b_Ha_compress 158 = .ok (.getfield 17, 3) := by decide +kernel
theorem d_Ha_compress_161 : decode b_Ha_compress 161 = .ok (.iconst 1, 1) := by decide +kernel
theorem d_Ha_compress_162 : decode b_Ha_compress 162 = .ok (.iaload, 1) := by decide +kernel
theorem d_Ha_compress_163 : decode b_Ha_compress 163 = .ok (.istore_n 2, 1) := by decide +kernel
theorem d_Ha_compress_164 : decode b_Ha_compress 164 = .ok (.aload_n 0, 1) := by decide +kernel
theorem d_Ha_compress_165 : decode b_Ha_compress 165 = .ok (.getfield 17, 3) := by decide +kernel
theorem d_Ha_compress_168 : decode b_Ha_compress 168 = .ok (.iconst 2, 1) := by decide +kernel
theorem d_Ha_compress_169 : decode b_Ha_compress 169 = .ok (.iaload, 1) := by decide +kernel
theorem d_Ha_compress_170 : decode b_Ha_compress 170 = .ok (.istore_n 3, 1) := by decide +kernel
theorem d_Ha_compress_171 : decode b_Ha_compress 171 = .ok (.aload_n 0, 1) := by decide +kernel
theorem d_Ha_compress_172 : decode b_Ha_compress 172 = .ok (.getfield 17, 3) := by decide +kernel
theorem d_Ha_compress_175 : decode b_Ha_compress 175 = .ok (.iconst 3, 1) := by decide +kernel
theorem d_Ha_compress_176 : decode b_Ha_compress 176 = .ok (.iaload, 1) := by decide +kernel
theorem d_Ha_compress_177 : decode b_Ha_compress 177 = .ok (.istore 4, 2) := by decide +kernel
theorem d_Ha_compress_179 : decode b_Ha_compress 179 = .ok (.aload_n 0, 1) := by decide +kernel
theorem d_Ha_compress_180 : decode b_Ha_compress 180 = .ok (.getfield 17, 3) := by decide +kernel
theorem d_Ha_compress_183 : decode b_Ha_compress 183 = .ok (.iconst 4, 1) := by decide +kernel
theorem d_Ha_compress_184 : decode b_Ha_compress 184 = .ok (.iaload, 1) := by decide +kernel
theorem d_Ha_compress_185 : decode b_Ha_compress 185 = .ok (.istore 5, 2) := by decide +kernel
theorem d_Ha_compress_187 : decode b_Ha_compress 187 = .ok (.iconst 0, 1) := by decide +kernel
theorem d_Ha_compress_188 : decode b_Ha_compress 188 = .ok (.istore 6, 2) := by decide +kernel
theorem d_Ha_compress_190 : decode b_Ha_compress 190 = .ok (.iload 6, 2) := by decide +kernel
theorem d_Ha_compress_192 : decode b_Ha_compress 192 = .ok (.bipush 80, 2) := by decide +kernel
theorem d_Ha_compress_194 : decode b_Ha_compress 194 = .ok (.if_icmp .ge 139, 3) := by decide +kernel
theorem d_Ha_compress_197 : decode b_Ha_compress 197 = .ok (.iload 6, 2) := by decide +kernel
theorem d_Ha_compress_199 : decode b_Ha_compress 199 = .ok (.bipush 20, 2) := by decide +kernel
theorem d_Ha_compress_201 : decode b_Ha_compress 201 = .ok (.if_icmp .ge 21, 3) := by decide +kernel
theorem d_Ha_compress_204 : decode b_Ha_compress 204 = .ok (.iload_n 2, 1) := by decide +kernel
theorem d_Ha_compress_205 : decode b_Ha_compress 205 = .ok (.iload_n 3, 1) := by decide +kernel
theorem d_Ha_compress_206 : decode b_Ha_compress 206 = .ok (.iand, 1) := by decide +kernel
theorem d_Ha_compress_207 : decode b_Ha_compress 207 = .ok (.iload_n 2, 1) := by decide +kernel
theorem d_Ha_compress_208 : decode b_Ha_compress 208 = .ok (.iconst (-1), 1) := by decide +kernel
theorem d_Ha_compress_209 : decode b_Ha_compress 209 = .ok (.ixor, 1) := by decide +kernel
theorem d_Ha_compress_210 : decode b_Ha_compress 210 = .ok (.iload 4, 2) := by decide +kernel
theorem d_Ha_compress_212 : decode b_Ha_compress 212 = .ok (.iand, 1) := by decide +kernel
theorem d_Ha_compress_213 : decode b_Ha_compress 213 = .ok (.ior, 1) := by decide +kernel
theorem d_Ha_compress_214 : decode b_Ha_compress 214 = .ok (.ldc 57, 2) := by decide +kernel
theorem cn_Ha_57 : Cond.constant R_Ha 57 (1518500249) ∈ lw_tg := in_t 601 (by decide +kernel)
theorem d_Ha_compress_216 : decode b_Ha_compress 216 = .ok (.iadd, 1) := by decide +kernel
theorem d_Ha_compress_217 : decode b_Ha_compress 217 = .ok (.istore 7, 2) := by decide +kernel
theorem d_Ha_compress_219 : decode b_Ha_compress 219 = .ok (.goto 63, 3) := by decide +kernel
theorem d_Ha_compress_222 : decode b_Ha_compress 222 = .ok (.iload 6, 2) := by decide +kernel
theorem d_Ha_compress_224 : decode b_Ha_compress 224 = .ok (.bipush 40, 2) := by decide +kernel
theorem d_Ha_compress_226 : decode b_Ha_compress 226 = .ok (.if_icmp .ge 17, 3) := by decide +kernel
theorem d_Ha_compress_229 : decode b_Ha_compress 229 = .ok (.iload_n 2, 1) := by decide +kernel
theorem d_Ha_compress_230 : decode b_Ha_compress 230 = .ok (.iload_n 3, 1) := by decide +kernel
theorem d_Ha_compress_231 : decode b_Ha_compress 231 = .ok (.ixor, 1) := by decide +kernel
theorem d_Ha_compress_232 : decode b_Ha_compress 232 = .ok (.iload 4, 2) := by decide +kernel
theorem d_Ha_compress_234 : decode b_Ha_compress 234 = .ok (.ixor, 1) := by decide +kernel
theorem d_Ha_compress_235 : decode b_Ha_compress 235 = .ok (.ldc 58, 2) := by decide +kernel
theorem cn_Ha_58 : Cond.constant R_Ha 58 (1859775393) ∈ lw_tg := in_t 602 (by decide +kernel)
theorem d_Ha_compress_237 : decode b_Ha_compress 237 = .ok (.iadd, 1) := by decide +kernel
theorem d_Ha_compress_238 : decode b_Ha_compress 238 = .ok (.istore 7, 2) := by decide +kernel
theorem d_Ha_compress_240 : decode b_Ha_compress 240 = .ok (.goto 42, 3) := by decide +kernel
theorem d_Ha_compress_243 : decode b_Ha_compress 243 = .ok (.iload 6, 2) := by decide +kernel
theorem d_Ha_compress_245 : decode b_Ha_compress 245 = .ok (.bipush 60, 2) := by decide +kernel
theorem d_Ha_compress_247 : decode b_Ha_compress 247 = .ok (.if_icmp .ge 24, 3) := by decide +kernel
theorem d_Ha_compress_250 : decode b_Ha_compress 250 = .ok (.iload_n 2, 1) := by decide +kernel
theorem d_Ha_compress_251 : decode b_Ha_compress 251 = .ok (.iload_n 3, 1) := by decide +kernel
theorem d_Ha_compress_252 : decode b_Ha_compress 252 = .ok (.iand, 1) := by decide +kernel
theorem d_Ha_compress_253 : decode b_Ha_compress 253 = .ok (.iload_n 2, 1) := by decide +kernel
theorem d_Ha_compress_254 : decode b_Ha_compress 254 = .ok (.iload 4, 2) := by decide +kernel
theorem d_Ha_compress_256 : decode b_Ha_compress 256 = .ok (.iand, 1) := by decide +kernel
theorem d_Ha_compress_257 : decode b_Ha_compress 257 = .ok (.ior, 1) := by decide +kernel
theorem d_Ha_compress_258 : decode b_Ha_compress 258 = .ok (.iload_n 3, 1) := by decide +kernel
theorem d_Ha_compress_259 : decode b_Ha_compress 259 = .ok (.iload 4, 2) := by decide +kernel
theorem d_Ha_compress_261 : decode b_Ha_compress 261 = .ok (.iand, 1) := by decide +kernel
theorem d_Ha_compress_262 : decode b_Ha_compress 262 = .ok (.ior, 1) := by decide +kernel
theorem d_Ha_compress_263 : decode b_Ha_compress 263 = .ok (.ldc 59, 2) := by decide +kernel
theorem cn_Ha_59 : Cond.constant R_Ha 59 (-1894007588) ∈ lw_tg := in_t 603 (by decide +kernel)
theorem d_Ha_compress_265 : decode b_Ha_compress 265 = .ok (.iadd, 1) := by decide +kernel
theorem d_Ha_compress_266 : decode b_Ha_compress 266 = .ok (.istore 7, 2) := by decide +kernel
theorem d_Ha_compress_268 : decode b_Ha_compress 268 = .ok (.goto 14, 3) := by decide +kernel
theorem d_Ha_compress_271 : decode b_Ha_compress 271 = .ok (.iload_n 2, 1) := by decide +kernel
theorem d_Ha_compress_272 : decode b_Ha_compress 272 = .ok (.iload_n 3, 1) := by decide +kernel
theorem d_Ha_compress_273 : decode b_Ha_compress 273 = .ok (.ixor, 1) := by decide +kernel
theorem d_Ha_compress_274 : decode b_Ha_compress 274 = .ok (.iload 4, 2) := by decide +kernel
theorem d_Ha_compress_276 : decode b_Ha_compress 276 = .ok (.ixor, 1) := by decide +kernel
theorem d_Ha_compress_277 : decode b_Ha_compress 277 = .ok (.ldc 60, 2) := by decide +kernel
theorem cn_Ha_60 : Cond.constant R_Ha 60 (-899497514) ∈ lw_tg := in_t 604 (by decide +kernel)
theorem d_Ha_compress_279 : decode b_Ha_compress 279 = .ok (.iadd, 1) := by decide +kernel
theorem d_Ha_compress_280 : decode b_Ha_compress 280 = .ok (.istore 7, 2) := by decide +kernel
theorem d_Ha_compress_282 : decode b_Ha_compress 282 = .ok (.iload_n 1, 1) := by decide +kernel
theorem d_Ha_compress_283 : decode b_Ha_compress 283 = .ok (.iconst 5, 1) := by decide +kernel
theorem d_Ha_compress_284 : decode b_Ha_compress 284 = .ok (.ishl, 1) := by decide +kernel
theorem d_Ha_compress_285 : decode b_Ha_compress 285 = .ok (.iload_n 1, 1) := by decide +kernel
theorem d_Ha_compress_286 : decode b_Ha_compress 286 = .ok (.bipush 27, 2) := by decide +kernel
theorem d_Ha_compress_288 : decode b_Ha_compress 288 = .ok (.iushr, 1) := by decide +kernel
theorem d_Ha_compress_289 : decode b_Ha_compress 289 = .ok (.ior, 1) := by decide +kernel
theorem d_Ha_compress_290 : decode b_Ha_compress 290 = .ok (.iload 7, 2) := by decide +kernel
theorem d_Ha_compress_292 : decode b_Ha_compress 292 = .ok (.iadd, 1) := by decide +kernel
theorem d_Ha_compress_293 : decode b_Ha_compress 293 = .ok (.iload 5, 2) := by decide +kernel
theorem d_Ha_compress_295 : decode b_Ha_compress 295 = .ok (.iadd, 1) := by decide +kernel
theorem d_Ha_compress_296 : decode b_Ha_compress 296 = .ok (.aload_n 0, 1) := by decide +kernel
theorem d_Ha_compress_297 : decode b_Ha_compress 297 = .ok (.getfield 7, 3) := by decide +kernel
theorem d_Ha_compress_300 : decode b_Ha_compress 300 = .ok (.iload 6, 2) := by decide +kernel
theorem d_Ha_compress_302 : decode b_Ha_compress 302 = .ok (.iaload, 1) := by decide +kernel
theorem d_Ha_compress_303 : decode b_Ha_compress 303 = .ok (.iadd, 1) := by decide +kernel
theorem d_Ha_compress_304 : decode b_Ha_compress 304 = .ok (.istore 8, 2) := by decide +kernel
theorem d_Ha_compress_306 : decode b_Ha_compress 306 = .ok (.iload 4, 2) := by decide +kernel
theorem d_Ha_compress_308 : decode b_Ha_compress 308 = .ok (.istore 5, 2) := by decide +kernel
theorem d_Ha_compress_310 : decode b_Ha_compress 310 = .ok (.iload_n 3, 1) := by decide +kernel
theorem d_Ha_compress_311 : decode b_Ha_compress 311 = .ok (.istore 4, 2) := by decide +kernel
theorem d_Ha_compress_313 : decode b_Ha_compress 313 = .ok (.iload_n 2, 1) := by decide +kernel
theorem d_Ha_compress_314 : decode b_Ha_compress 314 = .ok (.bipush 30, 2) := by decide +kernel
theorem d_Ha_compress_316 : decode b_Ha_compress 316 = .ok (.ishl, 1) := by decide +kernel
theorem d_Ha_compress_317 : decode b_Ha_compress 317 = .ok (.iload_n 2, 1) := by decide +kernel
theorem d_Ha_compress_318 : decode b_Ha_compress 318 = .ok (.iconst 2, 1) := by decide +kernel
theorem d_Ha_compress_319 : decode b_Ha_compress 319 = .ok (.iushr, 1) := by decide +kernel
theorem d_Ha_compress_320 : decode b_Ha_compress 320 = .ok (.ior, 1) := by decide +kernel
theorem d_Ha_compress_321 : decode b_Ha_compress 321 = .ok (.istore_n 3, 1) := by decide +kernel
theorem d_Ha_compress_322 : decode b_Ha_compress 322 = .ok (.iload_n 1, 1) := by decide +kernel
theorem d_Ha_compress_323 : decode b_Ha_compress 323 = .ok (.istore_n 2, 1) := by decide +kernel
theorem d_Ha_compress_324 : decode b_Ha_compress 324 = .ok (.iload 8, 2) := by decide +kernel
theorem d_Ha_compress_326 : decode b_Ha_compress 326 = .ok (.istore_n 1, 1) := by decide +kernel
theorem d_Ha_compress_327 : decode b_Ha_compress 327 = .ok (.iinc 6 1, 3) := by decide +kernel
theorem d_Ha_compress_330 : decode b_Ha_compress 330 = .ok (.goto (-140), 3) := by decide +kernel
theorem d_Ha_compress_333 : decode b_Ha_compress 333 = .ok (.aload_n 0, 1) := by decide +kernel
theorem d_Ha_compress_334 : decode b_Ha_compress 334 = .ok (.getfield 17, 3) := by decide +kernel
theorem d_Ha_compress_337 : decode b_Ha_compress 337 = .ok (.iconst 0, 1) := by decide +kernel
theorem d_Ha_compress_338 : decode b_Ha_compress 338 = .ok (.dup2, 1) := by decide +kernel
theorem d_Ha_compress_339 : decode b_Ha_compress 339 = .ok (.iaload, 1) := by decide +kernel
theorem d_Ha_compress_340 : decode b_Ha_compress 340 = .ok (.iload_n 1, 1) := by decide +kernel
theorem d_Ha_compress_341 : decode b_Ha_compress 341 = .ok (.iadd, 1) := by decide +kernel
theorem d_Ha_compress_342 : decode b_Ha_compress 342 = .ok (.iastore, 1) := by decide +kernel
theorem d_Ha_compress_343 : decode b_Ha_compress 343 = .ok (.aload_n 0, 1) := by decide +kernel
theorem d_Ha_compress_344 : decode b_Ha_compress 344 = .ok (.getfield 17, 3) := by decide +kernel
theorem d_Ha_compress_347 : decode b_Ha_compress 347 = .ok (.iconst 1, 1) := by decide +kernel
theorem d_Ha_compress_348 : decode b_Ha_compress 348 = .ok (.dup2, 1) := by decide +kernel
theorem d_Ha_compress_349 : decode b_Ha_compress 349 = .ok (.iaload, 1) := by decide +kernel
theorem d_Ha_compress_350 : decode b_Ha_compress 350 = .ok (.iload_n 2, 1) := by decide +kernel
theorem d_Ha_compress_351 : decode b_Ha_compress 351 = .ok (.iadd, 1) := by decide +kernel
theorem d_Ha_compress_352 : decode b_Ha_compress 352 = .ok (.iastore, 1) := by decide +kernel
theorem d_Ha_compress_353 : decode b_Ha_compress 353 = .ok (.aload_n 0, 1) := by decide +kernel
theorem d_Ha_compress_354 : decode b_Ha_compress 354 = .ok (.getfield 17, 3) := by decide +kernel
theorem d_Ha_compress_357 : decode b_Ha_compress 357 = .ok (.iconst 2, 1) := by decide +kernel
theorem d_Ha_compress_358 : decode b_Ha_compress 358 = .ok (.dup2, 1) := by decide +kernel
theorem d_Ha_compress_359 : decode b_Ha_compress 359 = .ok (.iaload, 1) := by decide +kernel
theorem d_Ha_compress_360 : decode b_Ha_compress 360 = .ok (.iload_n 3, 1) := by decide +kernel
theorem d_Ha_compress_361 : decode b_Ha_compress 361 = .ok (.iadd, 1) := by decide +kernel
theorem d_Ha_compress_362 : decode b_Ha_compress 362 = .ok (.iastore, 1) := by decide +kernel
theorem d_Ha_compress_363 : decode b_Ha_compress 363 = .ok (.aload_n 0, 1) := by decide +kernel
theorem d_Ha_compress_364 : decode b_Ha_compress 364 = .ok (.getfield 17, 3) := by decide +kernel
theorem d_Ha_compress_367 : decode b_Ha_compress 367 = .ok (.iconst 3, 1) := by decide +kernel
theorem d_Ha_compress_368 : decode b_Ha_compress 368 = .ok (.dup2, 1) := by decide +kernel
theorem d_Ha_compress_369 : decode b_Ha_compress 369 = .ok (.iaload, 1) := by decide +kernel
theorem d_Ha_compress_370 : decode b_Ha_compress 370 = .ok (.iload 4, 2) := by decide +kernel
theorem d_Ha_compress_372 : decode b_Ha_compress 372 = .ok (.iadd, 1) := by decide +kernel
theorem d_Ha_compress_373 : decode b_Ha_compress 373 = .ok (.iastore, 1) := by decide +kernel
theorem d_Ha_compress_374 : decode b_Ha_compress 374 = .ok (.aload_n 0, 1) := by decide +kernel
theorem d_Ha_compress_375 : decode b_Ha_compress 375 = .ok (.getfield 17, 3) := by decide +kernel
theorem d_Ha_compress_378 : decode b_Ha_compress 378 = .ok (.iconst 4, 1) := by decide +kernel
theorem d_Ha_compress_379 : decode b_Ha_compress 379 = .ok (.dup2, 1) := by decide +kernel
theorem d_Ha_compress_380 : decode b_Ha_compress 380 = .ok (.iaload, 1) := by decide +kernel
theorem d_Ha_compress_381 : decode b_Ha_compress 381 = .ok (.iload 5, 2) := by decide +kernel
theorem d_Ha_compress_383 : decode b_Ha_compress 383 = .ok (.iadd, 1) := by decide +kernel
theorem d_Ha_compress_384 : decode b_Ha_compress 384 = .ok (.iastore, 1) := by decide +kernel
theorem d_Ha_compress_385 : decode b_Ha_compress 385 = .ok (.return_, 1) := by decide +kernel
set_option maxHeartbeats 4000000 in
set_option maxRecDepth 100000 in
theorem c_Ha_compress (l : Launch) (D : va_G) (E : cE) (L : List Nat) (f : pF) (sz : Nat) (o wd bl sta inn out mac fl : Nat) (tot : Int32) (g_wd g_bl g_sta g_inn g_out g_mac : Nat → Int32) (m_o : o ∈ L) (m_wd : wd ∈ L) (m_bl : bl ∈ L) (m_sta : sta ∈ L) (m_inn : inn ∈ L) (m_out : out ∈ L) (m_mac : mac ∈ L) (e_o : f o = .inr (6, [.ref wd, .ref bl, .ref sta, .ref inn, .ref out, .int (nI fl), .int tot, .ref mac])) (e_wd : f wd = .inl (E.2.1, 80, .inl g_wd)) (e_bl : f bl = .inl (E.1, 64, .inl g_bl)) (e_sta : f sta = .inl (E.2.1, 5, .inl g_sta)) (e_inn : f inn = .inl (E.2.1, 5, .inl g_inn)) (e_out : f out = .inl (E.2.1, 5, .inl g_out)) (e_mac : f mac = .inl (E.1, 20, .inl g_mac)) (f_bl : fB g_bl) (f_mac : fB g_mac) (ap_wd_bl : wd ≠ bl) (ap_wd_sta : wd ≠ sta) (ap_wd_inn : wd ≠ inn) (ap_wd_out : wd ≠ out) (ap_wd_mac : wd ≠ mac) (ap_bl_sta : bl ≠ sta) (ap_bl_inn : bl ≠ inn) (ap_bl_out : bl ≠ out) (ap_bl_mac : bl ≠ mac) (ap_sta_inn : sta ≠ inn) (ap_sta_out : sta ≠ out) (ap_sta_mac : sta ≠ mac) (ap_inn_out : inn ≠ out) (ap_inn_mac : inn ≠ mac) (ap_out_mac : out ≠ mac) : Met l y_Ha_compress (k_Ha_compress :: lw_tg) (mR 0 0) (va_Pc [.ref o] (cPre D E L f sz)) (va_Qv (fun (u : cU) => u.1 = L ∧ (∀ x, x ≠ wd → x ≠ sta → u.2 x = f x) ∧ ∃ (g2_wd g2_sta : Nat → Int32), u.2 wd = .inl (E.2.1, 80, .inl g2_wd) ∧ u.2 sta = .inl (E.2.1, 5, .inl g2_sta)) (cPost D E (pA L sz)) (pA L sz)) 0 0 (pA L sz) := by
  refine c_enter (own := R_Ha) (by decide) rfl (Nat.le_of_ble_eq_true rfl) ⟨rfl, rfl⟩ (fun p e s m below meth c ls AV QQ H locs hQQ X Y hA hin hr hlk hml hl => ?_)
  have hl : lv_has ls 9 [(0, .ref o)] := hl
  refine lv_iconst (v := (nI 0)) X.1 X.2.1 d_Ha_compress_0 (by decide) ?_
  refine lv_istore_n (lv' := [(1, .int (nI 0)), (0, .ref o)]) X.1 X.2.1 d_Ha_compress_1 rfl hl (by decide) rfl (fun ls hl => ?_)
  have lp1 : ∀ (n2 i : Nat) (g8 : Nat → Int32) (g11 : Nat → Int32) (f4 : pF) (H : Heap) (locs : List Loc) (ls : Array Slot), 16 - i = n2 → (0 ≤ i) → (i ≤ 16) → f4 o = .inr (6, [.ref wd, .ref bl, .ref sta, .ref inn, .ref out, .int (nI fl), .int tot, .ref mac]) → f4 wd = .inl (E.2.1, 80, .inl g8) → f4 bl = .inl (E.1, 64, .inl g_bl) → f4 sta = .inl (E.2.1, 5, .inl g11) → f4 inn = .inl (E.2.1, 5, .inl g_inn) → f4 out = .inl (E.2.1, 5, .inl g_out) → f4 mac = .inl (E.1, 20, .inl g_mac) → (∀ x, x ≠ wd → x ≠ sta → f4 x = f x) → pH D cCl (pA L sz) s.heap L f4 H locs → lv_has ls 9 [(1, .int (nI i)), (0, .ref o)] → W p l e (mR 0 0) s m AV below meth c H locs 0 0 QQ (F0 m 2 ls []) := by
    intro n2
    induction n2 with
    | zero =>
      intro i g8 g11 f4 H locs ls hm17 hc15 hc16  e6 e7 e9 e10 e12 e13 e14 hF5 Y hl
      refine lv_iload_n X.1 X.2.1 d_Ha_compress_2 rfl (lv_at hl 0 rfl) ?_
      refine lv_bipush (v := (nI 16)) X.1 X.2.1 d_Ha_compress_3 (by decide) ?_
      refine lv_icmp_ge (tgt := 82) X.1 X.2.1 d_Ha_compress_5 (by decide) (fun c18 => ?_) (fun c18 => absurd ?_ c18)
      rotate_left
      · (rw [nI_leI (by omega) (by omega)] <;> omega)
      rw [nI_leI (by omega) (by omega)] at c18
      refine lv_bipush (v := (nI 16)) X.1 X.2.1 d_Ha_compress_82 (by decide) ?_
      refine lv_istore_n (lv' := [(1, .int (nI 16)), (0, .ref o)]) X.1 X.2.1 d_Ha_compress_84 rfl hl (by decide) rfl (fun ls hl => ?_)
      have lp19 : ∀ (n20 i : Nat) (g26 : Nat → Int32) (g29 : Nat → Int32) (f22 : pF) (H : Heap) (locs : List Loc) (ls : Array Slot), 80 - i = n20 → (16 ≤ i) → (i ≤ 80) → f22 o = .inr (6, [.ref wd, .ref bl, .ref sta, .ref inn, .ref out, .int (nI fl), .int tot, .ref mac]) → f22 wd = .inl (E.2.1, 80, .inl g26) → f22 bl = .inl (E.1, 64, .inl g_bl) → f22 sta = .inl (E.2.1, 5, .inl g29) → f22 inn = .inl (E.2.1, 5, .inl g_inn) → f22 out = .inl (E.2.1, 5, .inl g_out) → f22 mac = .inl (E.1, 20, .inl g_mac) → (∀ x, x ≠ wd → x ≠ sta → f22 x = f x) → pH D cCl (pA L sz) s.heap L f22 H locs → lv_has ls 9 [(1, .int (nI i)), (0, .ref o)] → W p l e (mR 0 0) s m AV below meth c H locs 0 0 QQ (F0 m 85 ls []) := by
        intro n20
        induction n20 with
        | zero =>
          intro i g26 g29 f22 H locs ls hm35 hc33 hc34  e24 e25 e27 e28 e30 e31 e32 hF23 Y hl
          refine lv_iload_n X.1 X.2.1 d_Ha_compress_85 rfl (lv_at hl 0 rfl) ?_
          refine lv_bipush (v := (nI 80)) X.1 X.2.1 d_Ha_compress_86 (by decide) ?_
          refine lv_icmp_ge (tgt := 150) X.1 X.2.1 d_Ha_compress_88 (by decide) (fun c36 => ?_) (fun c36 => absurd ?_ c36)
          rotate_left
          · (rw [nI_leI (by omega) (by omega)] <;> omega)
          rw [nI_leI (by omega) (by omega)] at c36
          refine lv_aload_n X.1 X.2.1 d_Ha_compress_150 rfl (lv_at hl 1 rfl) ?_
          refine q_get X.1 X.2.1 X.2.2.1 i_Ha X.2.2.2.1 X.2.2.2.2 Y m_o e24 rfl 2 (by decide) (X.2.2.1 _ lk_Ha_17) (fun _ h9 => h9) rfl d_Ha_compress_151 ?_
          refine lv_iconst (v := (nI 0)) X.1 X.2.1 d_Ha_compress_154 (by decide) ?_
          refine q_iald X.1 X.2.1 X.2.2.2.2 Y 1 m_sta e28 rfl (vp_in_nI (by omega) (by omega)) d_Ha_compress_155 ?_
          refine t_any (fun v37 => ?_)
          refine lv_istore_n (lv' := [(1, .int v37), (0, .ref o)]) X.1 X.2.1 d_Ha_compress_156 rfl hl (by decide) rfl (fun ls hl => ?_)
          refine lv_aload_n X.1 X.2.1 d_Ha_compress_157 rfl (lv_at hl 1 rfl) ?_
          refine q_get X.1 X.2.1 X.2.2.1 i_Ha X.2.2.2.1 X.2.2.2.2 Y m_o e24 rfl 2 (by decide) (X.2.2.1 _ lk_Ha_17) (fun _ h9 => h9) rfl d_Ha_compress_158 ?_
          refine lv_iconst (v := (nI 1)) X.1 X.2.1 d_Ha_compress_161 (by decide) ?_
          refine q_iald X.1 X.2.1 X.2.2.2.2 Y 1 m_sta e28 rfl (vp_in_nI (by omega) (by omega)) d_Ha_compress_162 ?_
          refine t_any (fun v38 => ?_)
          refine lv_istore_n (lv' := [(2, .int v38), (1, .int v37), (0, .ref o)]) X.1 X.2.1 d_Ha_compress_163 rfl hl (by decide) rfl (fun ls hl => ?_)
          refine lv_aload_n X.1 X.2.1 d_Ha_compress_164 rfl (lv_at hl 2 rfl) ?_
          refine q_get X.1 X.2.1 X.2.2.1 i_Ha X.2.2.2.1 X.2.2.2.2 Y m_o e24 rfl 2 (by decide) (X.2.2.1 _ lk_Ha_17) (fun _ h9 => h9) rfl d_Ha_compress_165 ?_
          refine lv_iconst (v := (nI 2)) X.1 X.2.1 d_Ha_compress_168 (by decide) ?_
          refine q_iald X.1 X.2.1 X.2.2.2.2 Y 1 m_sta e28 rfl (vp_in_nI (by omega) (by omega)) d_Ha_compress_169 ?_
          refine t_any (fun v39 => ?_)
          refine lv_istore_n (lv' := [(3, .int v39), (2, .int v38), (1, .int v37), (0, .ref o)]) X.1 X.2.1 d_Ha_compress_170 rfl hl (by decide) rfl (fun ls hl => ?_)
          refine lv_aload_n X.1 X.2.1 d_Ha_compress_171 rfl (lv_at hl 3 rfl) ?_
          refine q_get X.1 X.2.1 X.2.2.1 i_Ha X.2.2.2.1 X.2.2.2.2 Y m_o e24 rfl 2 (by decide) (X.2.2.1 _ lk_Ha_17) (fun _ h9 => h9) rfl d_Ha_compress_172 ?_
          refine lv_iconst (v := (nI 3)) X.1 X.2.1 d_Ha_compress_175 (by decide) ?_
          refine q_iald X.1 X.2.1 X.2.2.2.2 Y 1 m_sta e28 rfl (vp_in_nI (by omega) (by omega)) d_Ha_compress_176 ?_
          refine t_any (fun v40 => ?_)
          refine lv_istore (lv' := [(4, .int v40), (3, .int v39), (2, .int v38), (1, .int v37), (0, .ref o)]) X.1 X.2.1 d_Ha_compress_177 hl (by decide) rfl (fun ls hl => ?_)
          refine lv_aload_n X.1 X.2.1 d_Ha_compress_179 rfl (lv_at hl 4 rfl) ?_
          refine q_get X.1 X.2.1 X.2.2.1 i_Ha X.2.2.2.1 X.2.2.2.2 Y m_o e24 rfl 2 (by decide) (X.2.2.1 _ lk_Ha_17) (fun _ h9 => h9) rfl d_Ha_compress_180 ?_
          refine lv_iconst (v := (nI 4)) X.1 X.2.1 d_Ha_compress_183 (by decide) ?_
          refine q_iald X.1 X.2.1 X.2.2.2.2 Y 1 m_sta e28 rfl (vp_in_nI (by omega) (by omega)) d_Ha_compress_184 ?_
          refine t_any (fun v41 => ?_)
          refine lv_istore (lv' := [(5, .int v41), (4, .int v40), (3, .int v39), (2, .int v38), (1, .int v37), (0, .ref o)]) X.1 X.2.1 d_Ha_compress_185 hl (by decide) rfl (fun ls hl => ?_)
          refine lv_iconst (v := (nI 0)) X.1 X.2.1 d_Ha_compress_187 (by decide) ?_
          refine lv_istore (lv' := [(6, .int (nI 0)), (5, .int v41), (4, .int v40), (3, .int v39), (2, .int v38), (1, .int v37), (0, .ref o)]) X.1 X.2.1 d_Ha_compress_188 hl (by decide) rfl (fun ls hl => ?_)
          have lp42 : ∀ (n43 i : Nat) (x56 : Int32) (x57 : Int32) (x58 : Int32) (x59 : Int32) (x60 : Int32) (g49 : Nat → Int32) (g52 : Nat → Int32) (f45 : pF) (H : Heap) (locs : List Loc) (ls : Array Slot), 80 - i = n43 → (0 ≤ i) → (i ≤ 80) → f45 o = .inr (6, [.ref wd, .ref bl, .ref sta, .ref inn, .ref out, .int (nI fl), .int tot, .ref mac]) → f45 wd = .inl (E.2.1, 80, .inl g49) → f45 bl = .inl (E.1, 64, .inl g_bl) → f45 sta = .inl (E.2.1, 5, .inl g52) → f45 inn = .inl (E.2.1, 5, .inl g_inn) → f45 out = .inl (E.2.1, 5, .inl g_out) → f45 mac = .inl (E.1, 20, .inl g_mac) → (∀ x, x ≠ wd → x ≠ sta → f45 x = f x) → pH D cCl (pA L sz) s.heap L f45 H locs → lv_has ls 9 [(6, .int (nI i)), (5, .int x60), (4, .int x59), (3, .int x58), (2, .int x57), (1, .int x56), (0, .ref o)] → W p l e (mR 0 0) s m AV below meth c H locs 0 0 QQ (F0 m 190 ls []) := by
            intro n43
            induction n43 with
            | zero =>
              intro i x56 x57 x58 x59 x60 g49 g52 f45 H locs ls hm63 hc61 hc62  e47 e48 e50 e51 e53 e54 e55 hF46 Y hl
              refine lv_iload X.1 X.2.1 d_Ha_compress_190 (lv_at hl 0 rfl) ?_
              refine lv_bipush (v := (nI 80)) X.1 X.2.1 d_Ha_compress_192 (by decide) ?_
              refine lv_icmp_ge (tgt := 333) X.1 X.2.1 d_Ha_compress_194 (by decide) (fun c64 => ?_) (fun c64 => absurd ?_ c64)
              rotate_left
              · (rw [nI_leI (by omega) (by omega)] <;> omega)
              rw [nI_leI (by omega) (by omega)] at c64
              refine lv_aload_n X.1 X.2.1 d_Ha_compress_333 rfl (lv_at hl 6 rfl) ?_
              refine q_get X.1 X.2.1 X.2.2.1 i_Ha X.2.2.2.1 X.2.2.2.2 Y m_o e47 rfl 2 (by decide) (X.2.2.1 _ lk_Ha_17) (fun _ h9 => h9) rfl d_Ha_compress_334 ?_
              refine lv_iconst (v := (nI 0)) X.1 X.2.1 d_Ha_compress_337 (by decide) ?_
              refine lv_dup2_11 X.1 X.2.1 d_Ha_compress_338 rfl rfl ?_
              refine q_iald X.1 X.2.1 X.2.2.2.2 Y 1 m_sta e51 rfl (vp_in_nI (by omega) (by omega)) d_Ha_compress_339 ?_
              refine t_any (fun v65 => ?_)
              refine lv_iload_n X.1 X.2.1 d_Ha_compress_340 rfl (lv_at hl 5 rfl) ?_
              refine lv_iadd X.1 X.2.1 d_Ha_compress_341 ?_
              refine t_any (fun v66 => ?_)
              refine q_iast X.1 X.2.1 X.2.2.2.2 Y 1 m_sta e51 rfl (vp_in_nI (by omega) (by omega)) d_Ha_compress_342 (fun H locs Y => ?_)
              generalize (upd g52 ((nI 0)).toNatClampNeg v66) = g67 at Y
              have e70 : (va_up f45 sta (.inl (E.2.1, 5, .inl g67))) sta = .inl (E.2.1, 5, .inl g67) := q_up
              have e71 : (va_up f45 sta (.inl (E.2.1, 5, .inl g67))) o = .inr (6, [.ref wd, .ref bl, .ref sta, .ref inn, .ref out, .int (nI fl), .int tot, .ref mac]) := (q_ne (q_tag e47 e51 (show (6 : Nat) ≠ 1000 by decide))).trans e47
              have e72 : (va_up f45 sta (.inl (E.2.1, 5, .inl g67))) wd = .inl (E.2.1, 80, .inl g49) := (q_ne ap_wd_sta).trans e48
              have e73 : (va_up f45 sta (.inl (E.2.1, 5, .inl g67))) bl = .inl (E.1, 64, .inl g_bl) := (q_ne ap_bl_sta).trans e50
              have e74 : (va_up f45 sta (.inl (E.2.1, 5, .inl g67))) inn = .inl (E.2.1, 5, .inl g_inn) := (q_ne ap_sta_inn.symm).trans e53
              have e75 : (va_up f45 sta (.inl (E.2.1, 5, .inl g67))) out = .inl (E.2.1, 5, .inl g_out) := (q_ne ap_sta_out.symm).trans e54
              have e76 : (va_up f45 sta (.inl (E.2.1, 5, .inl g67))) mac = .inl (E.1, 20, .inl g_mac) := (q_ne ap_sta_mac.symm).trans e55
              have hF77 : ∀ x, x ≠ wd → x ≠ sta → (va_up f45 sta (.inl (E.2.1, 5, .inl g67))) x = f x := fun x h0 h1 => (q_ne h1).trans (hF46 x h0 h1)
              have Y : pH D cCl (pA L sz) s.heap L (va_up f45 sta (.inl (E.2.1, 5, .inl g67))) H locs := Y
              generalize (va_up f45 sta (.inl (E.2.1, 5, .inl g67))) = f69 at Y e70 e71 e72 e73 e74 e75 e76 hF77
              refine lv_aload_n X.1 X.2.1 d_Ha_compress_343 rfl (lv_at hl 6 rfl) ?_
              refine q_get X.1 X.2.1 X.2.2.1 i_Ha X.2.2.2.1 X.2.2.2.2 Y m_o e71 rfl 2 (by decide) (X.2.2.1 _ lk_Ha_17) (fun _ h9 => h9) rfl d_Ha_compress_344 ?_
              refine lv_iconst (v := (nI 1)) X.1 X.2.1 d_Ha_compress_347 (by decide) ?_
              refine lv_dup2_11 X.1 X.2.1 d_Ha_compress_348 rfl rfl ?_
              refine q_iald X.1 X.2.1 X.2.2.2.2 Y 1 m_sta e70 rfl (vp_in_nI (by omega) (by omega)) d_Ha_compress_349 ?_
              refine t_any (fun v78 => ?_)
              refine lv_iload_n X.1 X.2.1 d_Ha_compress_350 rfl (lv_at hl 4 rfl) ?_
              refine lv_iadd X.1 X.2.1 d_Ha_compress_351 ?_
              refine t_any (fun v79 => ?_)
              refine q_iast X.1 X.2.1 X.2.2.2.2 Y 1 m_sta e70 rfl (vp_in_nI (by omega) (by omega)) d_Ha_compress_352 (fun H locs Y => ?_)
              generalize (upd g67 ((nI 1)).toNatClampNeg v79) = g80 at Y
              have e83 : (va_up f69 sta (.inl (E.2.1, 5, .inl g80))) sta = .inl (E.2.1, 5, .inl g80) := q_up
              have e84 : (va_up f69 sta (.inl (E.2.1, 5, .inl g80))) o = .inr (6, [.ref wd, .ref bl, .ref sta, .ref inn, .ref out, .int (nI fl), .int tot, .ref mac]) := (q_ne (q_tag e71 e70 (show (6 : Nat) ≠ 1000 by decide))).trans e71
              have e85 : (va_up f69 sta (.inl (E.2.1, 5, .inl g80))) wd = .inl (E.2.1, 80, .inl g49) := (q_ne ap_wd_sta).trans e72
              have e86 : (va_up f69 sta (.inl (E.2.1, 5, .inl g80))) bl = .inl (E.1, 64, .inl g_bl) := (q_ne ap_bl_sta).trans e73
              have e87 : (va_up f69 sta (.inl (E.2.1, 5, .inl g80))) inn = .inl (E.2.1, 5, .inl g_inn) := (q_ne ap_sta_inn.symm).trans e74
              have e88 : (va_up f69 sta (.inl (E.2.1, 5, .inl g80))) out = .inl (E.2.1, 5, .inl g_out) := (q_ne ap_sta_out.symm).trans e75
              have e89 : (va_up f69 sta (.inl (E.2.1, 5, .inl g80))) mac = .inl (E.1, 20, .inl g_mac) := (q_ne ap_sta_mac.symm).trans e76
              have hF90 : ∀ x, x ≠ wd → x ≠ sta → (va_up f69 sta (.inl (E.2.1, 5, .inl g80))) x = f x := fun x h0 h1 => (q_ne h1).trans (hF77 x h0 h1)
              have Y : pH D cCl (pA L sz) s.heap L (va_up f69 sta (.inl (E.2.1, 5, .inl g80))) H locs := Y
              generalize (va_up f69 sta (.inl (E.2.1, 5, .inl g80))) = f82 at Y e83 e84 e85 e86 e87 e88 e89 hF90
              refine lv_aload_n X.1 X.2.1 d_Ha_compress_353 rfl (lv_at hl 6 rfl) ?_
              refine q_get X.1 X.2.1 X.2.2.1 i_Ha X.2.2.2.1 X.2.2.2.2 Y m_o e84 rfl 2 (by decide) (X.2.2.1 _ lk_Ha_17) (fun _ h9 => h9) rfl d_Ha_compress_354 ?_
              refine lv_iconst (v := (nI 2)) X.1 X.2.1 d_Ha_compress_357 (by decide) ?_
              refine lv_dup2_11 X.1 X.2.1 d_Ha_compress_358 rfl rfl ?_
              refine q_iald X.1 X.2.1 X.2.2.2.2 Y 1 m_sta e83 rfl (vp_in_nI (by omega) (by omega)) d_Ha_compress_359 ?_
              refine t_any (fun v91 => ?_)
              refine lv_iload_n X.1 X.2.1 d_Ha_compress_360 rfl (lv_at hl 3 rfl) ?_
              refine lv_iadd X.1 X.2.1 d_Ha_compress_361 ?_
              refine t_any (fun v92 => ?_)
              refine q_iast X.1 X.2.1 X.2.2.2.2 Y 1 m_sta e83 rfl (vp_in_nI (by omega) (by omega)) d_Ha_compress_362 (fun H locs Y => ?_)
              generalize (upd g80 ((nI 2)).toNatClampNeg v92) = g93 at Y
              have e96 : (va_up f82 sta (.inl (E.2.1, 5, .inl g93))) sta = .inl (E.2.1, 5, .inl g93) := q_up
              have e97 : (va_up f82 sta (.inl (E.2.1, 5, .inl g93))) o = .inr (6, [.ref wd, .ref bl, .ref sta, .ref inn, .ref out, .int (nI fl), .int tot, .ref mac]) := (q_ne (q_tag e84 e83 (show (6 : Nat) ≠ 1000 by decide))).trans e84
              have e98 : (va_up f82 sta (.inl (E.2.1, 5, .inl g93))) wd = .inl (E.2.1, 80, .inl g49) := (q_ne ap_wd_sta).trans e85
              have e99 : (va_up f82 sta (.inl (E.2.1, 5, .inl g93))) bl = .inl (E.1, 64, .inl g_bl) := (q_ne ap_bl_sta).trans e86
              have e100 : (va_up f82 sta (.inl (E.2.1, 5, .inl g93))) inn = .inl (E.2.1, 5, .inl g_inn) := (q_ne ap_sta_inn.symm).trans e87
              have e101 : (va_up f82 sta (.inl (E.2.1, 5, .inl g93))) out = .inl (E.2.1, 5, .inl g_out) := (q_ne ap_sta_out.symm).trans e88
              have e102 : (va_up f82 sta (.inl (E.2.1, 5, .inl g93))) mac = .inl (E.1, 20, .inl g_mac) := (q_ne ap_sta_mac.symm).trans e89
              have hF103 : ∀ x, x ≠ wd → x ≠ sta → (va_up f82 sta (.inl (E.2.1, 5, .inl g93))) x = f x := fun x h0 h1 => (q_ne h1).trans (hF90 x h0 h1)
              have Y : pH D cCl (pA L sz) s.heap L (va_up f82 sta (.inl (E.2.1, 5, .inl g93))) H locs := Y
              generalize (va_up f82 sta (.inl (E.2.1, 5, .inl g93))) = f95 at Y e96 e97 e98 e99 e100 e101 e102 hF103
              refine lv_aload_n X.1 X.2.1 d_Ha_compress_363 rfl (lv_at hl 6 rfl) ?_
              refine q_get X.1 X.2.1 X.2.2.1 i_Ha X.2.2.2.1 X.2.2.2.2 Y m_o e97 rfl 2 (by decide) (X.2.2.1 _ lk_Ha_17) (fun _ h9 => h9) rfl d_Ha_compress_364 ?_
              refine lv_iconst (v := (nI 3)) X.1 X.2.1 d_Ha_compress_367 (by decide) ?_
              refine lv_dup2_11 X.1 X.2.1 d_Ha_compress_368 rfl rfl ?_
              refine q_iald X.1 X.2.1 X.2.2.2.2 Y 1 m_sta e96 rfl (vp_in_nI (by omega) (by omega)) d_Ha_compress_369 ?_
              refine t_any (fun v104 => ?_)
              refine lv_iload X.1 X.2.1 d_Ha_compress_370 (lv_at hl 2 rfl) ?_
              refine lv_iadd X.1 X.2.1 d_Ha_compress_372 ?_
              refine t_any (fun v105 => ?_)
              refine q_iast X.1 X.2.1 X.2.2.2.2 Y 1 m_sta e96 rfl (vp_in_nI (by omega) (by omega)) d_Ha_compress_373 (fun H locs Y => ?_)
              generalize (upd g93 ((nI 3)).toNatClampNeg v105) = g106 at Y
              have e109 : (va_up f95 sta (.inl (E.2.1, 5, .inl g106))) sta = .inl (E.2.1, 5, .inl g106) := q_up
              have e110 : (va_up f95 sta (.inl (E.2.1, 5, .inl g106))) o = .inr (6, [.ref wd, .ref bl, .ref sta, .ref inn, .ref out, .int (nI fl), .int tot, .ref mac]) := (q_ne (q_tag e97 e96 (show (6 : Nat) ≠ 1000 by decide))).trans e97
              have e111 : (va_up f95 sta (.inl (E.2.1, 5, .inl g106))) wd = .inl (E.2.1, 80, .inl g49) := (q_ne ap_wd_sta).trans e98
              have e112 : (va_up f95 sta (.inl (E.2.1, 5, .inl g106))) bl = .inl (E.1, 64, .inl g_bl) := (q_ne ap_bl_sta).trans e99
              have e113 : (va_up f95 sta (.inl (E.2.1, 5, .inl g106))) inn = .inl (E.2.1, 5, .inl g_inn) := (q_ne ap_sta_inn.symm).trans e100
              have e114 : (va_up f95 sta (.inl (E.2.1, 5, .inl g106))) out = .inl (E.2.1, 5, .inl g_out) := (q_ne ap_sta_out.symm).trans e101
              have e115 : (va_up f95 sta (.inl (E.2.1, 5, .inl g106))) mac = .inl (E.1, 20, .inl g_mac) := (q_ne ap_sta_mac.symm).trans e102
              have hF116 : ∀ x, x ≠ wd → x ≠ sta → (va_up f95 sta (.inl (E.2.1, 5, .inl g106))) x = f x := fun x h0 h1 => (q_ne h1).trans (hF103 x h0 h1)
              have Y : pH D cCl (pA L sz) s.heap L (va_up f95 sta (.inl (E.2.1, 5, .inl g106))) H locs := Y
              generalize (va_up f95 sta (.inl (E.2.1, 5, .inl g106))) = f108 at Y e109 e110 e111 e112 e113 e114 e115 hF116
              refine lv_aload_n X.1 X.2.1 d_Ha_compress_374 rfl (lv_at hl 6 rfl) ?_
              refine q_get X.1 X.2.1 X.2.2.1 i_Ha X.2.2.2.1 X.2.2.2.2 Y m_o e110 rfl 2 (by decide) (X.2.2.1 _ lk_Ha_17) (fun _ h9 => h9) rfl d_Ha_compress_375 ?_
              refine lv_iconst (v := (nI 4)) X.1 X.2.1 d_Ha_compress_378 (by decide) ?_
              refine lv_dup2_11 X.1 X.2.1 d_Ha_compress_379 rfl rfl ?_
              refine q_iald X.1 X.2.1 X.2.2.2.2 Y 1 m_sta e109 rfl (vp_in_nI (by omega) (by omega)) d_Ha_compress_380 ?_
              refine t_any (fun v117 => ?_)
              refine lv_iload X.1 X.2.1 d_Ha_compress_381 (lv_at hl 1 rfl) ?_
              refine lv_iadd X.1 X.2.1 d_Ha_compress_383 ?_
              refine t_any (fun v118 => ?_)
              refine q_iast X.1 X.2.1 X.2.2.2.2 Y 1 m_sta e109 rfl (vp_in_nI (by omega) (by omega)) d_Ha_compress_384 (fun H locs Y => ?_)
              generalize (upd g106 ((nI 4)).toNatClampNeg v118) = g119 at Y
              have e122 : (va_up f108 sta (.inl (E.2.1, 5, .inl g119))) sta = .inl (E.2.1, 5, .inl g119) := q_up
              have e123 : (va_up f108 sta (.inl (E.2.1, 5, .inl g119))) o = .inr (6, [.ref wd, .ref bl, .ref sta, .ref inn, .ref out, .int (nI fl), .int tot, .ref mac]) := (q_ne (q_tag e110 e109 (show (6 : Nat) ≠ 1000 by decide))).trans e110
              have e124 : (va_up f108 sta (.inl (E.2.1, 5, .inl g119))) wd = .inl (E.2.1, 80, .inl g49) := (q_ne ap_wd_sta).trans e111
              have e125 : (va_up f108 sta (.inl (E.2.1, 5, .inl g119))) bl = .inl (E.1, 64, .inl g_bl) := (q_ne ap_bl_sta).trans e112
              have e126 : (va_up f108 sta (.inl (E.2.1, 5, .inl g119))) inn = .inl (E.2.1, 5, .inl g_inn) := (q_ne ap_sta_inn.symm).trans e113
              have e127 : (va_up f108 sta (.inl (E.2.1, 5, .inl g119))) out = .inl (E.2.1, 5, .inl g_out) := (q_ne ap_sta_out.symm).trans e114
              have e128 : (va_up f108 sta (.inl (E.2.1, 5, .inl g119))) mac = .inl (E.1, 20, .inl g_mac) := (q_ne ap_sta_mac.symm).trans e115
              have hF129 : ∀ x, x ≠ wd → x ≠ sta → (va_up f108 sta (.inl (E.2.1, 5, .inl g119))) x = f x := fun x h0 h1 => (q_ne h1).trans (hF116 x h0 h1)
              have Y : pH D cCl (pA L sz) s.heap L (va_up f108 sta (.inl (E.2.1, 5, .inl g119))) H locs := Y
              generalize (va_up f108 sta (.inl (E.2.1, 5, .inl g119))) = f121 at Y e122 e123 e124 e125 e126 e127 e128 hF129
              exact c_retv hQQ X Y hr hlk ⟨rfl, hF129, g49, g119, e124, e122⟩ d_Ha_compress_385
            | succ n43 ih44 =>
              intro i x56 x57 x58 x59 x60 g49 g52 f45 H locs ls hm63 hc61 hc62  e47 e48 e50 e51 e53 e54 e55 hF46 Y hl
              refine lv_iload X.1 X.2.1 d_Ha_compress_190 (lv_at hl 0 rfl) ?_
              refine lv_bipush (v := (nI 80)) X.1 X.2.1 d_Ha_compress_192 (by decide) ?_
              refine lv_icmp_ge (tgt := 333) X.1 X.2.1 d_Ha_compress_194 (by decide) (fun c130 => absurd c130 ?_) (fun c130 => ?_)
              · (rw [nI_leI (by omega) (by omega)] <;> omega)
              rw [nI_leI (by omega) (by omega)] at c130
              refine lv_iload X.1 X.2.1 d_Ha_compress_197 (lv_at hl 0 rfl) ?_
              refine lv_bipush (v := (nI 20)) X.1 X.2.1 d_Ha_compress_199 (by decide) ?_
              refine lv_icmp_ge (tgt := 222) X.1 X.2.1 d_Ha_compress_201 (by decide) (fun c131 => ?_) (fun c131 => ?_)
              · skip
                rw [nI_leI (by omega) (by omega)] at c131
                refine lv_iload X.1 X.2.1 d_Ha_compress_222 (lv_at hl 0 rfl) ?_
                refine lv_bipush (v := (nI 40)) X.1 X.2.1 d_Ha_compress_224 (by decide) ?_
                refine lv_icmp_ge (tgt := 243) X.1 X.2.1 d_Ha_compress_226 (by decide) (fun c132 => ?_) (fun c132 => ?_)
                · skip
                  rw [nI_leI (by omega) (by omega)] at c132
                  refine lv_iload X.1 X.2.1 d_Ha_compress_243 (lv_at hl 0 rfl) ?_
                  refine lv_bipush (v := (nI 60)) X.1 X.2.1 d_Ha_compress_245 (by decide) ?_
                  refine lv_icmp_ge (tgt := 271) X.1 X.2.1 d_Ha_compress_247 (by decide) (fun c133 => ?_) (fun c133 => ?_)
                  · skip
                    rw [nI_leI (by omega) (by omega)] at c133
                    refine lv_iload_n X.1 X.2.1 d_Ha_compress_271 rfl (lv_at hl 4 rfl) ?_
                    refine lv_iload_n X.1 X.2.1 d_Ha_compress_272 rfl (lv_at hl 3 rfl) ?_
                    refine lv_ixor X.1 X.2.1 d_Ha_compress_273 ?_
                    refine t_any (fun v134 => ?_)
                    refine lv_iload X.1 X.2.1 d_Ha_compress_274 (lv_at hl 2 rfl) ?_
                    refine lv_ixor X.1 X.2.1 d_Ha_compress_276 ?_
                    refine t_any (fun v135 => ?_)
                    refine lv_ldc (v := (-899497514)) X.1 X.2.1 X.2.2.2.1 (X.2.2.1 _ cn_Ha_60) d_Ha_compress_277 ?_
                    refine lv_iadd X.1 X.2.1 d_Ha_compress_279 ?_
                    refine t_any (fun v136 => ?_)
                    refine lv_istore (lv' := [(7, .int v136), (6, .int (nI i)), (5, .int x60), (4, .int x59), (3, .int x58), (2, .int x57), (1, .int x56), (0, .ref o)]) X.1 X.2.1 d_Ha_compress_280 hl (by decide) rfl (fun ls hl => ?_)
                    refine lv_iload_n X.1 X.2.1 d_Ha_compress_282 rfl (lv_at hl 6 rfl) ?_
                    refine lv_iconst (v := (nI 5)) X.1 X.2.1 d_Ha_compress_283 (by decide) ?_
                    refine lv_ishl X.1 X.2.1 d_Ha_compress_284 ?_
                    refine t_any (fun v137 => ?_)
                    refine lv_iload_n X.1 X.2.1 d_Ha_compress_285 rfl (lv_at hl 6 rfl) ?_
                    refine lv_bipush (v := (nI 27)) X.1 X.2.1 d_Ha_compress_286 (by decide) ?_
                    obtain ⟨v138, ev138⟩ : ∃ z : Int32, ((x56 : Int32).toUInt32 >>> (((nI 27) : Int32).toUInt32 &&& Int32.toUInt32 31)).toInt32 = z := ⟨_, rfl⟩
                    refine lv_iushr (v := v138) X.1 X.2.1 d_Ha_compress_288 ev138 ?_
                    refine lv_ior X.1 X.2.1 d_Ha_compress_289 ?_
                    refine t_any (fun v139 => ?_)
                    refine lv_iload X.1 X.2.1 d_Ha_compress_290 (lv_at hl 0 rfl) ?_
                    refine lv_iadd X.1 X.2.1 d_Ha_compress_292 ?_
                    refine t_any (fun v140 => ?_)
                    refine lv_iload X.1 X.2.1 d_Ha_compress_293 (lv_at hl 2 rfl) ?_
                    refine lv_iadd X.1 X.2.1 d_Ha_compress_295 ?_
                    refine t_any (fun v141 => ?_)
                    refine lv_aload_n X.1 X.2.1 d_Ha_compress_296 rfl (lv_at hl 7 rfl) ?_
                    refine q_get X.1 X.2.1 X.2.2.1 i_Ha X.2.2.2.1 X.2.2.2.2 Y m_o e47 rfl 0 (by decide) (X.2.2.1 _ lk_Ha_7) (fun _ h9 => h9) rfl d_Ha_compress_297 ?_
                    refine lv_iload X.1 X.2.1 d_Ha_compress_300 (lv_at hl 1 rfl) ?_
                    refine q_iald X.1 X.2.1 X.2.2.2.2 Y 1 m_wd e48 rfl (vp_in_nI (by omega) (by omega)) d_Ha_compress_302 ?_
                    refine t_any (fun v142 => ?_)
                    refine lv_iadd X.1 X.2.1 d_Ha_compress_303 ?_
                    refine t_any (fun v143 => ?_)
                    refine lv_istore (lv' := [(8, .int v143), (7, .int v136), (6, .int (nI i)), (5, .int x60), (4, .int x59), (3, .int x58), (2, .int x57), (1, .int x56), (0, .ref o)]) X.1 X.2.1 d_Ha_compress_304 hl (by decide) rfl (fun ls hl => ?_)
                    refine lv_iload X.1 X.2.1 d_Ha_compress_306 (lv_at hl 4 rfl) ?_
                    refine lv_istore (lv' := [(5, .int x59), (8, .int v143), (7, .int v136), (6, .int (nI i)), (4, .int x59), (3, .int x58), (2, .int x57), (1, .int x56), (0, .ref o)]) X.1 X.2.1 d_Ha_compress_308 hl (by decide) rfl (fun ls hl => ?_)
                    refine lv_iload_n X.1 X.2.1 d_Ha_compress_310 rfl (lv_at hl 5 rfl) ?_
                    refine lv_istore (lv' := [(4, .int x58), (5, .int x59), (8, .int v143), (7, .int v136), (6, .int (nI i)), (3, .int x58), (2, .int x57), (1, .int x56), (0, .ref o)]) X.1 X.2.1 d_Ha_compress_311 hl (by decide) rfl (fun ls hl => ?_)
                    refine lv_iload_n X.1 X.2.1 d_Ha_compress_313 rfl (lv_at hl 6 rfl) ?_
                    refine lv_bipush (v := (nI 30)) X.1 X.2.1 d_Ha_compress_314 (by decide) ?_
                    refine lv_ishl X.1 X.2.1 d_Ha_compress_316 ?_
                    refine t_any (fun v144 => ?_)
                    refine lv_iload_n X.1 X.2.1 d_Ha_compress_317 rfl (lv_at hl 6 rfl) ?_
                    refine lv_iconst (v := (nI 2)) X.1 X.2.1 d_Ha_compress_318 (by decide) ?_
                    obtain ⟨v145, ev145⟩ : ∃ z : Int32, ((x57 : Int32).toUInt32 >>> (((nI 2) : Int32).toUInt32 &&& Int32.toUInt32 31)).toInt32 = z := ⟨_, rfl⟩
                    refine lv_iushr (v := v145) X.1 X.2.1 d_Ha_compress_319 ev145 ?_
                    refine lv_ior X.1 X.2.1 d_Ha_compress_320 ?_
                    refine t_any (fun v146 => ?_)
                    refine lv_istore_n (lv' := [(3, .int v146), (4, .int x58), (5, .int x59), (8, .int v143), (7, .int v136), (6, .int (nI i)), (2, .int x57), (1, .int x56), (0, .ref o)]) X.1 X.2.1 d_Ha_compress_321 rfl hl (by decide) rfl (fun ls hl => ?_)
                    refine lv_iload_n X.1 X.2.1 d_Ha_compress_322 rfl (lv_at hl 7 rfl) ?_
                    refine lv_istore_n (lv' := [(2, .int x56), (3, .int v146), (4, .int x58), (5, .int x59), (8, .int v143), (7, .int v136), (6, .int (nI i)), (1, .int x56), (0, .ref o)]) X.1 X.2.1 d_Ha_compress_323 rfl hl (by decide) rfl (fun ls hl => ?_)
                    refine lv_iload X.1 X.2.1 d_Ha_compress_324 (lv_at hl 4 rfl) ?_
                    refine lv_istore_n (lv' := [(1, .int v143), (2, .int x56), (3, .int v146), (4, .int x58), (5, .int x59), (8, .int v143), (7, .int v136), (6, .int (nI i)), (0, .ref o)]) X.1 X.2.1 d_Ha_compress_326 rfl hl (by decide) rfl (fun ls hl => ?_)
                    refine lv_iinc (v := (nI (i + 1))) (lv' := [(6, .int (nI (i + 1))), (1, .int v143), (2, .int x56), (3, .int v146), (4, .int x58), (5, .int x59), (8, .int v143), (7, .int v136), (0, .ref o)]) X.1 X.2.1 d_Ha_compress_327 hl (k := 7) rfl (nI_add _ 1) (by decide) rfl (fun ls hl => ?_)
                    refine lv_goto (tgt := 190) X.1 X.2.1 d_Ha_compress_330 (by decide) ?_
                    exact ih44  (i + 1)  (v143) (x56) (v146) (x58) (x59)  g49 g52 f45 _ _ _ (by omega) (by omega) (by omega)  e47 e48 e50 e51 e53 e54 e55 hF46 Y (lv_sub hl [0, 5, 4, 3, 2, 1, 8] rfl)
                  · skip
                    rw [nI_leI (by omega) (by omega)] at c133
                    refine lv_iload_n X.1 X.2.1 d_Ha_compress_250 rfl (lv_at hl 4 rfl) ?_
                    refine lv_iload_n X.1 X.2.1 d_Ha_compress_251 rfl (lv_at hl 3 rfl) ?_
                    refine lv_iand X.1 X.2.1 d_Ha_compress_252 ?_
                    refine t_any (fun v147 => ?_)
                    refine lv_iload_n X.1 X.2.1 d_Ha_compress_253 rfl (lv_at hl 4 rfl) ?_
                    refine lv_iload X.1 X.2.1 d_Ha_compress_254 (lv_at hl 2 rfl) ?_
                    refine lv_iand X.1 X.2.1 d_Ha_compress_256 ?_
                    refine t_any (fun v148 => ?_)
                    refine lv_ior X.1 X.2.1 d_Ha_compress_257 ?_
                    refine t_any (fun v149 => ?_)
                    refine lv_iload_n X.1 X.2.1 d_Ha_compress_258 rfl (lv_at hl 3 rfl) ?_
                    refine lv_iload X.1 X.2.1 d_Ha_compress_259 (lv_at hl 2 rfl) ?_
                    refine lv_iand X.1 X.2.1 d_Ha_compress_261 ?_
                    refine t_any (fun v150 => ?_)
                    refine lv_ior X.1 X.2.1 d_Ha_compress_262 ?_
                    refine t_any (fun v151 => ?_)
                    refine lv_ldc (v := (-1894007588)) X.1 X.2.1 X.2.2.2.1 (X.2.2.1 _ cn_Ha_59) d_Ha_compress_263 ?_
                    refine lv_iadd X.1 X.2.1 d_Ha_compress_265 ?_
                    refine t_any (fun v152 => ?_)
                    refine lv_istore (lv' := [(7, .int v152), (6, .int (nI i)), (5, .int x60), (4, .int x59), (3, .int x58), (2, .int x57), (1, .int x56), (0, .ref o)]) X.1 X.2.1 d_Ha_compress_266 hl (by decide) rfl (fun ls hl => ?_)
                    refine lv_goto (tgt := 282) X.1 X.2.1 d_Ha_compress_268 (by decide) ?_
                    refine lv_iload_n X.1 X.2.1 d_Ha_compress_282 rfl (lv_at hl 6 rfl) ?_
                    refine lv_iconst (v := (nI 5)) X.1 X.2.1 d_Ha_compress_283 (by decide) ?_
                    refine lv_ishl X.1 X.2.1 d_Ha_compress_284 ?_
                    refine t_any (fun v153 => ?_)
                    refine lv_iload_n X.1 X.2.1 d_Ha_compress_285 rfl (lv_at hl 6 rfl) ?_
                    refine lv_bipush (v := (nI 27)) X.1 X.2.1 d_Ha_compress_286 (by decide) ?_
                    obtain ⟨v154, ev154⟩ : ∃ z : Int32, ((x56 : Int32).toUInt32 >>> (((nI 27) : Int32).toUInt32 &&& Int32.toUInt32 31)).toInt32 = z := ⟨_, rfl⟩
                    refine lv_iushr (v := v154) X.1 X.2.1 d_Ha_compress_288 ev154 ?_
                    refine lv_ior X.1 X.2.1 d_Ha_compress_289 ?_
                    refine t_any (fun v155 => ?_)
                    refine lv_iload X.1 X.2.1 d_Ha_compress_290 (lv_at hl 0 rfl) ?_
                    refine lv_iadd X.1 X.2.1 d_Ha_compress_292 ?_
                    refine t_any (fun v156 => ?_)
                    refine lv_iload X.1 X.2.1 d_Ha_compress_293 (lv_at hl 2 rfl) ?_
                    refine lv_iadd X.1 X.2.1 d_Ha_compress_295 ?_
                    refine t_any (fun v157 => ?_)
                    refine lv_aload_n X.1 X.2.1 d_Ha_compress_296 rfl (lv_at hl 7 rfl) ?_
                    refine q_get X.1 X.2.1 X.2.2.1 i_Ha X.2.2.2.1 X.2.2.2.2 Y m_o e47 rfl 0 (by decide) (X.2.2.1 _ lk_Ha_7) (fun _ h9 => h9) rfl d_Ha_compress_297 ?_
                    refine lv_iload X.1 X.2.1 d_Ha_compress_300 (lv_at hl 1 rfl) ?_
                    refine q_iald X.1 X.2.1 X.2.2.2.2 Y 1 m_wd e48 rfl (vp_in_nI (by omega) (by omega)) d_Ha_compress_302 ?_
                    refine t_any (fun v158 => ?_)
                    refine lv_iadd X.1 X.2.1 d_Ha_compress_303 ?_
                    refine t_any (fun v159 => ?_)
                    refine lv_istore (lv' := [(8, .int v159), (7, .int v152), (6, .int (nI i)), (5, .int x60), (4, .int x59), (3, .int x58), (2, .int x57), (1, .int x56), (0, .ref o)]) X.1 X.2.1 d_Ha_compress_304 hl (by decide) rfl (fun ls hl => ?_)
                    refine lv_iload X.1 X.2.1 d_Ha_compress_306 (lv_at hl 4 rfl) ?_
                    refine lv_istore (lv' := [(5, .int x59), (8, .int v159), (7, .int v152), (6, .int (nI i)), (4, .int x59), (3, .int x58), (2, .int x57), (1, .int x56), (0, .ref o)]) X.1 X.2.1 d_Ha_compress_308 hl (by decide) rfl (fun ls hl => ?_)
                    refine lv_iload_n X.1 X.2.1 d_Ha_compress_310 rfl (lv_at hl 5 rfl) ?_
                    refine lv_istore (lv' := [(4, .int x58), (5, .int x59), (8, .int v159), (7, .int v152), (6, .int (nI i)), (3, .int x58), (2, .int x57), (1, .int x56), (0, .ref o)]) X.1 X.2.1 d_Ha_compress_311 hl (by decide) rfl (fun ls hl => ?_)
                    refine lv_iload_n X.1 X.2.1 d_Ha_compress_313 rfl (lv_at hl 6 rfl) ?_
                    refine lv_bipush (v := (nI 30)) X.1 X.2.1 d_Ha_compress_314 (by decide) ?_
                    refine lv_ishl X.1 X.2.1 d_Ha_compress_316 ?_
                    refine t_any (fun v160 => ?_)
                    refine lv_iload_n X.1 X.2.1 d_Ha_compress_317 rfl (lv_at hl 6 rfl) ?_
                    refine lv_iconst (v := (nI 2)) X.1 X.2.1 d_Ha_compress_318 (by decide) ?_
                    obtain ⟨v161, ev161⟩ : ∃ z : Int32, ((x57 : Int32).toUInt32 >>> (((nI 2) : Int32).toUInt32 &&& Int32.toUInt32 31)).toInt32 = z := ⟨_, rfl⟩
                    refine lv_iushr (v := v161) X.1 X.2.1 d_Ha_compress_319 ev161 ?_
                    refine lv_ior X.1 X.2.1 d_Ha_compress_320 ?_
                    refine t_any (fun v162 => ?_)
                    refine lv_istore_n (lv' := [(3, .int v162), (4, .int x58), (5, .int x59), (8, .int v159), (7, .int v152), (6, .int (nI i)), (2, .int x57), (1, .int x56), (0, .ref o)]) X.1 X.2.1 d_Ha_compress_321 rfl hl (by decide) rfl (fun ls hl => ?_)
                    refine lv_iload_n X.1 X.2.1 d_Ha_compress_322 rfl (lv_at hl 7 rfl) ?_
                    refine lv_istore_n (lv' := [(2, .int x56), (3, .int v162), (4, .int x58), (5, .int x59), (8, .int v159), (7, .int v152), (6, .int (nI i)), (1, .int x56), (0, .ref o)]) X.1 X.2.1 d_Ha_compress_323 rfl hl (by decide) rfl (fun ls hl => ?_)
                    refine lv_iload X.1 X.2.1 d_Ha_compress_324 (lv_at hl 4 rfl) ?_
                    refine lv_istore_n (lv' := [(1, .int v159), (2, .int x56), (3, .int v162), (4, .int x58), (5, .int x59), (8, .int v159), (7, .int v152), (6, .int (nI i)), (0, .ref o)]) X.1 X.2.1 d_Ha_compress_326 rfl hl (by decide) rfl (fun ls hl => ?_)
                    refine lv_iinc (v := (nI (i + 1))) (lv' := [(6, .int (nI (i + 1))), (1, .int v159), (2, .int x56), (3, .int v162), (4, .int x58), (5, .int x59), (8, .int v159), (7, .int v152), (0, .ref o)]) X.1 X.2.1 d_Ha_compress_327 hl (k := 7) rfl (nI_add _ 1) (by decide) rfl (fun ls hl => ?_)
                    refine lv_goto (tgt := 190) X.1 X.2.1 d_Ha_compress_330 (by decide) ?_
                    exact ih44  (i + 1)  (v159) (x56) (v162) (x58) (x59)  g49 g52 f45 _ _ _ (by omega) (by omega) (by omega)  e47 e48 e50 e51 e53 e54 e55 hF46 Y (lv_sub hl [0, 5, 4, 3, 2, 1, 8] rfl)
                · skip
                  rw [nI_leI (by omega) (by omega)] at c132
                  refine lv_iload_n X.1 X.2.1 d_Ha_compress_229 rfl (lv_at hl 4 rfl) ?_
                  refine lv_iload_n X.1 X.2.1 d_Ha_compress_230 rfl (lv_at hl 3 rfl) ?_
                  refine lv_ixor X.1 X.2.1 d_Ha_compress_231 ?_
                  refine t_any (fun v163 => ?_)
                  refine lv_iload X.1 X.2.1 d_Ha_compress_232 (lv_at hl 2 rfl) ?_
                  refine lv_ixor X.1 X.2.1 d_Ha_compress_234 ?_
                  refine t_any (fun v164 => ?_)
                  refine lv_ldc (v := (1859775393)) X.1 X.2.1 X.2.2.2.1 (X.2.2.1 _ cn_Ha_58) d_Ha_compress_235 ?_
                  refine t_eq (y := nI 1859775393) (by decide) ?_
                  refine lv_iadd X.1 X.2.1 d_Ha_compress_237 ?_
                  refine t_any (fun v165 => ?_)
                  refine lv_istore (lv' := [(7, .int v165), (6, .int (nI i)), (5, .int x60), (4, .int x59), (3, .int x58), (2, .int x57), (1, .int x56), (0, .ref o)]) X.1 X.2.1 d_Ha_compress_238 hl (by decide) rfl (fun ls hl => ?_)
                  refine lv_goto (tgt := 282) X.1 X.2.1 d_Ha_compress_240 (by decide) ?_
                  refine lv_iload_n X.1 X.2.1 d_Ha_compress_282 rfl (lv_at hl 6 rfl) ?_
                  refine lv_iconst (v := (nI 5)) X.1 X.2.1 d_Ha_compress_283 (by decide) ?_
                  refine lv_ishl X.1 X.2.1 d_Ha_compress_284 ?_
                  refine t_any (fun v166 => ?_)
                  refine lv_iload_n X.1 X.2.1 d_Ha_compress_285 rfl (lv_at hl 6 rfl) ?_
                  refine lv_bipush (v := (nI 27)) X.1 X.2.1 d_Ha_compress_286 (by decide) ?_
                  obtain ⟨v167, ev167⟩ : ∃ z : Int32, ((x56 : Int32).toUInt32 >>> (((nI 27) : Int32).toUInt32 &&& Int32.toUInt32 31)).toInt32 = z := ⟨_, rfl⟩
                  refine lv_iushr (v := v167) X.1 X.2.1 d_Ha_compress_288 ev167 ?_
                  refine lv_ior X.1 X.2.1 d_Ha_compress_289 ?_
                  refine t_any (fun v168 => ?_)
                  refine lv_iload X.1 X.2.1 d_Ha_compress_290 (lv_at hl 0 rfl) ?_
                  refine lv_iadd X.1 X.2.1 d_Ha_compress_292 ?_
                  refine t_any (fun v169 => ?_)
                  refine lv_iload X.1 X.2.1 d_Ha_compress_293 (lv_at hl 2 rfl) ?_
                  refine lv_iadd X.1 X.2.1 d_Ha_compress_295 ?_
                  refine t_any (fun v170 => ?_)
                  refine lv_aload_n X.1 X.2.1 d_Ha_compress_296 rfl (lv_at hl 7 rfl) ?_
                  refine q_get X.1 X.2.1 X.2.2.1 i_Ha X.2.2.2.1 X.2.2.2.2 Y m_o e47 rfl 0 (by decide) (X.2.2.1 _ lk_Ha_7) (fun _ h9 => h9) rfl d_Ha_compress_297 ?_
                  refine lv_iload X.1 X.2.1 d_Ha_compress_300 (lv_at hl 1 rfl) ?_
                  refine q_iald X.1 X.2.1 X.2.2.2.2 Y 1 m_wd e48 rfl (vp_in_nI (by omega) (by omega)) d_Ha_compress_302 ?_
                  refine t_any (fun v171 => ?_)
                  refine lv_iadd X.1 X.2.1 d_Ha_compress_303 ?_
                  refine t_any (fun v172 => ?_)
                  refine lv_istore (lv' := [(8, .int v172), (7, .int v165), (6, .int (nI i)), (5, .int x60), (4, .int x59), (3, .int x58), (2, .int x57), (1, .int x56), (0, .ref o)]) X.1 X.2.1 d_Ha_compress_304 hl (by decide) rfl (fun ls hl => ?_)
                  refine lv_iload X.1 X.2.1 d_Ha_compress_306 (lv_at hl 4 rfl) ?_
                  refine lv_istore (lv' := [(5, .int x59), (8, .int v172), (7, .int v165), (6, .int (nI i)), (4, .int x59), (3, .int x58), (2, .int x57), (1, .int x56), (0, .ref o)]) X.1 X.2.1 d_Ha_compress_308 hl (by decide) rfl (fun ls hl => ?_)
                  refine lv_iload_n X.1 X.2.1 d_Ha_compress_310 rfl (lv_at hl 5 rfl) ?_
                  refine lv_istore (lv' := [(4, .int x58), (5, .int x59), (8, .int v172), (7, .int v165), (6, .int (nI i)), (3, .int x58), (2, .int x57), (1, .int x56), (0, .ref o)]) X.1 X.2.1 d_Ha_compress_311 hl (by decide) rfl (fun ls hl => ?_)
                  refine lv_iload_n X.1 X.2.1 d_Ha_compress_313 rfl (lv_at hl 6 rfl) ?_
                  refine lv_bipush (v := (nI 30)) X.1 X.2.1 d_Ha_compress_314 (by decide) ?_
                  refine lv_ishl X.1 X.2.1 d_Ha_compress_316 ?_
                  refine t_any (fun v173 => ?_)
                  refine lv_iload_n X.1 X.2.1 d_Ha_compress_317 rfl (lv_at hl 6 rfl) ?_
                  refine lv_iconst (v := (nI 2)) X.1 X.2.1 d_Ha_compress_318 (by decide) ?_
                  obtain ⟨v174, ev174⟩ : ∃ z : Int32, ((x57 : Int32).toUInt32 >>> (((nI 2) : Int32).toUInt32 &&& Int32.toUInt32 31)).toInt32 = z := ⟨_, rfl⟩
                  refine lv_iushr (v := v174) X.1 X.2.1 d_Ha_compress_319 ev174 ?_
                  refine lv_ior X.1 X.2.1 d_Ha_compress_320 ?_
                  refine t_any (fun v175 => ?_)
                  refine lv_istore_n (lv' := [(3, .int v175), (4, .int x58), (5, .int x59), (8, .int v172), (7, .int v165), (6, .int (nI i)), (2, .int x57), (1, .int x56), (0, .ref o)]) X.1 X.2.1 d_Ha_compress_321 rfl hl (by decide) rfl (fun ls hl => ?_)
                  refine lv_iload_n X.1 X.2.1 d_Ha_compress_322 rfl (lv_at hl 7 rfl) ?_
                  refine lv_istore_n (lv' := [(2, .int x56), (3, .int v175), (4, .int x58), (5, .int x59), (8, .int v172), (7, .int v165), (6, .int (nI i)), (1, .int x56), (0, .ref o)]) X.1 X.2.1 d_Ha_compress_323 rfl hl (by decide) rfl (fun ls hl => ?_)
                  refine lv_iload X.1 X.2.1 d_Ha_compress_324 (lv_at hl 4 rfl) ?_
                  refine lv_istore_n (lv' := [(1, .int v172), (2, .int x56), (3, .int v175), (4, .int x58), (5, .int x59), (8, .int v172), (7, .int v165), (6, .int (nI i)), (0, .ref o)]) X.1 X.2.1 d_Ha_compress_326 rfl hl (by decide) rfl (fun ls hl => ?_)
                  refine lv_iinc (v := (nI (i + 1))) (lv' := [(6, .int (nI (i + 1))), (1, .int v172), (2, .int x56), (3, .int v175), (4, .int x58), (5, .int x59), (8, .int v172), (7, .int v165), (0, .ref o)]) X.1 X.2.1 d_Ha_compress_327 hl (k := 7) rfl (nI_add _ 1) (by decide) rfl (fun ls hl => ?_)
                  refine lv_goto (tgt := 190) X.1 X.2.1 d_Ha_compress_330 (by decide) ?_
                  exact ih44  (i + 1)  (v172) (x56) (v175) (x58) (x59)  g49 g52 f45 _ _ _ (by omega) (by omega) (by omega)  e47 e48 e50 e51 e53 e54 e55 hF46 Y (lv_sub hl [0, 5, 4, 3, 2, 1, 8] rfl)
              · skip
                rw [nI_leI (by omega) (by omega)] at c131
                refine lv_iload_n X.1 X.2.1 d_Ha_compress_204 rfl (lv_at hl 4 rfl) ?_
                refine lv_iload_n X.1 X.2.1 d_Ha_compress_205 rfl (lv_at hl 3 rfl) ?_
                refine lv_iand X.1 X.2.1 d_Ha_compress_206 ?_
                refine t_any (fun v176 => ?_)
                refine lv_iload_n X.1 X.2.1 d_Ha_compress_207 rfl (lv_at hl 4 rfl) ?_
                refine lv_iconst (v := (-1)) X.1 X.2.1 d_Ha_compress_208 (by decide) ?_
                refine lv_ixor X.1 X.2.1 d_Ha_compress_209 ?_
                refine t_any (fun v177 => ?_)
                refine lv_iload X.1 X.2.1 d_Ha_compress_210 (lv_at hl 2 rfl) ?_
                refine lv_iand X.1 X.2.1 d_Ha_compress_212 ?_
                refine t_any (fun v178 => ?_)
                refine lv_ior X.1 X.2.1 d_Ha_compress_213 ?_
                refine t_any (fun v179 => ?_)
                refine lv_ldc (v := (1518500249)) X.1 X.2.1 X.2.2.2.1 (X.2.2.1 _ cn_Ha_57) d_Ha_compress_214 ?_
                refine t_eq (y := nI 1518500249) (by decide) ?_
                refine lv_iadd X.1 X.2.1 d_Ha_compress_216 ?_
                refine t_any (fun v180 => ?_)
                refine lv_istore (lv' := [(7, .int v180), (6, .int (nI i)), (5, .int x60), (4, .int x59), (3, .int x58), (2, .int x57), (1, .int x56), (0, .ref o)]) X.1 X.2.1 d_Ha_compress_217 hl (by decide) rfl (fun ls hl => ?_)
                refine lv_goto (tgt := 282) X.1 X.2.1 d_Ha_compress_219 (by decide) ?_
                refine lv_iload_n X.1 X.2.1 d_Ha_compress_282 rfl (lv_at hl 6 rfl) ?_
                refine lv_iconst (v := (nI 5)) X.1 X.2.1 d_Ha_compress_283 (by decide) ?_
                refine lv_ishl X.1 X.2.1 d_Ha_compress_284 ?_
                refine t_any (fun v181 => ?_)
                refine lv_iload_n X.1 X.2.1 d_Ha_compress_285 rfl (lv_at hl 6 rfl) ?_
                refine lv_bipush (v := (nI 27)) X.1 X.2.1 d_Ha_compress_286 (by decide) ?_
                obtain ⟨v182, ev182⟩ : ∃ z : Int32, ((x56 : Int32).toUInt32 >>> (((nI 27) : Int32).toUInt32 &&& Int32.toUInt32 31)).toInt32 = z := ⟨_, rfl⟩
                refine lv_iushr (v := v182) X.1 X.2.1 d_Ha_compress_288 ev182 ?_
                refine lv_ior X.1 X.2.1 d_Ha_compress_289 ?_
                refine t_any (fun v183 => ?_)
                refine lv_iload X.1 X.2.1 d_Ha_compress_290 (lv_at hl 0 rfl) ?_
                refine lv_iadd X.1 X.2.1 d_Ha_compress_292 ?_
                refine t_any (fun v184 => ?_)
                refine lv_iload X.1 X.2.1 d_Ha_compress_293 (lv_at hl 2 rfl) ?_
                refine lv_iadd X.1 X.2.1 d_Ha_compress_295 ?_
                refine t_any (fun v185 => ?_)
                refine lv_aload_n X.1 X.2.1 d_Ha_compress_296 rfl (lv_at hl 7 rfl) ?_
                refine q_get X.1 X.2.1 X.2.2.1 i_Ha X.2.2.2.1 X.2.2.2.2 Y m_o e47 rfl 0 (by decide) (X.2.2.1 _ lk_Ha_7) (fun _ h9 => h9) rfl d_Ha_compress_297 ?_
                refine lv_iload X.1 X.2.1 d_Ha_compress_300 (lv_at hl 1 rfl) ?_
                refine q_iald X.1 X.2.1 X.2.2.2.2 Y 1 m_wd e48 rfl (vp_in_nI (by omega) (by omega)) d_Ha_compress_302 ?_
                refine t_any (fun v186 => ?_)
                refine lv_iadd X.1 X.2.1 d_Ha_compress_303 ?_
                refine t_any (fun v187 => ?_)
                refine lv_istore (lv' := [(8, .int v187), (7, .int v180), (6, .int (nI i)), (5, .int x60), (4, .int x59), (3, .int x58), (2, .int x57), (1, .int x56), (0, .ref o)]) X.1 X.2.1 d_Ha_compress_304 hl (by decide) rfl (fun ls hl => ?_)
                refine lv_iload X.1 X.2.1 d_Ha_compress_306 (lv_at hl 4 rfl) ?_
                refine lv_istore (lv' := [(5, .int x59), (8, .int v187), (7, .int v180), (6, .int (nI i)), (4, .int x59), (3, .int x58), (2, .int x57), (1, .int x56), (0, .ref o)]) X.1 X.2.1 d_Ha_compress_308 hl (by decide) rfl (fun ls hl => ?_)
                refine lv_iload_n X.1 X.2.1 d_Ha_compress_310 rfl (lv_at hl 5 rfl) ?_
                refine lv_istore (lv' := [(4, .int x58), (5, .int x59), (8, .int v187), (7, .int v180), (6, .int (nI i)), (3, .int x58), (2, .int x57), (1, .int x56), (0, .ref o)]) X.1 X.2.1 d_Ha_compress_311 hl (by decide) rfl (fun ls hl => ?_)
                refine lv_iload_n X.1 X.2.1 d_Ha_compress_313 rfl (lv_at hl 6 rfl) ?_
                refine lv_bipush (v := (nI 30)) X.1 X.2.1 d_Ha_compress_314 (by decide) ?_
                refine lv_ishl X.1 X.2.1 d_Ha_compress_316 ?_
                refine t_any (fun v188 => ?_)
                refine lv_iload_n X.1 X.2.1 d_Ha_compress_317 rfl (lv_at hl 6 rfl) ?_
                refine lv_iconst (v := (nI 2)) X.1 X.2.1 d_Ha_compress_318 (by decide) ?_
                obtain ⟨v189, ev189⟩ : ∃ z : Int32, ((x57 : Int32).toUInt32 >>> (((nI 2) : Int32).toUInt32 &&& Int32.toUInt32 31)).toInt32 = z := ⟨_, rfl⟩
                refine lv_iushr (v := v189) X.1 X.2.1 d_Ha_compress_319 ev189 ?_
                refine lv_ior X.1 X.2.1 d_Ha_compress_320 ?_
                refine t_any (fun v190 => ?_)
                refine lv_istore_n (lv' := [(3, .int v190), (4, .int x58), (5, .int x59), (8, .int v187), (7, .int v180), (6, .int (nI i)), (2, .int x57), (1, .int x56), (0, .ref o)]) X.1 X.2.1 d_Ha_compress_321 rfl hl (by decide) rfl (fun ls hl => ?_)
                refine lv_iload_n X.1 X.2.1 d_Ha_compress_322 rfl (lv_at hl 7 rfl) ?_
                refine lv_istore_n (lv' := [(2, .int x56), (3, .int v190), (4, .int x58), (5, .int x59), (8, .int v187), (7, .int v180), (6, .int (nI i)), (1, .int x56), (0, .ref o)]) X.1 X.2.1 d_Ha_compress_323 rfl hl (by decide) rfl (fun ls hl => ?_)
                refine lv_iload X.1 X.2.1 d_Ha_compress_324 (lv_at hl 4 rfl) ?_
                refine lv_istore_n (lv' := [(1, .int v187), (2, .int x56), (3, .int v190), (4, .int x58), (5, .int x59), (8, .int v187), (7, .int v180), (6, .int (nI i)), (0, .ref o)]) X.1 X.2.1 d_Ha_compress_326 rfl hl (by decide) rfl (fun ls hl => ?_)
                refine lv_iinc (v := (nI (i + 1))) (lv' := [(6, .int (nI (i + 1))), (1, .int v187), (2, .int x56), (3, .int v190), (4, .int x58), (5, .int x59), (8, .int v187), (7, .int v180), (0, .ref o)]) X.1 X.2.1 d_Ha_compress_327 hl (k := 7) rfl (nI_add _ 1) (by decide) rfl (fun ls hl => ?_)
                refine lv_goto (tgt := 190) X.1 X.2.1 d_Ha_compress_330 (by decide) ?_
                exact ih44  (i + 1)  (v187) (x56) (v190) (x58) (x59)  g49 g52 f45 _ _ _ (by omega) (by omega) (by omega)  e47 e48 e50 e51 e53 e54 e55 hF46 Y (lv_sub hl [0, 5, 4, 3, 2, 1, 8] rfl)
          exact lp42 (80 - 0) (0)  (v37) (v38) (v39) (v40) (v41)  g26 g29 f22 _ _ _ (by omega) (by omega) (by omega)  e24 e25 e27 e28 e30 e31 e32 hF23 Y (lv_sub hl [0, 1, 2, 3, 4, 5, 6] rfl)
        | succ n20 ih21 =>
          intro i g26 g29 f22 H locs ls hm35 hc33 hc34  e24 e25 e27 e28 e30 e31 e32 hF23 Y hl
          refine lv_iload_n X.1 X.2.1 d_Ha_compress_85 rfl (lv_at hl 0 rfl) ?_
          refine lv_bipush (v := (nI 80)) X.1 X.2.1 d_Ha_compress_86 (by decide) ?_
          refine lv_icmp_ge (tgt := 150) X.1 X.2.1 d_Ha_compress_88 (by decide) (fun c191 => absurd c191 ?_) (fun c191 => ?_)
          · (rw [nI_leI (by omega) (by omega)] <;> omega)
          rw [nI_leI (by omega) (by omega)] at c191
          refine lv_aload_n X.1 X.2.1 d_Ha_compress_91 rfl (lv_at hl 1 rfl) ?_
          refine q_get X.1 X.2.1 X.2.2.1 i_Ha X.2.2.2.1 X.2.2.2.2 Y m_o e24 rfl 0 (by decide) (X.2.2.1 _ lk_Ha_7) (fun _ h9 => h9) rfl d_Ha_compress_92 ?_
          refine lv_iload_n X.1 X.2.1 d_Ha_compress_95 rfl (lv_at hl 0 rfl) ?_
          refine lv_iconst (v := (nI 3)) X.1 X.2.1 d_Ha_compress_96 (by decide) ?_
          refine lv_isub X.1 X.2.1 d_Ha_compress_97 ?_
          refine t_eq (y := nI (i - (3))) (pk_sub (by omega)) ?_
          refine q_iald X.1 X.2.1 X.2.2.2.2 Y 1 m_wd e25 rfl (vp_in_nI (by omega) (by omega)) d_Ha_compress_98 ?_
          refine t_any (fun v192 => ?_)
          refine lv_aload_n X.1 X.2.1 d_Ha_compress_99 rfl (lv_at hl 1 rfl) ?_
          refine q_get X.1 X.2.1 X.2.2.1 i_Ha X.2.2.2.1 X.2.2.2.2 Y m_o e24 rfl 0 (by decide) (X.2.2.1 _ lk_Ha_7) (fun _ h9 => h9) rfl d_Ha_compress_100 ?_
          refine lv_iload_n X.1 X.2.1 d_Ha_compress_103 rfl (lv_at hl 0 rfl) ?_
          refine lv_bipush (v := (nI 8)) X.1 X.2.1 d_Ha_compress_104 (by decide) ?_
          refine lv_isub X.1 X.2.1 d_Ha_compress_106 ?_
          refine t_eq (y := nI (i - (8))) (pk_sub (by omega)) ?_
          refine q_iald X.1 X.2.1 X.2.2.2.2 Y 1 m_wd e25 rfl (vp_in_nI (by omega) (by omega)) d_Ha_compress_107 ?_
          refine t_any (fun v193 => ?_)
          refine lv_ixor X.1 X.2.1 d_Ha_compress_108 ?_
          refine t_any (fun v194 => ?_)
          refine lv_aload_n X.1 X.2.1 d_Ha_compress_109 rfl (lv_at hl 1 rfl) ?_
          refine q_get X.1 X.2.1 X.2.2.1 i_Ha X.2.2.2.1 X.2.2.2.2 Y m_o e24 rfl 0 (by decide) (X.2.2.1 _ lk_Ha_7) (fun _ h9 => h9) rfl d_Ha_compress_110 ?_
          refine lv_iload_n X.1 X.2.1 d_Ha_compress_113 rfl (lv_at hl 0 rfl) ?_
          refine lv_bipush (v := (nI 14)) X.1 X.2.1 d_Ha_compress_114 (by decide) ?_
          refine lv_isub X.1 X.2.1 d_Ha_compress_116 ?_
          refine t_eq (y := nI (i - (14))) (pk_sub (by omega)) ?_
          refine q_iald X.1 X.2.1 X.2.2.2.2 Y 1 m_wd e25 rfl (vp_in_nI (by omega) (by omega)) d_Ha_compress_117 ?_
          refine t_any (fun v195 => ?_)
          refine lv_ixor X.1 X.2.1 d_Ha_compress_118 ?_
          refine t_any (fun v196 => ?_)
          refine lv_aload_n X.1 X.2.1 d_Ha_compress_119 rfl (lv_at hl 1 rfl) ?_
          refine q_get X.1 X.2.1 X.2.2.1 i_Ha X.2.2.2.1 X.2.2.2.2 Y m_o e24 rfl 0 (by decide) (X.2.2.1 _ lk_Ha_7) (fun _ h9 => h9) rfl d_Ha_compress_120 ?_
          refine lv_iload_n X.1 X.2.1 d_Ha_compress_123 rfl (lv_at hl 0 rfl) ?_
          refine lv_bipush (v := (nI 16)) X.1 X.2.1 d_Ha_compress_124 (by decide) ?_
          refine lv_isub X.1 X.2.1 d_Ha_compress_126 ?_
          refine t_eq (y := nI (i - (16))) (pk_sub (by omega)) ?_
          refine q_iald X.1 X.2.1 X.2.2.2.2 Y 1 m_wd e25 rfl (vp_in_nI (by omega) (by omega)) d_Ha_compress_127 ?_
          refine t_any (fun v197 => ?_)
          refine lv_ixor X.1 X.2.1 d_Ha_compress_128 ?_
          refine t_any (fun v198 => ?_)
          refine lv_istore_n (lv' := [(2, .int v198), (1, .int (nI i)), (0, .ref o)]) X.1 X.2.1 d_Ha_compress_129 rfl hl (by decide) rfl (fun ls hl => ?_)
          refine lv_aload_n X.1 X.2.1 d_Ha_compress_130 rfl (lv_at hl 2 rfl) ?_
          refine q_get X.1 X.2.1 X.2.2.1 i_Ha X.2.2.2.1 X.2.2.2.2 Y m_o e24 rfl 0 (by decide) (X.2.2.1 _ lk_Ha_7) (fun _ h9 => h9) rfl d_Ha_compress_131 ?_
          refine lv_iload_n X.1 X.2.1 d_Ha_compress_134 rfl (lv_at hl 1 rfl) ?_
          refine lv_iload_n X.1 X.2.1 d_Ha_compress_135 rfl (lv_at hl 0 rfl) ?_
          refine lv_iconst (v := (nI 1)) X.1 X.2.1 d_Ha_compress_136 (by decide) ?_
          refine lv_ishl X.1 X.2.1 d_Ha_compress_137 ?_
          refine t_any (fun v199 => ?_)
          refine lv_iload_n X.1 X.2.1 d_Ha_compress_138 rfl (lv_at hl 0 rfl) ?_
          refine lv_bipush (v := (nI 31)) X.1 X.2.1 d_Ha_compress_139 (by decide) ?_
          obtain ⟨v200, ev200⟩ : ∃ z : Int32, ((v198 : Int32).toUInt32 >>> (((nI 31) : Int32).toUInt32 &&& Int32.toUInt32 31)).toInt32 = z := ⟨_, rfl⟩
          refine lv_iushr (v := v200) X.1 X.2.1 d_Ha_compress_141 ev200 ?_
          refine lv_ior X.1 X.2.1 d_Ha_compress_142 ?_
          refine t_any (fun v201 => ?_)
          refine q_iast X.1 X.2.1 X.2.2.2.2 Y 1 m_wd e25 rfl (vp_in_nI (by omega) (by omega)) d_Ha_compress_143 (fun H locs Y => ?_)
          generalize (upd g26 ((nI i)).toNatClampNeg v201) = g202 at Y
          have e205 : (va_up f22 wd (.inl (E.2.1, 80, .inl g202))) wd = .inl (E.2.1, 80, .inl g202) := q_up
          have e206 : (va_up f22 wd (.inl (E.2.1, 80, .inl g202))) o = .inr (6, [.ref wd, .ref bl, .ref sta, .ref inn, .ref out, .int (nI fl), .int tot, .ref mac]) := (q_ne (q_tag e24 e25 (show (6 : Nat) ≠ 1000 by decide))).trans e24
          have e207 : (va_up f22 wd (.inl (E.2.1, 80, .inl g202))) bl = .inl (E.1, 64, .inl g_bl) := (q_ne ap_wd_bl.symm).trans e27
          have e208 : (va_up f22 wd (.inl (E.2.1, 80, .inl g202))) sta = .inl (E.2.1, 5, .inl g29) := (q_ne ap_wd_sta.symm).trans e28
          have e209 : (va_up f22 wd (.inl (E.2.1, 80, .inl g202))) inn = .inl (E.2.1, 5, .inl g_inn) := (q_ne ap_wd_inn.symm).trans e30
          have e210 : (va_up f22 wd (.inl (E.2.1, 80, .inl g202))) out = .inl (E.2.1, 5, .inl g_out) := (q_ne ap_wd_out.symm).trans e31
          have e211 : (va_up f22 wd (.inl (E.2.1, 80, .inl g202))) mac = .inl (E.1, 20, .inl g_mac) := (q_ne ap_wd_mac.symm).trans e32
          have hF212 : ∀ x, x ≠ wd → x ≠ sta → (va_up f22 wd (.inl (E.2.1, 80, .inl g202))) x = f x := fun x h0 h1 => (q_ne h0).trans (hF23 x h0 h1)
          have Y : pH D cCl (pA L sz) s.heap L (va_up f22 wd (.inl (E.2.1, 80, .inl g202))) H locs := Y
          generalize (va_up f22 wd (.inl (E.2.1, 80, .inl g202))) = f204 at Y e205 e206 e207 e208 e209 e210 e211 hF212
          refine lv_iinc (v := (nI (i + 1))) (lv' := [(1, .int (nI (i + 1))), (2, .int v198), (0, .ref o)]) X.1 X.2.1 d_Ha_compress_144 hl (k := 1) rfl (nI_add _ 1) (by decide) rfl (fun ls hl => ?_)
          refine lv_goto (tgt := 85) X.1 X.2.1 d_Ha_compress_147 (by decide) ?_
          exact ih21  (i + 1)    g202 g29 f204 _ _ _ (by omega) (by omega) (by omega)  e206 e205 e207 e208 e209 e210 e211 hF212 Y (lv_sub hl [0, 2] rfl)
      exact lp19 (80 - 16) (16)    g8 g11 f4 _ _ _ (by omega) (by omega) (by omega)  e6 e7 e9 e10 e12 e13 e14 hF5 Y (lv_sub hl [0, 1] rfl)
    | succ n2 ih3 =>
      intro i g8 g11 f4 H locs ls hm17 hc15 hc16  e6 e7 e9 e10 e12 e13 e14 hF5 Y hl
      refine lv_iload_n X.1 X.2.1 d_Ha_compress_2 rfl (lv_at hl 0 rfl) ?_
      refine lv_bipush (v := (nI 16)) X.1 X.2.1 d_Ha_compress_3 (by decide) ?_
      refine lv_icmp_ge (tgt := 82) X.1 X.2.1 d_Ha_compress_5 (by decide) (fun c213 => absurd c213 ?_) (fun c213 => ?_)
      · (rw [nI_leI (by omega) (by omega)] <;> omega)
      rw [nI_leI (by omega) (by omega)] at c213
      refine lv_aload_n X.1 X.2.1 d_Ha_compress_8 rfl (lv_at hl 1 rfl) ?_
      refine q_get X.1 X.2.1 X.2.2.1 i_Ha X.2.2.2.1 X.2.2.2.2 Y m_o e6 rfl 0 (by decide) (X.2.2.1 _ lk_Ha_7) (fun _ h9 => h9) rfl d_Ha_compress_9 ?_
      refine lv_iload_n X.1 X.2.1 d_Ha_compress_12 rfl (lv_at hl 0 rfl) ?_
      refine lv_aload_n X.1 X.2.1 d_Ha_compress_13 rfl (lv_at hl 1 rfl) ?_
      refine q_get X.1 X.2.1 X.2.2.1 i_Ha X.2.2.2.1 X.2.2.2.2 Y m_o e6 rfl 1 (by decide) (X.2.2.1 _ lk_Ha_13) (fun _ h9 => h9) rfl d_Ha_compress_14 ?_
      refine lv_iconst (v := (nI 4)) X.1 X.2.1 d_Ha_compress_17 (by decide) ?_
      refine lv_iload_n X.1 X.2.1 d_Ha_compress_18 rfl (lv_at hl 0 rfl) ?_
      refine lv_imul X.1 X.2.1 d_Ha_compress_19 ?_
      refine t_eq (y := nI ((4) * (i))) (pk_mul _ _) ?_
      refine q_bald X.1 X.2.1 X.2.2.2.2 Y 0 m_bl e9 rfl (vp_in_nI (by omega) (by omega)) d_Ha_compress_20 ?_
      refine t_any (fun v214 => ?_)
      refine lv_bipush (v := (nI 24)) X.1 X.2.1 d_Ha_compress_21 (by decide) ?_
      refine lv_ishl X.1 X.2.1 d_Ha_compress_23 ?_
      refine t_any (fun v215 => ?_)
      refine lv_aload_n X.1 X.2.1 d_Ha_compress_24 rfl (lv_at hl 1 rfl) ?_
      refine q_get X.1 X.2.1 X.2.2.1 i_Ha X.2.2.2.1 X.2.2.2.2 Y m_o e6 rfl 1 (by decide) (X.2.2.1 _ lk_Ha_13) (fun _ h9 => h9) rfl d_Ha_compress_25 ?_
      refine lv_iconst (v := (nI 4)) X.1 X.2.1 d_Ha_compress_28 (by decide) ?_
      refine lv_iload_n X.1 X.2.1 d_Ha_compress_29 rfl (lv_at hl 0 rfl) ?_
      refine lv_imul X.1 X.2.1 d_Ha_compress_30 ?_
      refine t_eq (y := nI ((4) * (i))) (pk_mul _ _) ?_
      refine lv_iconst (v := (nI 1)) X.1 X.2.1 d_Ha_compress_31 (by decide) ?_
      refine lv_iadd X.1 X.2.1 d_Ha_compress_32 ?_
      refine t_eq (y := nI ((4) * (i) + 1)) (nI_add _ _) ?_
      refine q_bald X.1 X.2.1 X.2.2.2.2 Y 0 m_bl e9 rfl (vp_in_nI (by omega) (by omega)) d_Ha_compress_33 ?_
      refine t_any (fun v216 => ?_)
      refine lv_sipush (v := (nI 255)) X.1 X.2.1 d_Ha_compress_34 (by decide) ?_
      refine lv_iand X.1 X.2.1 d_Ha_compress_37 ?_
      obtain ⟨j217, hj217, ej217⟩ := pk_andE v216 (m := nI 255) 8 (by decide)
      refine t_eq ej217 ?_
      have hj217 : j217 < 256 := hj217
      refine lv_bipush (v := (nI 16)) X.1 X.2.1 d_Ha_compress_38 (by decide) ?_
      refine lv_ishl X.1 X.2.1 d_Ha_compress_40 ?_
      refine t_any (fun v218 => ?_)
      refine lv_ior X.1 X.2.1 d_Ha_compress_41 ?_
      refine t_any (fun v219 => ?_)
      refine lv_aload_n X.1 X.2.1 d_Ha_compress_42 rfl (lv_at hl 1 rfl) ?_
      refine q_get X.1 X.2.1 X.2.2.1 i_Ha X.2.2.2.1 X.2.2.2.2 Y m_o e6 rfl 1 (by decide) (X.2.2.1 _ lk_Ha_13) (fun _ h9 => h9) rfl d_Ha_compress_43 ?_
      refine lv_iconst (v := (nI 4)) X.1 X.2.1 d_Ha_compress_46 (by decide) ?_
      refine lv_iload_n X.1 X.2.1 d_Ha_compress_47 rfl (lv_at hl 0 rfl) ?_
      refine lv_imul X.1 X.2.1 d_Ha_compress_48 ?_
      refine t_eq (y := nI ((4) * (i))) (pk_mul _ _) ?_
      refine lv_iconst (v := (nI 2)) X.1 X.2.1 d_Ha_compress_49 (by decide) ?_
      refine lv_iadd X.1 X.2.1 d_Ha_compress_50 ?_
      refine t_eq (y := nI ((4) * (i) + 2)) (nI_add _ _) ?_
      refine q_bald X.1 X.2.1 X.2.2.2.2 Y 0 m_bl e9 rfl (vp_in_nI (by omega) (by omega)) d_Ha_compress_51 ?_
      refine t_any (fun v220 => ?_)
      refine lv_sipush (v := (nI 255)) X.1 X.2.1 d_Ha_compress_52 (by decide) ?_
      refine lv_iand X.1 X.2.1 d_Ha_compress_55 ?_
      obtain ⟨j221, hj221, ej221⟩ := pk_andE v220 (m := nI 255) 8 (by decide)
      refine t_eq ej221 ?_
      have hj221 : j221 < 256 := hj221
      refine lv_bipush (v := (nI 8)) X.1 X.2.1 d_Ha_compress_56 (by decide) ?_
      refine lv_ishl X.1 X.2.1 d_Ha_compress_58 ?_
      refine t_any (fun v222 => ?_)
      refine lv_ior X.1 X.2.1 d_Ha_compress_59 ?_
      refine t_any (fun v223 => ?_)
      refine lv_aload_n X.1 X.2.1 d_Ha_compress_60 rfl (lv_at hl 1 rfl) ?_
      refine q_get X.1 X.2.1 X.2.2.1 i_Ha X.2.2.2.1 X.2.2.2.2 Y m_o e6 rfl 1 (by decide) (X.2.2.1 _ lk_Ha_13) (fun _ h9 => h9) rfl d_Ha_compress_61 ?_
      refine lv_iconst (v := (nI 4)) X.1 X.2.1 d_Ha_compress_64 (by decide) ?_
      refine lv_iload_n X.1 X.2.1 d_Ha_compress_65 rfl (lv_at hl 0 rfl) ?_
      refine lv_imul X.1 X.2.1 d_Ha_compress_66 ?_
      refine t_eq (y := nI ((4) * (i))) (pk_mul _ _) ?_
      refine lv_iconst (v := (nI 3)) X.1 X.2.1 d_Ha_compress_67 (by decide) ?_
      refine lv_iadd X.1 X.2.1 d_Ha_compress_68 ?_
      refine t_eq (y := nI ((4) * (i) + 3)) (nI_add _ _) ?_
      refine q_bald X.1 X.2.1 X.2.2.2.2 Y 0 m_bl e9 rfl (vp_in_nI (by omega) (by omega)) d_Ha_compress_69 ?_
      refine t_any (fun v224 => ?_)
      refine lv_sipush (v := (nI 255)) X.1 X.2.1 d_Ha_compress_70 (by decide) ?_
      refine lv_iand X.1 X.2.1 d_Ha_compress_73 ?_
      obtain ⟨j225, hj225, ej225⟩ := pk_andE v224 (m := nI 255) 8 (by decide)
      refine t_eq ej225 ?_
      have hj225 : j225 < 256 := hj225
      refine lv_ior X.1 X.2.1 d_Ha_compress_74 ?_
      refine t_any (fun v226 => ?_)
      refine q_iast X.1 X.2.1 X.2.2.2.2 Y 1 m_wd e7 rfl (vp_in_nI (by omega) (by omega)) d_Ha_compress_75 (fun H locs Y => ?_)
      generalize (upd g8 ((nI i)).toNatClampNeg v226) = g227 at Y
      have e230 : (va_up f4 wd (.inl (E.2.1, 80, .inl g227))) wd = .inl (E.2.1, 80, .inl g227) := q_up
      have e231 : (va_up f4 wd (.inl (E.2.1, 80, .inl g227))) o = .inr (6, [.ref wd, .ref bl, .ref sta, .ref inn, .ref out, .int (nI fl), .int tot, .ref mac]) := (q_ne (q_tag e6 e7 (show (6 : Nat) ≠ 1000 by decide))).trans e6
      have e232 : (va_up f4 wd (.inl (E.2.1, 80, .inl g227))) bl = .inl (E.1, 64, .inl g_bl) := (q_ne ap_wd_bl.symm).trans e9
      have e233 : (va_up f4 wd (.inl (E.2.1, 80, .inl g227))) sta = .inl (E.2.1, 5, .inl g11) := (q_ne ap_wd_sta.symm).trans e10
      have e234 : (va_up f4 wd (.inl (E.2.1, 80, .inl g227))) inn = .inl (E.2.1, 5, .inl g_inn) := (q_ne ap_wd_inn.symm).trans e12
      have e235 : (va_up f4 wd (.inl (E.2.1, 80, .inl g227))) out = .inl (E.2.1, 5, .inl g_out) := (q_ne ap_wd_out.symm).trans e13
      have e236 : (va_up f4 wd (.inl (E.2.1, 80, .inl g227))) mac = .inl (E.1, 20, .inl g_mac) := (q_ne ap_wd_mac.symm).trans e14
      have hF237 : ∀ x, x ≠ wd → x ≠ sta → (va_up f4 wd (.inl (E.2.1, 80, .inl g227))) x = f x := fun x h0 h1 => (q_ne h0).trans (hF5 x h0 h1)
      have Y : pH D cCl (pA L sz) s.heap L (va_up f4 wd (.inl (E.2.1, 80, .inl g227))) H locs := Y
      generalize (va_up f4 wd (.inl (E.2.1, 80, .inl g227))) = f229 at Y e230 e231 e232 e233 e234 e235 e236 hF237
      refine lv_iinc (v := (nI (i + 1))) (lv' := [(1, .int (nI (i + 1))), (0, .ref o)]) X.1 X.2.1 d_Ha_compress_76 hl (k := 0) rfl (nI_add _ 1) (by decide) rfl (fun ls hl => ?_)
      refine lv_goto (tgt := 2) X.1 X.2.1 d_Ha_compress_79 (by decide) ?_
      exact ih3  (i + 1)    g227 g11 f229 _ _ _ (by omega) (by omega) (by omega)  e231 e230 e232 e233 e234 e235 e236 hF237 Y (lv_sub hl [0, 1] rfl)
  exact lp1 (16 - 0) (0)    g_wd g_sta f _ _ _ (by omega) (by omega) (by omega)  e_o e_wd e_bl e_sta e_inn e_out e_mac (fun _ _ _ => rfl) Y (lv_sub hl [0, 1] rfl)
