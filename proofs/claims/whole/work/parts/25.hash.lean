/-! Hash. -/
abbrev b_Ha_compress : ByteArray := prog_7_method_8_code
def y_Ha_compress : MethodName := ⟨R_Ha, "compress", "()V"⟩
abbrev k_Ha_compress : Cond := .code y_Ha_compress b_Ha_compress 9 none
theorem ki_Ha_compress : k_Ha_compress ∈ lw_tg := in_t 600 (by decide +kernel)
theorem ks_Ha_compress : Cond.instanceMethod y_Ha_compress ∈ lw_tg := in_t 599 (by decide +kernel)
theorem kx_Ha_compress : Cond.selects R_Ha y_Ha_compress y_Ha_compress ∈ lw_tg := List.mem_filter.mpr ⟨List.mem_append_left _ (List.mem_of_getElem? (i := 1) (by decide +kernel)), rfl⟩
theorem kl_Ha_Ha_compress : Cond.methodLink R_Ha 44 y_Ha_compress ∈ lw_tg := in_t 597 (by decide +kernel)
theorem hd_Ha_compress : y_Ha_compress.cls = R_Ha ∧ y_Ha_compress.cls ≠ "java/lang/invoke/MethodHandle" ∧ y_Ha_compress.cls ≠ "java/lang/invoke/VarHandle" ∧ (parseMethodDescriptor y_Ha_compress.desc).map (fun d => d.parameters.length) = some 0 := by decide +kernel
theorem d_Ha_compress_0 : decode b_Ha_compress 0 = .ok (.iconst 0, 1) := by decide +kernel
theorem d_Ha_compress_1 : decode b_Ha_compress 1 = .ok (.istore_n 1, 1) := by decide +kernel
theorem d_Ha_compress_2 : decode b_Ha_compress 2 = .ok (.iload_n 1, 1) := by decide +kernel
theorem d_Ha_compress_3 : decode b_Ha_compress 3 = .ok (.bipush 16, 2) := by decide +kernel
theorem d_Ha_compress_5 : decode b_Ha_compress 5 = .ok (.if_icmp .ge 77, 3) := by decide +kernel
theorem d_Ha_compress_8 : decode b_Ha_compress 8 = .ok (.aload_n 0, 1) := by decide +kernel
theorem d_Ha_compress_9 : decode b_Ha_compress 9 = .ok (.getfield 7, 3) := by decide +kernel
theorem lk_Ha_7 : Cond.fieldLink R_Ha 7 R_Ha (F_Ha 0).2.1 (F_Ha 0).2.2.1 ∈ lw_tg := in_t 70 (by decide +kernel)
theorem d_Ha_compress_12 : decode b_Ha_compress 12 = .ok (.iload_n 1, 1) := by decide +kernel
theorem d_Ha_compress_13 : decode b_Ha_compress 13 = .ok (.aload_n 0, 1) := by decide +kernel
theorem d_Ha_compress_14 : decode b_Ha_compress 14 = .ok (.getfield 13, 3) := by decide +kernel
theorem lk_Ha_13 : Cond.fieldLink R_Ha 13 R_Ha (F_Ha 1).2.1 (F_Ha 1).2.2.1 ∈ lw_tg := in_t 71 (by decide +kernel)
theorem d_Ha_compress_17 : decode b_Ha_compress 17 = .ok (.iconst 4, 1) := by decide +kernel
theorem d_Ha_compress_18 : decode b_Ha_compress 18 = .ok (.iload_n 1, 1) := by decide +kernel
theorem d_Ha_compress_19 : decode b_Ha_compress 19 = .ok (.imul, 1) := by decide +kernel
theorem d_Ha_compress_20 : decode b_Ha_compress 20 = .ok (.baload, 1) := by decide +kernel
theorem d_Ha_compress_21 : decode b_Ha_compress 21 = .ok (.bipush 24, 2) := by decide +kernel
theorem d_Ha_compress_23 : decode b_Ha_compress 23 = .ok (.ishl, 1) := by decide +kernel
theorem d_Ha_compress_24 : decode b_Ha_compress 24 = .ok (.aload_n 0, 1) := by decide +kernel
theorem d_Ha_compress_25 : decode b_Ha_compress 25 = .ok (.getfield 13, 3) := by decide +kernel
theorem d_Ha_compress_28 : decode b_Ha_compress 28 = .ok (.iconst 4, 1) := by decide +kernel
theorem d_Ha_compress_29 : decode b_Ha_compress 29 = .ok (.iload_n 1, 1) := by decide +kernel
theorem d_Ha_compress_30 : decode b_Ha_compress 30 = .ok (.imul, 1) := by decide +kernel
theorem d_Ha_compress_31 : decode b_Ha_compress 31 = .ok (.iconst 1, 1) := by decide +kernel
theorem d_Ha_compress_32 : decode b_Ha_compress 32 = .ok (.iadd, 1) := by decide +kernel
theorem d_Ha_compress_33 : decode b_Ha_compress 33 = .ok (.baload, 1) := by decide +kernel
theorem d_Ha_compress_34 : decode b_Ha_compress 34 = .ok (.sipush 255, 3) := by decide +kernel
theorem d_Ha_compress_37 : decode b_Ha_compress 37 = .ok (.iand, 1) := by decide +kernel
theorem d_Ha_compress_38 : decode b_Ha_compress 38 = .ok (.bipush 16, 2) := by decide +kernel
theorem d_Ha_compress_40 : decode b_Ha_compress 40 = .ok (.ishl, 1) := by decide +kernel
theorem d_Ha_compress_41 : decode b_Ha_compress 41 = .ok (.ior, 1) := by decide +kernel
theorem d_Ha_compress_42 : decode b_Ha_compress 42 = .ok (.aload_n 0, 1) := by decide +kernel
theorem d_Ha_compress_43 : decode b_Ha_compress 43 = .ok (.getfield 13, 3) := by decide +kernel
theorem d_Ha_compress_46 : decode b_Ha_compress 46 = .ok (.iconst 4, 1) := by decide +kernel
theorem d_Ha_compress_47 : decode b_Ha_compress 47 = .ok (.iload_n 1, 1) := by decide +kernel
theorem d_Ha_compress_48 : decode b_Ha_compress 48 = .ok (.imul, 1) := by decide +kernel
theorem d_Ha_compress_49 : decode b_Ha_compress 49 = .ok (.iconst 2, 1) := by decide +kernel
theorem d_Ha_compress_50 : decode b_Ha_compress 50 = .ok (.iadd, 1) := by decide +kernel
theorem d_Ha_compress_51 : decode b_Ha_compress 51 = .ok (.baload, 1) := by decide +kernel
theorem d_Ha_compress_52 : decode b_Ha_compress 52 = .ok (.sipush 255, 3) := by decide +kernel
theorem d_Ha_compress_55 : decode b_Ha_compress 55 = .ok (.iand, 1) := by decide +kernel
theorem d_Ha_compress_56 : decode b_Ha_compress 56 = .ok (.bipush 8, 2) := by decide +kernel
theorem d_Ha_compress_58 : decode b_Ha_compress 58 = .ok (.ishl, 1) := by decide +kernel
theorem d_Ha_compress_59 : decode b_Ha_compress 59 = .ok (.ior, 1) := by decide +kernel
theorem d_Ha_compress_60 : decode b_Ha_compress 60 = .ok (.aload_n 0, 1) := by decide +kernel
theorem d_Ha_compress_61 : decode b_Ha_compress 61 = .ok (.getfield 13, 3) := by decide +kernel
theorem d_Ha_compress_64 : decode b_Ha_compress 64 = .ok (.iconst 4, 1) := by decide +kernel
theorem d_Ha_compress_65 : decode b_Ha_compress 65 = .ok (.iload_n 1, 1) := by decide +kernel
theorem d_Ha_compress_66 : decode b_Ha_compress 66 = .ok (.imul, 1) := by decide +kernel
theorem d_Ha_compress_67 : decode b_Ha_compress 67 = .ok (.iconst 3, 1) := by decide +kernel
theorem d_Ha_compress_68 : decode b_Ha_compress 68 = .ok (.iadd, 1) := by decide +kernel
theorem d_Ha_compress_69 : decode b_Ha_compress 69 = .ok (.baload, 1) := by decide +kernel
theorem d_Ha_compress_70 : decode b_Ha_compress 70 = .ok (.sipush 255, 3) := by decide +kernel
theorem d_Ha_compress_73 : decode b_Ha_compress 73 = .ok (.iand, 1) := by decide +kernel
theorem d_Ha_compress_74 : decode b_Ha_compress 74 = .ok (.ior, 1) := by decide +kernel
theorem d_Ha_compress_75 : decode b_Ha_compress 75 = .ok (.iastore, 1) := by decide +kernel
theorem d_Ha_compress_76 : decode b_Ha_compress 76 = .ok (.iinc 1 1, 3) := by decide +kernel
theorem d_Ha_compress_79 : decode b_Ha_compress 79 = .ok (.goto (-77), 3) := by decide +kernel
theorem d_Ha_compress_82 : decode b_Ha_compress 82 = .ok (.bipush 16, 2) := by decide +kernel
theorem d_Ha_compress_84 : decode b_Ha_compress 84 = .ok (.istore_n 1, 1) := by decide +kernel
theorem d_Ha_compress_85 : decode b_Ha_compress 85 = .ok (.iload_n 1, 1) := by decide +kernel
theorem d_Ha_compress_86 : decode b_Ha_compress 86 = .ok (.bipush 80, 2) := by decide +kernel
theorem d_Ha_compress_88 : decode b_Ha_compress 88 = .ok (.if_icmp .ge 62, 3) := by decide +kernel
theorem d_Ha_compress_91 : decode b_Ha_compress 91 = .ok (.aload_n 0, 1) := by decide +kernel
theorem d_Ha_compress_92 : decode b_Ha_compress 92 = .ok (.getfield 7, 3) := by decide +kernel
theorem d_Ha_compress_95 : decode b_Ha_compress 95 = .ok (.iload_n 1, 1) := by decide +kernel
theorem d_Ha_compress_96 : decode b_Ha_compress 96 = .ok (.iconst 3, 1) := by decide +kernel
theorem d_Ha_compress_97 : decode b_Ha_compress 97 = .ok (.isub, 1) := by decide +kernel
theorem d_Ha_compress_98 : decode b_Ha_compress 98 = .ok (.iaload, 1) := by decide +kernel
theorem d_Ha_compress_99 : decode b_Ha_compress 99 = .ok (.aload_n 0, 1) := by decide +kernel
theorem d_Ha_compress_100 : decode b_Ha_compress 100 = .ok (.getfield 7, 3) := by decide +kernel
theorem d_Ha_compress_103 : decode b_Ha_compress 103 = .ok (.iload_n 1, 1) := by decide +kernel
theorem d_Ha_compress_104 : decode b_Ha_compress 104 = .ok (.bipush 8, 2) := by decide +kernel
theorem d_Ha_compress_106 : decode b_Ha_compress 106 = .ok (.isub, 1) := by decide +kernel
theorem d_Ha_compress_107 : decode b_Ha_compress 107 = .ok (.iaload, 1) := by decide +kernel
theorem d_Ha_compress_108 : decode b_Ha_compress 108 = .ok (.ixor, 1) := by decide +kernel
theorem d_Ha_compress_109 : decode b_Ha_compress 109 = .ok (.aload_n 0, 1) := by decide +kernel
theorem d_Ha_compress_110 : decode b_Ha_compress 110 = .ok (.getfield 7, 3) := by decide +kernel
theorem d_Ha_compress_113 : decode b_Ha_compress 113 = .ok (.iload_n 1, 1) := by decide +kernel
theorem d_Ha_compress_114 : decode b_Ha_compress 114 = .ok (.bipush 14, 2) := by decide +kernel
theorem d_Ha_compress_116 : decode b_Ha_compress 116 = .ok (.isub, 1) := by decide +kernel
theorem d_Ha_compress_117 : decode b_Ha_compress 117 = .ok (.iaload, 1) := by decide +kernel
theorem d_Ha_compress_118 : decode b_Ha_compress 118 = .ok (.ixor, 1) := by decide +kernel
theorem d_Ha_compress_119 : decode b_Ha_compress 119 = .ok (.aload_n 0, 1) := by decide +kernel
theorem d_Ha_compress_120 : decode b_Ha_compress 120 = .ok (.getfield 7, 3) := by decide +kernel
theorem d_Ha_compress_123 : decode b_Ha_compress 123 = .ok (.iload_n 1, 1) := by decide +kernel
theorem d_Ha_compress_124 : decode b_Ha_compress 124 = .ok (.bipush 16, 2) := by decide +kernel
theorem d_Ha_compress_126 : decode b_Ha_compress 126 = .ok (.isub, 1) := by decide +kernel
theorem d_Ha_compress_127 : decode b_Ha_compress 127 = .ok (.iaload, 1) := by decide +kernel
theorem d_Ha_compress_128 : decode b_Ha_compress 128 = .ok (.ixor, 1) := by decide +kernel
theorem d_Ha_compress_129 : decode b_Ha_compress 129 = .ok (.istore_n 2, 1) := by decide +kernel
theorem d_Ha_compress_130 : decode b_Ha_compress 130 = .ok (.aload_n 0, 1) := by decide +kernel
theorem d_Ha_compress_131 : decode b_Ha_compress 131 = .ok (.getfield 7, 3) := by decide +kernel
theorem d_Ha_compress_134 : decode b_Ha_compress 134 = .ok (.iload_n 1, 1) := by decide +kernel
theorem d_Ha_compress_135 : decode b_Ha_compress 135 = .ok (.iload_n 2, 1) := by decide +kernel
theorem d_Ha_compress_136 : decode b_Ha_compress 136 = .ok (.iconst 1, 1) := by decide +kernel
theorem d_Ha_compress_137 : decode b_Ha_compress 137 = .ok (.ishl, 1) := by decide +kernel
theorem d_Ha_compress_138 : decode b_Ha_compress 138 = .ok (.iload_n 2, 1) := by decide +kernel
theorem d_Ha_compress_139 : decode b_Ha_compress 139 = .ok (.bipush 31, 2) := by decide +kernel
theorem d_Ha_compress_141 : decode b_Ha_compress 141 = .ok (.iushr, 1) := by decide +kernel
theorem d_Ha_compress_142 : decode b_Ha_compress 142 = .ok (.ior, 1) := by decide +kernel
theorem d_Ha_compress_143 : decode b_Ha_compress 143 = .ok (.iastore, 1) := by decide +kernel
theorem d_Ha_compress_144 : decode b_Ha_compress 144 = .ok (.iinc 1 1, 3) := by decide +kernel
theorem d_Ha_compress_147 : decode b_Ha_compress 147 = .ok (.goto (-62), 3) := by decide +kernel
theorem d_Ha_compress_150 : decode b_Ha_compress 150 = .ok (.aload_n 0, 1) := by decide +kernel
theorem d_Ha_compress_151 : decode b_Ha_compress 151 = .ok (.getfield 17, 3) := by decide +kernel
theorem lk_Ha_17 : Cond.fieldLink R_Ha 17 R_Ha (F_Ha 2).2.1 (F_Ha 2).2.2.1 ∈ lw_tg := in_t 72 (by decide +kernel)
theorem d_Ha_compress_154 : decode b_Ha_compress 154 = .ok (.iconst 0, 1) := by decide +kernel
theorem d_Ha_compress_155 : decode b_Ha_compress 155 = .ok (.iaload, 1) := by decide +kernel
theorem d_Ha_compress_156 : decode b_Ha_compress 156 = .ok (.istore_n 1, 1) := by decide +kernel
theorem d_Ha_compress_157 : decode b_Ha_compress 157 = .ok (.aload_n 0, 1) := by decide +kernel
theorem d_Ha_compress_158 : decode b_Ha_compress 158 = .ok (.getfield 17, 3) := by decide +kernel
theorem d_Ha_compress_161 : decode b_Ha_compress 161 = .ok (.iconst 1, 1) := by decide +kernel
theorem d_Ha_compress_162 : decode b_Ha_compress 162 = .ok (.iaload, 1) := by decide +kernel
theorem d_Ha_compress_163 : decode b_Ha_compress 163 = .ok (.istore_n 2, 1) := by decide +kernel
theorem d_Ha_compress_164 : decode b_Ha_compress 164 = .ok (.aload_n 0, 1) := by decide +kernel
theorem d_Ha_compress_165 : decode b_Ha_compress 165 = .ok (.getfield 17, 3) := by decide +kernel
theorem d_Ha_compress_168 : decode b_Ha_compress 168 = .ok (.iconst 2, 1) := by decide +kernel
theorem d_Ha_compress_169 : decode b_Ha_compress 169 = .ok (.iaload, 1) := by decide +kernel
theorem d_Ha_compress_170 : decode b_Ha_compress 170 = .ok (.istore_n 3, 1) := by decide +kernel
theorem d_Ha_compress_171 : decode b_Ha_compress 171 = .ok (.aload_n 0, 1) := by decide +kernel
theorem d_Ha_compress_172 : decode b_Ha_compress 172 = .ok (.getfield 17, 3) := by decide +kernel
theorem d_Ha_compress_175 : decode b_Ha_compress 175 = .ok (.iconst 3, 1) := by decide +kernel
theorem d_Ha_compress_176 : decode b_Ha_compress 176 = .ok (.iaload, 1) := by decide +kernel
theorem d_Ha_compress_177 : decode b_Ha_compress 177 = .ok (.istore 4, 2) := by decide +kernel
theorem d_Ha_compress_179 : decode b_Ha_compress 179 = .ok (.aload_n 0, 1) := by decide +kernel
theorem d_Ha_compress_180 : decode b_Ha_compress 180 = .ok (.getfield 17, 3) := by decide +kernel
theorem d_Ha_compress_183 : decode b_Ha_compress 183 = .ok (.iconst 4, 1) := by decide +kernel
theorem d_Ha_compress_184 : decode b_Ha_compress 184 = .ok (.iaload, 1) := by decide +kernel
theorem d_Ha_compress_185 : decode b_Ha_compress 185 = .ok (.istore 5, 2) := by decide +kernel
theorem d_Ha_compress_187 : decode b_Ha_compress 187 = .ok (.iconst 0, 1) := by decide +kernel
theorem d_Ha_compress_188 : decode b_Ha_compress 188 = .ok (.istore 6, 2) := by decide +kernel
theorem d_Ha_compress_190 : decode b_Ha_compress 190 = .ok (.iload 6, 2) := by decide +kernel
theorem d_Ha_compress_192 : decode b_Ha_compress 192 = .ok (.bipush 80, 2) := by decide +kernel
theorem d_Ha_compress_194 : decode b_Ha_compress 194 = .ok (.if_icmp .ge 139, 3) := by decide +kernel
theorem d_Ha_compress_197 : decode b_Ha_compress 197 = .ok (.iload 6, 2) := by decide +kernel
theorem d_Ha_compress_199 : decode b_Ha_compress 199 = .ok (.bipush 20, 2) := by decide +kernel
theorem d_Ha_compress_201 : decode b_Ha_compress 201 = .ok (.if_icmp .ge 21, 3) := by decide +kernel
theorem d_Ha_compress_204 : decode b_Ha_compress 204 = .ok (.iload_n 2, 1) := by decide +kernel
theorem d_Ha_compress_205 : decode b_Ha_compress 205 = .ok (.iload_n 3, 1) := by decide +kernel
theorem d_Ha_compress_206 : decode b_Ha_compress 206 = .ok (.iand, 1) := by decide +kernel
theorem d_Ha_compress_207 : decode b_Ha_compress 207 = .ok (.iload_n 2, 1) := by decide +kernel
theorem d_Ha_compress_208 : decode b_Ha_compress 208 = .ok (.iconst (-1), 1) := by decide +kernel
theorem d_Ha_compress_209 : decode b_Ha_compress 209 = .ok (.ixor, 1) := by decide +kernel
theorem d_Ha_compress_210 : decode b_Ha_compress 210 = .ok (.iload 4, 2) := by decide +kernel
theorem d_Ha_compress_212 : decode b_Ha_compress 212 = .ok (.iand, 1) := by decide +kernel
theorem d_Ha_compress_213 : decode b_Ha_compress 213 = .ok (.ior, 1) := by decide +kernel
theorem d_Ha_compress_214 : decode b_Ha_compress 214 = .ok (.ldc 57, 2) := by decide +kernel
theorem cn_Ha_57 : Cond.constant R_Ha 57 (1518500249) ∈ lw_tg := in_t 601 (by decide +kernel)
theorem d_Ha_compress_216 : decode b_Ha_compress 216 = .ok (.iadd, 1) := by decide +kernel
theorem d_Ha_compress_217 : decode b_Ha_compress 217 = .ok (.istore 7, 2) := by decide +kernel
theorem d_Ha_compress_219 : decode b_Ha_compress 219 = .ok (.goto 63, 3) := by decide +kernel
theorem d_Ha_compress_222 : decode b_Ha_compress 222 = .ok (.iload 6, 2) := by decide +kernel
theorem d_Ha_compress_224 : decode b_Ha_compress 224 = .ok (.bipush 40, 2) := by decide +kernel
theorem d_Ha_compress_226 : decode b_Ha_compress 226 = .ok (.if_icmp .ge 17, 3) := by decide +kernel
theorem d_Ha_compress_229 : decode b_Ha_compress 229 = .ok (.iload_n 2, 1) := by decide +kernel
theorem d_Ha_compress_230 : decode b_Ha_compress 230 = .ok (.iload_n 3, 1) := by decide +kernel
theorem d_Ha_compress_231 : decode b_Ha_compress 231 = .ok (.ixor, 1) := by decide +kernel
theorem d_Ha_compress_232 : decode b_Ha_compress 232 = .ok (.iload 4, 2) := by decide +kernel
theorem d_Ha_compress_234 : decode b_Ha_compress 234 = .ok (.ixor, 1) := by decide +kernel
theorem d_Ha_compress_235 : decode b_Ha_compress 235 = .ok (.ldc 58, 2) := by decide +kernel
theorem cn_Ha_58 : Cond.constant R_Ha 58 (1859775393) ∈ lw_tg := in_t 602 (by decide +kernel)
theorem d_Ha_compress_237 : decode b_Ha_compress 237 = .ok (.iadd, 1) := by decide +kernel
theorem d_Ha_compress_238 : decode b_Ha_compress 238 = .ok (.istore 7, 2) := by decide +kernel
theorem d_Ha_compress_240 : decode b_Ha_compress 240 = .ok (.goto 42, 3) := by decide +kernel
theorem d_Ha_compress_243 : decode b_Ha_compress 243 = .ok (.iload 6, 2) := by decide +kernel
theorem d_Ha_compress_245 : decode b_Ha_compress 245 = .ok (.bipush 60, 2) := by decide +kernel
theorem d_Ha_compress_247 : decode b_Ha_compress 247 = .ok (.if_icmp .ge 24, 3) := by decide +kernel
theorem d_Ha_compress_250 : decode b_Ha_compress 250 = .ok (.iload_n 2, 1) := by decide +kernel
theorem d_Ha_compress_251 : decode b_Ha_compress 251 = .ok (.iload_n 3, 1) := by decide +kernel
theorem d_Ha_compress_252 : decode b_Ha_compress 252 = .ok (.iand, 1) := by decide +kernel
theorem d_Ha_compress_253 : decode b_Ha_compress 253 = .ok (.iload_n 2, 1) := by decide +kernel
theorem d_Ha_compress_254 : decode b_Ha_compress 254 = .ok (.iload 4, 2) := by decide +kernel
theorem d_Ha_compress_256 : decode b_Ha_compress 256 = .ok (.iand, 1) := by decide +kernel
theorem d_Ha_compress_257 : decode b_Ha_compress 257 = .ok (.ior, 1) := by decide +kernel
theorem d_Ha_compress_258 : decode b_Ha_compress 258 = .ok (.iload_n 3, 1) := by decide +kernel
theorem d_Ha_compress_259 : decode b_Ha_compress 259 = .ok (.iload 4, 2) := by decide +kernel
theorem d_Ha_compress_261 : decode b_Ha_compress 261 = .ok (.iand, 1) := by decide +kernel
theorem d_Ha_compress_262 : decode b_Ha_compress 262 = .ok (.ior, 1) := by decide +kernel
theorem d_Ha_compress_263 : decode b_Ha_compress 263 = .ok (.ldc 59, 2) := by decide +kernel
theorem cn_Ha_59 : Cond.constant R_Ha 59 (-1894007588) ∈ lw_tg := in_t 603 (by decide +kernel)
theorem d_Ha_compress_265 : decode b_Ha_compress 265 = .ok (.iadd, 1) := by decide +kernel
theorem d_Ha_compress_266 : decode b_Ha_compress 266 = .ok (.istore 7, 2) := by decide +kernel
theorem d_Ha_compress_268 : decode b_Ha_compress 268 = .ok (.goto 14, 3) := by decide +kernel
theorem d_Ha_compress_271 : decode b_Ha_compress 271 = .ok (.iload_n 2, 1) := by decide +kernel
theorem d_Ha_compress_272 : decode b_Ha_compress 272 = .ok (.iload_n 3, 1) := by decide +kernel
theorem d_Ha_compress_273 : decode b_Ha_compress 273 = .ok (.ixor, 1) := by decide +kernel
theorem d_Ha_compress_274 : decode b_Ha_compress 274 = .ok (.iload 4, 2) := by decide +kernel
theorem d_Ha_compress_276 : decode b_Ha_compress 276 = .ok (.ixor, 1) := by decide +kernel
theorem d_Ha_compress_277 : decode b_Ha_compress 277 = .ok (.ldc 60, 2) := by decide +kernel
theorem cn_Ha_60 : Cond.constant R_Ha 60 (-899497514) ∈ lw_tg := in_t 604 (by decide +kernel)
theorem d_Ha_compress_279 : decode b_Ha_compress 279 = .ok (.iadd, 1) := by decide +kernel
theorem d_Ha_compress_280 : decode b_Ha_compress 280 = .ok (.istore 7, 2) := by decide +kernel
theorem d_Ha_compress_282 : decode b_Ha_compress 282 = .ok (.iload_n 1, 1) := by decide +kernel
theorem d_Ha_compress_283 : decode b_Ha_compress 283 = .ok (.iconst 5, 1) := by decide +kernel
theorem d_Ha_compress_284 : decode b_Ha_compress 284 = .ok (.ishl, 1) := by decide +kernel
theorem d_Ha_compress_285 : decode b_Ha_compress 285 = .ok (.iload_n 1, 1) := by decide +kernel
theorem d_Ha_compress_286 : decode b_Ha_compress 286 = .ok (.bipush 27, 2) := by decide +kernel
theorem d_Ha_compress_288 : decode b_Ha_compress 288 = .ok (.iushr, 1) := by decide +kernel
theorem d_Ha_compress_289 : decode b_Ha_compress 289 = .ok (.ior, 1) := by decide +kernel
theorem d_Ha_compress_290 : decode b_Ha_compress 290 = .ok (.iload 7, 2) := by decide +kernel
theorem d_Ha_compress_292 : decode b_Ha_compress 292 = .ok (.iadd, 1) := by decide +kernel
theorem d_Ha_compress_293 : decode b_Ha_compress 293 = .ok (.iload 5, 2) := by decide +kernel
theorem d_Ha_compress_295 : decode b_Ha_compress 295 = .ok (.iadd, 1) := by decide +kernel
theorem d_Ha_compress_296 : decode b_Ha_compress 296 = .ok (.aload_n 0, 1) := by decide +kernel
theorem d_Ha_compress_297 : decode b_Ha_compress 297 = .ok (.getfield 7, 3) := by decide +kernel
theorem d_Ha_compress_300 : decode b_Ha_compress 300 = .ok (.iload 6, 2) := by decide +kernel
theorem d_Ha_compress_302 : decode b_Ha_compress 302 = .ok (.iaload, 1) := by decide +kernel
theorem d_Ha_compress_303 : decode b_Ha_compress 303 = .ok (.iadd, 1) := by decide +kernel
theorem d_Ha_compress_304 : decode b_Ha_compress 304 = .ok (.istore 8, 2) := by decide +kernel
theorem d_Ha_compress_306 : decode b_Ha_compress 306 = .ok (.iload 4, 2) := by decide +kernel
theorem d_Ha_compress_308 : decode b_Ha_compress 308 = .ok (.istore 5, 2) := by decide +kernel
theorem d_Ha_compress_310 : decode b_Ha_compress 310 = .ok (.iload_n 3, 1) := by decide +kernel
theorem d_Ha_compress_311 : decode b_Ha_compress 311 = .ok (.istore 4, 2) := by decide +kernel
theorem d_Ha_compress_313 : decode b_Ha_compress 313 = .ok (.iload_n 2, 1) := by decide +kernel
theorem d_Ha_compress_314 : decode b_Ha_compress 314 = .ok (.bipush 30, 2) := by decide +kernel
theorem d_Ha_compress_316 : decode b_Ha_compress 316 = .ok (.ishl, 1) := by decide +kernel
theorem d_Ha_compress_317 : decode b_Ha_compress 317 = .ok (.iload_n 2, 1) := by decide +kernel
theorem d_Ha_compress_318 : decode b_Ha_compress 318 = .ok (.iconst 2, 1) := by decide +kernel
theorem d_Ha_compress_319 : decode b_Ha_compress 319 = .ok (.iushr, 1) := by decide +kernel
theorem d_Ha_compress_320 : decode b_Ha_compress 320 = .ok (.ior, 1) := by decide +kernel
theorem d_Ha_compress_321 : decode b_Ha_compress 321 = .ok (.istore_n 3, 1) := by decide +kernel
theorem d_Ha_compress_322 : decode b_Ha_compress 322 = .ok (.iload_n 1, 1) := by decide +kernel
theorem d_Ha_compress_323 : decode b_Ha_compress 323 = .ok (.istore_n 2, 1) := by decide +kernel
theorem d_Ha_compress_324 : decode b_Ha_compress 324 = .ok (.iload 8, 2) := by decide +kernel
theorem d_Ha_compress_326 : decode b_Ha_compress 326 = .ok (.istore_n 1, 1) := by decide +kernel
theorem d_Ha_compress_327 : decode b_Ha_compress 327 = .ok (.iinc 6 1, 3) := by decide +kernel
theorem d_Ha_compress_330 : decode b_Ha_compress 330 = .ok (.goto (-140), 3) := by decide +kernel
theorem d_Ha_compress_333 : decode b_Ha_compress 333 = .ok (.aload_n 0, 1) := by decide +kernel
theorem d_Ha_compress_334 : decode b_Ha_compress 334 = .ok (.getfield 17, 3) := by decide +kernel
theorem d_Ha_compress_337 : decode b_Ha_compress 337 = .ok (.iconst 0, 1) := by decide +kernel
theorem d_Ha_compress_338 : decode b_Ha_compress 338 = .ok (.dup2, 1) := by decide +kernel
theorem d_Ha_compress_339 : decode b_Ha_compress 339 = .ok (.iaload, 1) := by decide +kernel
theorem d_Ha_compress_340 : decode b_Ha_compress 340 = .ok (.iload_n 1, 1) := by decide +kernel
theorem d_Ha_compress_341 : decode b_Ha_compress 341 = .ok (.iadd, 1) := by decide +kernel
theorem d_Ha_compress_342 : decode b_Ha_compress 342 = .ok (.iastore, 1) := by decide +kernel
theorem d_Ha_compress_343 : decode b_Ha_compress 343 = .ok (.aload_n 0, 1) := by decide +kernel
theorem d_Ha_compress_344 : decode b_Ha_compress 344 = .ok (.getfield 17, 3) := by decide +kernel
theorem d_Ha_compress_347 : decode b_Ha_compress 347 = .ok (.iconst 1, 1) := by decide +kernel
theorem d_Ha_compress_348 : decode b_Ha_compress 348 = .ok (.dup2, 1) := by decide +kernel
theorem d_Ha_compress_349 : decode b_Ha_compress 349 = .ok (.iaload, 1) := by decide +kernel
theorem d_Ha_compress_350 : decode b_Ha_compress 350 = .ok (.iload_n 2, 1) := by decide +kernel
theorem d_Ha_compress_351 : decode b_Ha_compress 351 = .ok (.iadd, 1) := by decide +kernel
theorem d_Ha_compress_352 : decode b_Ha_compress 352 = .ok (.iastore, 1) := by decide +kernel
theorem d_Ha_compress_353 : decode b_Ha_compress 353 = .ok (.aload_n 0, 1) := by decide +kernel
theorem d_Ha_compress_354 : decode b_Ha_compress 354 = .ok (.getfield 17, 3) := by decide +kernel
theorem d_Ha_compress_357 : decode b_Ha_compress 357 = .ok (.iconst 2, 1) := by decide +kernel
theorem d_Ha_compress_358 : decode b_Ha_compress 358 = .ok (.dup2, 1) := by decide +kernel
theorem d_Ha_compress_359 : decode b_Ha_compress 359 = .ok (.iaload, 1) := by decide +kernel
theorem d_Ha_compress_360 : decode b_Ha_compress 360 = .ok (.iload_n 3, 1) := by decide +kernel
theorem d_Ha_compress_361 : decode b_Ha_compress 361 = .ok (.iadd, 1) := by decide +kernel
theorem d_Ha_compress_362 : decode b_Ha_compress 362 = .ok (.iastore, 1) := by decide +kernel
theorem d_Ha_compress_363 : decode b_Ha_compress 363 = .ok (.aload_n 0, 1) := by decide +kernel
theorem d_Ha_compress_364 : decode b_Ha_compress 364 = .ok (.getfield 17, 3) := by decide +kernel
theorem d_Ha_compress_367 : decode b_Ha_compress 367 = .ok (.iconst 3, 1) := by decide +kernel
theorem d_Ha_compress_368 : decode b_Ha_compress 368 = .ok (.dup2, 1) := by decide +kernel
theorem d_Ha_compress_369 : decode b_Ha_compress 369 = .ok (.iaload, 1) := by decide +kernel
theorem d_Ha_compress_370 : decode b_Ha_compress 370 = .ok (.iload 4, 2) := by decide +kernel
theorem d_Ha_compress_372 : decode b_Ha_compress 372 = .ok (.iadd, 1) := by decide +kernel
theorem d_Ha_compress_373 : decode b_Ha_compress 373 = .ok (.iastore, 1) := by decide +kernel
theorem d_Ha_compress_374 : decode b_Ha_compress 374 = .ok (.aload_n 0, 1) := by decide +kernel
theorem d_Ha_compress_375 : decode b_Ha_compress 375 = .ok (.getfield 17, 3) := by decide +kernel
theorem d_Ha_compress_378 : decode b_Ha_compress 378 = .ok (.iconst 4, 1) := by decide +kernel
theorem d_Ha_compress_379 : decode b_Ha_compress 379 = .ok (.dup2, 1) := by decide +kernel
theorem d_Ha_compress_380 : decode b_Ha_compress 380 = .ok (.iaload, 1) := by decide +kernel
theorem d_Ha_compress_381 : decode b_Ha_compress 381 = .ok (.iload 5, 2) := by decide +kernel
theorem d_Ha_compress_383 : decode b_Ha_compress 383 = .ok (.iadd, 1) := by decide +kernel
theorem d_Ha_compress_384 : decode b_Ha_compress 384 = .ok (.iastore, 1) := by decide +kernel
theorem d_Ha_compress_385 : decode b_Ha_compress 385 = .ok (.return_, 1) := by decide +kernel
set_option maxHeartbeats 4000000 in
set_option maxRecDepth 100000 in
theorem c_Ha_compress (l : Launch) (D : va_G) (E : cE) (L : List Nat) (f : pF) (sz : Nat) (o wd bl sta inn out mac fl : Nat) (tot : Int32) (g_wd g_bl g_sta g_inn g_out g_mac : Nat → Int32) (m_o : o ∈ L) (m_wd : wd ∈ L) (m_bl : bl ∈ L) (m_sta : sta ∈ L) (m_inn : inn ∈ L) (m_out : out ∈ L) (m_mac : mac ∈ L) (e_o : f o = .inr (6, [.ref wd, .ref bl, .ref sta, .ref inn, .ref out, .int (nI fl), .int tot, .ref mac])) (e_wd : f wd = .inl (E.2.1, 80, .inl g_wd)) (e_bl : f bl = .inl (E.1, 64, .inl g_bl)) (e_sta : f sta = .inl (E.2.1, 5, .inl g_sta)) (e_inn : f inn = .inl (E.2.1, 5, .inl g_inn)) (e_out : f out = .inl (E.2.1, 5, .inl g_out)) (e_mac : f mac = .inl (E.1, 20, .inl g_mac)) (f_bl : fB g_bl) (f_mac : fB g_mac) (ap_wd_bl : wd ≠ bl) (ap_wd_sta : wd ≠ sta) (ap_wd_inn : wd ≠ inn) (ap_wd_out : wd ≠ out) (ap_wd_mac : wd ≠ mac) (ap_bl_sta : bl ≠ sta) (ap_bl_inn : bl ≠ inn) (ap_bl_out : bl ≠ out) (ap_bl_mac : bl ≠ mac) (ap_sta_inn : sta ≠ inn) (ap_sta_out : sta ≠ out) (ap_sta_mac : sta ≠ mac) (ap_inn_out : inn ≠ out) (ap_inn_mac : inn ≠ mac) (ap_out_mac : out ≠ mac) : Met l y_Ha_compress (k_Ha_compress :: lw_tg) (mR 0 0) (va_Pc [.ref o] (cPre D E L f sz)) (va_Qv (fun (u : cU) => u.1 = L ∧ (∀ x, x ≠ wd → x ≠ sta → u.2 x = f x) ∧ ∃ (g2_wd g2_sta : Nat → Int32), u.2 wd = .inl (E.2.1, 80, .inl g2_wd) ∧ u.2 sta = .inl (E.2.1, 5, .inl g2_sta)) (cPost D E (pA L sz)) (pA L sz)) 0 0 (pA L sz) := by
  refine c_enter (own := R_Ha) (by decide) rfl (Nat.le_of_ble_eq_true rfl) ⟨rfl, rfl⟩ (fun p e s m below meth c ls AV QQ H locs hQQ X Y hA hin hr hlk hml hl => ?_)
  have hl : lv_has ls 9 [(0, .ref o)] := hl
  refine lv_iconst (v := (nI 0)) X.1 X.2.1 d_Ha_compress_0 (by decide) ?_
  refine lv_istore_n (lv' := [(1, .int (nI 0)), (0, .ref o)]) X.1 X.2.1 d_Ha_compress_1 rfl hl (by decide) rfl (fun ls hl => ?_)
  have lp1 : ∀ (n2 i : Nat) (g8 : Nat → Int32) (g11 : Nat → Int32) (f4 : pF) (H : Heap) (locs : List Loc) (ls : Array Slot), 16 - i ≤ n2 → (0 ≤ i) → (i ≤ 16) → f4 o = .inr (6, [.ref wd, .ref bl, .ref sta, .ref inn, .ref out, .int (nI fl), .int tot, .ref mac]) → f4 wd = .inl (E.2.1, 80, .inl g8) → f4 bl = .inl (E.1, 64, .inl g_bl) → f4 sta = .inl (E.2.1, 5, .inl g11) → f4 inn = .inl (E.2.1, 5, .inl g_inn) → f4 out = .inl (E.2.1, 5, .inl g_out) → f4 mac = .inl (E.1, 20, .inl g_mac) → (∀ x, x ≠ wd → x ≠ sta → f4 x = f x) → pH D cCl (pA L sz) s.heap L f4 H locs → lv_has ls 9 [(1, .int (nI i)), (0, .ref o)] → W p l e (mR 0 0) s m AV below meth c H locs 0 0 QQ (F0 m 2 ls []) := by
    intro n2
    induction n2 with
    | zero =>
      intro i g8 g11 f4 H locs ls hm17 hc15 hc16  e6 e7 e9 e10 e12 e13 e14 hF5 Y hl
      refine lv_iload_n X.1 X.2.1 d_Ha_compress_2 rfl (lv_at hl 0 rfl) ?_
      refine lv_bipush (v := (nI 16)) X.1 X.2.1 d_Ha_compress_3 (by decide) ?_
      refine lv_icmp_ge (tgt := 82) X.1 X.2.1 d_Ha_compress_5 (by decide) (fun c18 => ?_) (fun c18 => ?_)
      · skip
        rw [nI_leI (by omega) (by omega)] at c18
        refine lv_bipush (v := (nI 16)) X.1 X.2.1 d_Ha_compress_82 (by decide) ?_
        refine lv_istore_n (lv' := [(1, .int (nI 16)), (0, .ref o)]) X.1 X.2.1 d_Ha_compress_84 rfl hl (by decide) rfl (fun ls hl => ?_)
        have lp19 : ∀ (n20 i : Nat) (g26 : Nat → Int32) (g29 : Nat → Int32) (f22 : pF) (H : Heap) (locs : List Loc) (ls : Array Slot), 80 - i ≤ n20 → (16 ≤ i) → (i ≤ 80) → f22 o = .inr (6, [.ref wd, .ref bl, .ref sta, .ref inn, .ref out, .int (nI fl), .int tot, .ref mac]) → f22 wd = .inl (E.2.1, 80, .inl g26) → f22 bl = .inl (E.1, 64, .inl g_bl) → f22 sta = .inl (E.2.1, 5, .inl g29) → f22 inn = .inl (E.2.1, 5, .inl g_inn) → f22 out = .inl (E.2.1, 5, .inl g_out) → f22 mac = .inl (E.1, 20, .inl g_mac) → (∀ x, x ≠ wd → x ≠ sta → f22 x = f x) → pH D cCl (pA L sz) s.heap L f22 H locs → lv_has ls 9 [(1, .int (nI i)), (0, .ref o)] → W p l e (mR 0 0) s m AV below meth c H locs 0 0 QQ (F0 m 85 ls []) := by
          intro n20
          induction n20 with
          | zero =>
            intro i g26 g29 f22 H locs ls hm35 hc33 hc34  e24 e25 e27 e28 e30 e31 e32 hF23 Y hl
            refine lv_iload_n X.1 X.2.1 d_Ha_compress_85 rfl (lv_at hl 0 rfl) ?_
            refine lv_bipush (v := (nI 80)) X.1 X.2.1 d_Ha_compress_86 (by decide) ?_
            refine lv_icmp_ge (tgt := 150) X.1 X.2.1 d_Ha_compress_88 (by decide) (fun c36 => ?_) (fun c36 => ?_)
            · skip
              rw [nI_leI (by omega) (by omega)] at c36
              refine lv_aload_n X.1 X.2.1 d_Ha_compress_150 rfl (lv_at hl 1 rfl) ?_
              refine q_get X.1 X.2.1 X.2.2.1 i_Ha X.2.2.2.1 X.2.2.2.2 Y m_o e24 rfl 2 (by decide) (X.2.2.1 _ lk_Ha_17) (fun _ h9 => h9) rfl d_Ha_compress_151 ?_
              refine lv_iconst (v := (nI 0)) X.1 X.2.1 d_Ha_compress_154 (by decide) ?_
              refine q_iald X.1 X.2.1 X.2.2.2.2 Y 1 m_sta e28 rfl (vp_in_nI (by omega) (by omega)) d_Ha_compress_155 ?_
              refine t_any (fun v37 => ?_)
              refine lv_istore_n (lv' := [(1, .int v37), (0, .ref o)]) X.1 X.2.1 d_Ha_compress_156 rfl hl (by decide) rfl (fun ls hl => ?_)
              refine lv_aload_n X.1 X.2.1 d_Ha_compress_157 rfl (lv_at hl 1 rfl) ?_
              refine q_get X.1 X.2.1 X.2.2.1 i_Ha X.2.2.2.1 X.2.2.2.2 Y m_o e24 rfl 2 (by decide) (X.2.2.1 _ lk_Ha_17) (fun _ h9 => h9) rfl d_Ha_compress_158 ?_
              refine lv_iconst (v := (nI 1)) X.1 X.2.1 d_Ha_compress_161 (by decide) ?_
              refine q_iald X.1 X.2.1 X.2.2.2.2 Y 1 m_sta e28 rfl (vp_in_nI (by omega) (by omega)) d_Ha_compress_162 ?_
              refine t_any (fun v38 => ?_)
              refine lv_istore_n (lv' := [(2, .int v38), (1, .int v37), (0, .ref o)]) X.1 X.2.1 d_Ha_compress_163 rfl hl (by decide) rfl (fun ls hl => ?_)
              refine lv_aload_n X.1 X.2.1 d_Ha_compress_164 rfl (lv_at hl 2 rfl) ?_
              refine q_get X.1 X.2.1 X.2.2.1 i_Ha X.2.2.2.1 X.2.2.2.2 Y m_o e24 rfl 2 (by decide) (X.2.2.1 _ lk_Ha_17) (fun _ h9 => h9) rfl d_Ha_compress_165 ?_
              refine lv_iconst (v := (nI 2)) X.1 X.2.1 d_Ha_compress_168 (by decide) ?_
              refine q_iald X.1 X.2.1 X.2.2.2.2 Y 1 m_sta e28 rfl (vp_in_nI (by omega) (by omega)) d_Ha_compress_169 ?_
              refine t_any (fun v39 => ?_)
              refine lv_istore_n (lv' := [(3, .int v39), (2, .int v38), (1, .int v37), (0, .ref o)]) X.1 X.2.1 d_Ha_compress_170 rfl hl (by decide) rfl (fun ls hl => ?_)
              refine lv_aload_n X.1 X.2.1 d_Ha_compress_171 rfl (lv_at hl 3 rfl) ?_
              refine q_get X.1 X.2.1 X.2.2.1 i_Ha X.2.2.2.1 X.2.2.2.2 Y m_o e24 rfl 2 (by decide) (X.2.2.1 _ lk_Ha_17) (fun _ h9 => h9) rfl d_Ha_compress_172 ?_
              refine lv_iconst (v := (nI 3)) X.1 X.2.1 d_Ha_compress_175 (by decide) ?_
              refine q_iald X.1 X.2.1 X.2.2.2.2 Y 1 m_sta e28 rfl (vp_in_nI (by omega) (by omega)) d_Ha_compress_176 ?_
              refine t_any (fun v40 => ?_)
              refine lv_istore (lv' := [(4, .int v40), (3, .int v39), (2, .int v38), (1, .int v37), (0, .ref o)]) X.1 X.2.1 d_Ha_compress_177 hl (by decide) rfl (fun ls hl => ?_)
              refine lv_aload_n X.1 X.2.1 d_Ha_compress_179 rfl (lv_at hl 4 rfl) ?_
              refine q_get X.1 X.2.1 X.2.2.1 i_Ha X.2.2.2.1 X.2.2.2.2 Y m_o e24 rfl 2 (by decide) (X.2.2.1 _ lk_Ha_17) (fun _ h9 => h9) rfl d_Ha_compress_180 ?_
              refine lv_iconst (v := (nI 4)) X.1 X.2.1 d_Ha_compress_183 (by decide) ?_
              refine q_iald X.1 X.2.1 X.2.2.2.2 Y 1 m_sta e28 rfl (vp_in_nI (by omega) (by omega)) d_Ha_compress_184 ?_
              refine t_any (fun v41 => ?_)
              refine lv_istore (lv' := [(5, .int v41), (4, .int v40), (3, .int v39), (2, .int v38), (1, .int v37), (0, .ref o)]) X.1 X.2.1 d_Ha_compress_185 hl (by decide) rfl (fun ls hl => ?_)
              refine lv_iconst (v := (nI 0)) X.1 X.2.1 d_Ha_compress_187 (by decide) ?_
              refine lv_istore (lv' := [(6, .int (nI 0)), (5, .int v41), (4, .int v40), (3, .int v39), (2, .int v38), (1, .int v37), (0, .ref o)]) X.1 X.2.1 d_Ha_compress_188 hl (by decide) rfl (fun ls hl => ?_)
              have lp42 : ∀ (n43 i : Nat) (x56 : Int32) (x57 : Int32) (x58 : Int32) (x59 : Int32) (x60 : Int32) (g49 : Nat → Int32) (g52 : Nat → Int32) (f45 : pF) (H : Heap) (locs : List Loc) (ls : Array Slot), 80 - i ≤ n43 → (0 ≤ i) → (i ≤ 80) → f45 o = .inr (6, [.ref wd, .ref bl, .ref sta, .ref inn, .ref out, .int (nI fl), .int tot, .ref mac]) → f45 wd = .inl (E.2.1, 80, .inl g49) → f45 bl = .inl (E.1, 64, .inl g_bl) → f45 sta = .inl (E.2.1, 5, .inl g52) → f45 inn = .inl (E.2.1, 5, .inl g_inn) → f45 out = .inl (E.2.1, 5, .inl g_out) → f45 mac = .inl (E.1, 20, .inl g_mac) → (∀ x, x ≠ wd → x ≠ sta → f45 x = f x) → pH D cCl (pA L sz) s.heap L f45 H locs → lv_has ls 9 [(6, .int (nI i)), (5, .int x60), (4, .int x59), (3, .int x58), (2, .int x57), (1, .int x56), (0, .ref o)] → W p l e (mR 0 0) s m AV below meth c H locs 0 0 QQ (F0 m 190 ls []) := by
                intro n43
                induction n43 with
                | zero =>
                  intro i x56 x57 x58 x59 x60 g49 g52 f45 H locs ls hm63 hc61 hc62  e47 e48 e50 e51 e53 e54 e55 hF46 Y hl
                  refine lv_iload X.1 X.2.1 d_Ha_compress_190 (lv_at hl 0 rfl) ?_
                  refine lv_bipush (v := (nI 80)) X.1 X.2.1 d_Ha_compress_192 (by decide) ?_
                  refine lv_icmp_ge (tgt := 333) X.1 X.2.1 d_Ha_compress_194 (by decide) (fun c64 => ?_) (fun c64 => ?_)
                  · skip
                    rw [nI_leI (by omega) (by omega)] at c64
                    refine lv_aload_n X.1 X.2.1 d_Ha_compress_333 rfl (lv_at hl 6 rfl) ?_
                    refine q_get X.1 X.2.1 X.2.2.1 i_Ha X.2.2.2.1 X.2.2.2.2 Y m_o e47 rfl 2 (by decide) (X.2.2.1 _ lk_Ha_17) (fun _ h9 => h9) rfl d_Ha_compress_334 ?_
                    refine lv_iconst (v := (nI 0)) X.1 X.2.1 d_Ha_compress_337 (by decide) ?_
                    refine lv_dup2_11 X.1 X.2.1 d_Ha_compress_338 rfl rfl ?_
                    refine q_iald X.1 X.2.1 X.2.2.2.2 Y 1 m_sta e51 rfl (vp_in_nI (by omega) (by omega)) d_Ha_compress_339 ?_
                    refine t_any (fun v65 => ?_)
                    refine lv_iload_n X.1 X.2.1 d_Ha_compress_340 rfl (lv_at hl 5 rfl) ?_
                    refine lv_iadd X.1 X.2.1 d_Ha_compress_341 ?_
                    refine t_any (fun v66 => ?_)
                    refine q_iast X.1 X.2.1 X.2.2.2.2 Y 1 m_sta e51 rfl (vp_in_nI (by omega) (by omega)) d_Ha_compress_342 (fun H locs Y => ?_)
                    generalize (upd g52 ((nI 0)).toNatClampNeg v66) = g67 at Y
                    have e70 : (va_up f45 sta (.inl (E.2.1, 5, .inl g67))) sta = .inl (E.2.1, 5, .inl g67) := q_up
                    have e71 : (va_up f45 sta (.inl (E.2.1, 5, .inl g67))) o = .inr (6, [.ref wd, .ref bl, .ref sta, .ref inn, .ref out, .int (nI fl), .int tot, .ref mac]) := (q_ne (q_tag e47 e51 (show (6 : Nat) ≠ 1000 by decide))).trans e47
                    have e72 : (va_up f45 sta (.inl (E.2.1, 5, .inl g67))) wd = .inl (E.2.1, 80, .inl g49) := (q_ne ap_wd_sta).trans e48
                    have e73 : (va_up f45 sta (.inl (E.2.1, 5, .inl g67))) bl = .inl (E.1, 64, .inl g_bl) := (q_ne ap_bl_sta).trans e50
                    have e74 : (va_up f45 sta (.inl (E.2.1, 5, .inl g67))) inn = .inl (E.2.1, 5, .inl g_inn) := (q_ne ap_sta_inn.symm).trans e53
                    have e75 : (va_up f45 sta (.inl (E.2.1, 5, .inl g67))) out = .inl (E.2.1, 5, .inl g_out) := (q_ne ap_sta_out.symm).trans e54
                    have e76 : (va_up f45 sta (.inl (E.2.1, 5, .inl g67))) mac = .inl (E.1, 20, .inl g_mac) := (q_ne ap_sta_mac.symm).trans e55
                    have hF77 : ∀ x, x ≠ wd → x ≠ sta → (va_up f45 sta (.inl (E.2.1, 5, .inl g67))) x = f x := fun x h0 h1 => (q_ne h1).trans (hF46 x h0 h1)
                    have Y : pH D cCl (pA L sz) s.heap L (va_up f45 sta (.inl (E.2.1, 5, .inl g67))) H locs := Y
                    generalize (va_up f45 sta (.inl (E.2.1, 5, .inl g67))) = f69 at Y e70 e71 e72 e73 e74 e75 e76 hF77
                    refine lv_aload_n X.1 X.2.1 d_Ha_compress_343 rfl (lv_at hl 6 rfl) ?_
                    refine q_get X.1 X.2.1 X.2.2.1 i_Ha X.2.2.2.1 X.2.2.2.2 Y m_o e71 rfl 2 (by decide) (X.2.2.1 _ lk_Ha_17) (fun _ h9 => h9) rfl d_Ha_compress_344 ?_
                    refine lv_iconst (v := (nI 1)) X.1 X.2.1 d_Ha_compress_347 (by decide) ?_
                    refine lv_dup2_11 X.1 X.2.1 d_Ha_compress_348 rfl rfl ?_
                    refine q_iald X.1 X.2.1 X.2.2.2.2 Y 1 m_sta e70 rfl (vp_in_nI (by omega) (by omega)) d_Ha_compress_349 ?_
                    refine t_any (fun v78 => ?_)
                    refine lv_iload_n X.1 X.2.1 d_Ha_compress_350 rfl (lv_at hl 4 rfl) ?_
                    refine lv_iadd X.1 X.2.1 d_Ha_compress_351 ?_
                    refine t_any (fun v79 => ?_)
                    refine q_iast X.1 X.2.1 X.2.2.2.2 Y 1 m_sta e70 rfl (vp_in_nI (by omega) (by omega)) d_Ha_compress_352 (fun H locs Y => ?_)
                    generalize (upd g67 ((nI 1)).toNatClampNeg v79) = g80 at Y
                    have e83 : (va_up f69 sta (.inl (E.2.1, 5, .inl g80))) sta = .inl (E.2.1, 5, .inl g80) := q_up
                    have e84 : (va_up f69 sta (.inl (E.2.1, 5, .inl g80))) o = .inr (6, [.ref wd, .ref bl, .ref sta, .ref inn, .ref out, .int (nI fl), .int tot, .ref mac]) := (q_ne (q_tag e71 e70 (show (6 : Nat) ≠ 1000 by decide))).trans e71
                    have e85 : (va_up f69 sta (.inl (E.2.1, 5, .inl g80))) wd = .inl (E.2.1, 80, .inl g49) := (q_ne ap_wd_sta).trans e72
                    have e86 : (va_up f69 sta (.inl (E.2.1, 5, .inl g80))) bl = .inl (E.1, 64, .inl g_bl) := (q_ne ap_bl_sta).trans e73
                    have e87 : (va_up f69 sta (.inl (E.2.1, 5, .inl g80))) inn = .inl (E.2.1, 5, .inl g_inn) := (q_ne ap_sta_inn.symm).trans e74
                    have e88 : (va_up f69 sta (.inl (E.2.1, 5, .inl g80))) out = .inl (E.2.1, 5, .inl g_out) := (q_ne ap_sta_out.symm).trans e75
                    have e89 : (va_up f69 sta (.inl (E.2.1, 5, .inl g80))) mac = .inl (E.1, 20, .inl g_mac) := (q_ne ap_sta_mac.symm).trans e76
                    have hF90 : ∀ x, x ≠ wd → x ≠ sta → (va_up f69 sta (.inl (E.2.1, 5, .inl g80))) x = f x := fun x h0 h1 => (q_ne h1).trans (hF77 x h0 h1)
                    have Y : pH D cCl (pA L sz) s.heap L (va_up f69 sta (.inl (E.2.1, 5, .inl g80))) H locs := Y
                    generalize (va_up f69 sta (.inl (E.2.1, 5, .inl g80))) = f82 at Y e83 e84 e85 e86 e87 e88 e89 hF90
                    refine lv_aload_n X.1 X.2.1 d_Ha_compress_353 rfl (lv_at hl 6 rfl) ?_
                    refine q_get X.1 X.2.1 X.2.2.1 i_Ha X.2.2.2.1 X.2.2.2.2 Y m_o e84 rfl 2 (by decide) (X.2.2.1 _ lk_Ha_17) (fun _ h9 => h9) rfl d_Ha_compress_354 ?_
                    refine lv_iconst (v := (nI 2)) X.1 X.2.1 d_Ha_compress_357 (by decide) ?_
                    refine lv_dup2_11 X.1 X.2.1 d_Ha_compress_358 rfl rfl ?_
                    refine q_iald X.1 X.2.1 X.2.2.2.2 Y 1 m_sta e83 rfl (vp_in_nI (by omega) (by omega)) d_Ha_compress_359 ?_
                    refine t_any (fun v91 => ?_)
                    refine lv_iload_n X.1 X.2.1 d_Ha_compress_360 rfl (lv_at hl 3 rfl) ?_
                    refine lv_iadd X.1 X.2.1 d_Ha_compress_361 ?_
                    refine t_any (fun v92 => ?_)
                    refine q_iast X.1 X.2.1 X.2.2.2.2 Y 1 m_sta e83 rfl (vp_in_nI (by omega) (by omega)) d_Ha_compress_362 (fun H locs Y => ?_)
                    generalize (upd g80 ((nI 2)).toNatClampNeg v92) = g93 at Y
                    have e96 : (va_up f82 sta (.inl (E.2.1, 5, .inl g93))) sta = .inl (E.2.1, 5, .inl g93) := q_up
                    have e97 : (va_up f82 sta (.inl (E.2.1, 5, .inl g93))) o = .inr (6, [.ref wd, .ref bl, .ref sta, .ref inn, .ref out, .int (nI fl), .int tot, .ref mac]) := (q_ne (q_tag e84 e83 (show (6 : Nat) ≠ 1000 by decide))).trans e84
                    have e98 : (va_up f82 sta (.inl (E.2.1, 5, .inl g93))) wd = .inl (E.2.1, 80, .inl g49) := (q_ne ap_wd_sta).trans e85
                    have e99 : (va_up f82 sta (.inl (E.2.1, 5, .inl g93))) bl = .inl (E.1, 64, .inl g_bl) := (q_ne ap_bl_sta).trans e86
                    have e100 : (va_up f82 sta (.inl (E.2.1, 5, .inl g93))) inn = .inl (E.2.1, 5, .inl g_inn) := (q_ne ap_sta_inn.symm).trans e87
                    have e101 : (va_up f82 sta (.inl (E.2.1, 5, .inl g93))) out = .inl (E.2.1, 5, .inl g_out) := (q_ne ap_sta_out.symm).trans e88
                    have e102 : (va_up f82 sta (.inl (E.2.1, 5, .inl g93))) mac = .inl (E.1, 20, .inl g_mac) := (q_ne ap_sta_mac.symm).trans e89
                    have hF103 : ∀ x, x ≠ wd → x ≠ sta → (va_up f82 sta (.inl (E.2.1, 5, .inl g93))) x = f x := fun x h0 h1 => (q_ne h1).trans (hF90 x h0 h1)
                    have Y : pH D cCl (pA L sz) s.heap L (va_up f82 sta (.inl (E.2.1, 5, .inl g93))) H locs := Y
                    generalize (va_up f82 sta (.inl (E.2.1, 5, .inl g93))) = f95 at Y e96 e97 e98 e99 e100 e101 e102 hF103
                    refine lv_aload_n X.1 X.2.1 d_Ha_compress_363 rfl (lv_at hl 6 rfl) ?_
                    refine q_get X.1 X.2.1 X.2.2.1 i_Ha X.2.2.2.1 X.2.2.2.2 Y m_o e97 rfl 2 (by decide) (X.2.2.1 _ lk_Ha_17) (fun _ h9 => h9) rfl d_Ha_compress_364 ?_
                    refine lv_iconst (v := (nI 3)) X.1 X.2.1 d_Ha_compress_367 (by decide) ?_
                    refine lv_dup2_11 X.1 X.2.1 d_Ha_compress_368 rfl rfl ?_
                    refine q_iald X.1 X.2.1 X.2.2.2.2 Y 1 m_sta e96 rfl (vp_in_nI (by omega) (by omega)) d_Ha_compress_369 ?_
                    refine t_any (fun v104 => ?_)
                    refine lv_iload X.1 X.2.1 d_Ha_compress_370 (lv_at hl 2 rfl) ?_
                    refine lv_iadd X.1 X.2.1 d_Ha_compress_372 ?_
                    refine t_any (fun v105 => ?_)
                    refine q_iast X.1 X.2.1 X.2.2.2.2 Y 1 m_sta e96 rfl (vp_in_nI (by omega) (by omega)) d_Ha_compress_373 (fun H locs Y => ?_)
                    generalize (upd g93 ((nI 3)).toNatClampNeg v105) = g106 at Y
                    have e109 : (va_up f95 sta (.inl (E.2.1, 5, .inl g106))) sta = .inl (E.2.1, 5, .inl g106) := q_up
                    have e110 : (va_up f95 sta (.inl (E.2.1, 5, .inl g106))) o = .inr (6, [.ref wd, .ref bl, .ref sta, .ref inn, .ref out, .int (nI fl), .int tot, .ref mac]) := (q_ne (q_tag e97 e96 (show (6 : Nat) ≠ 1000 by decide))).trans e97
                    have e111 : (va_up f95 sta (.inl (E.2.1, 5, .inl g106))) wd = .inl (E.2.1, 80, .inl g49) := (q_ne ap_wd_sta).trans e98
                    have e112 : (va_up f95 sta (.inl (E.2.1, 5, .inl g106))) bl = .inl (E.1, 64, .inl g_bl) := (q_ne ap_bl_sta).trans e99
                    have e113 : (va_up f95 sta (.inl (E.2.1, 5, .inl g106))) inn = .inl (E.2.1, 5, .inl g_inn) := (q_ne ap_sta_inn.symm).trans e100
                    have e114 : (va_up f95 sta (.inl (E.2.1, 5, .inl g106))) out = .inl (E.2.1, 5, .inl g_out) := (q_ne ap_sta_out.symm).trans e101
                    have e115 : (va_up f95 sta (.inl (E.2.1, 5, .inl g106))) mac = .inl (E.1, 20, .inl g_mac) := (q_ne ap_sta_mac.symm).trans e102
                    have hF116 : ∀ x, x ≠ wd → x ≠ sta → (va_up f95 sta (.inl (E.2.1, 5, .inl g106))) x = f x := fun x h0 h1 => (q_ne h1).trans (hF103 x h0 h1)
                    have Y : pH D cCl (pA L sz) s.heap L (va_up f95 sta (.inl (E.2.1, 5, .inl g106))) H locs := Y
                    generalize (va_up f95 sta (.inl (E.2.1, 5, .inl g106))) = f108 at Y e109 e110 e111 e112 e113 e114 e115 hF116
                    refine lv_aload_n X.1 X.2.1 d_Ha_compress_374 rfl (lv_at hl 6 rfl) ?_
                    refine q_get X.1 X.2.1 X.2.2.1 i_Ha X.2.2.2.1 X.2.2.2.2 Y m_o e110 rfl 2 (by decide) (X.2.2.1 _ lk_Ha_17) (fun _ h9 => h9) rfl d_Ha_compress_375 ?_
                    refine lv_iconst (v := (nI 4)) X.1 X.2.1 d_Ha_compress_378 (by decide) ?_
                    refine lv_dup2_11 X.1 X.2.1 d_Ha_compress_379 rfl rfl ?_
                    refine q_iald X.1 X.2.1 X.2.2.2.2 Y 1 m_sta e109 rfl (vp_in_nI (by omega) (by omega)) d_Ha_compress_380 ?_
                    refine t_any (fun v117 => ?_)
                    refine lv_iload X.1 X.2.1 d_Ha_compress_381 (lv_at hl 1 rfl) ?_
                    refine lv_iadd X.1 X.2.1 d_Ha_compress_383 ?_
                    refine t_any (fun v118 => ?_)
                    refine q_iast X.1 X.2.1 X.2.2.2.2 Y 1 m_sta e109 rfl (vp_in_nI (by omega) (by omega)) d_Ha_compress_384 (fun H locs Y => ?_)
                    generalize (upd g106 ((nI 4)).toNatClampNeg v118) = g119 at Y
                    have e122 : (va_up f108 sta (.inl (E.2.1, 5, .inl g119))) sta = .inl (E.2.1, 5, .inl g119) := q_up
                    have e123 : (va_up f108 sta (.inl (E.2.1, 5, .inl g119))) o = .inr (6, [.ref wd, .ref bl, .ref sta, .ref inn, .ref out, .int (nI fl), .int tot, .ref mac]) := (q_ne (q_tag e110 e109 (show (6 : Nat) ≠ 1000 by decide))).trans e110
                    have e124 : (va_up f108 sta (.inl (E.2.1, 5, .inl g119))) wd = .inl (E.2.1, 80, .inl g49) := (q_ne ap_wd_sta).trans e111
                    have e125 : (va_up f108 sta (.inl (E.2.1, 5, .inl g119))) bl = .inl (E.1, 64, .inl g_bl) := (q_ne ap_bl_sta).trans e112
                    have e126 : (va_up f108 sta (.inl (E.2.1, 5, .inl g119))) inn = .inl (E.2.1, 5, .inl g_inn) := (q_ne ap_sta_inn.symm).trans e113
                    have e127 : (va_up f108 sta (.inl (E.2.1, 5, .inl g119))) out = .inl (E.2.1, 5, .inl g_out) := (q_ne ap_sta_out.symm).trans e114
                    have e128 : (va_up f108 sta (.inl (E.2.1, 5, .inl g119))) mac = .inl (E.1, 20, .inl g_mac) := (q_ne ap_sta_mac.symm).trans e115
                    have hF129 : ∀ x, x ≠ wd → x ≠ sta → (va_up f108 sta (.inl (E.2.1, 5, .inl g119))) x = f x := fun x h0 h1 => (q_ne h1).trans (hF116 x h0 h1)
                    have Y : pH D cCl (pA L sz) s.heap L (va_up f108 sta (.inl (E.2.1, 5, .inl g119))) H locs := Y
                    generalize (va_up f108 sta (.inl (E.2.1, 5, .inl g119))) = f121 at Y e122 e123 e124 e125 e126 e127 e128 hF129
                    exact c_retv hQQ X Y hr hlk ⟨rfl, hF129, g49, g119, e124, e122⟩ d_Ha_compress_385
                  · skip
                    rw [nI_leI (by omega) (by omega)] at c64
                    refine lv_iload X.1 X.2.1 d_Ha_compress_197 (lv_at hl 0 rfl) ?_
                    refine lv_bipush (v := (nI 20)) X.1 X.2.1 d_Ha_compress_199 (by decide) ?_
                    refine lv_icmp_ge (tgt := 222) X.1 X.2.1 d_Ha_compress_201 (by decide) (fun c130 => ?_) (fun c130 => ?_)
                    · skip
                      rw [nI_leI (by omega) (by omega)] at c130
                      refine lv_iload X.1 X.2.1 d_Ha_compress_222 (lv_at hl 0 rfl) ?_
                      refine lv_bipush (v := (nI 40)) X.1 X.2.1 d_Ha_compress_224 (by decide) ?_
                      refine lv_icmp_ge (tgt := 243) X.1 X.2.1 d_Ha_compress_226 (by decide) (fun c131 => ?_) (fun c131 => ?_)
                      · skip
                        rw [nI_leI (by omega) (by omega)] at c131
                        refine lv_iload X.1 X.2.1 d_Ha_compress_243 (lv_at hl 0 rfl) ?_
                        refine lv_bipush (v := (nI 60)) X.1 X.2.1 d_Ha_compress_245 (by decide) ?_
                        refine lv_icmp_ge (tgt := 271) X.1 X.2.1 d_Ha_compress_247 (by decide) (fun c132 => ?_) (fun c132 => ?_)
                        · skip
                          rw [nI_leI (by omega) (by omega)] at c132
                          refine lv_iload_n X.1 X.2.1 d_Ha_compress_271 rfl (lv_at hl 4 rfl) ?_
                          refine lv_iload_n X.1 X.2.1 d_Ha_compress_272 rfl (lv_at hl 3 rfl) ?_
                          refine lv_ixor X.1 X.2.1 d_Ha_compress_273 ?_
                          refine t_any (fun v133 => ?_)
                          refine lv_iload X.1 X.2.1 d_Ha_compress_274 (lv_at hl 2 rfl) ?_
                          refine lv_ixor X.1 X.2.1 d_Ha_compress_276 ?_
                          refine t_any (fun v134 => ?_)
                          refine lv_ldc (v := (-899497514)) X.1 X.2.1 X.2.2.2.1 (X.2.2.1 _ cn_Ha_60) d_Ha_compress_277 ?_
                          refine lv_iadd X.1 X.2.1 d_Ha_compress_279 ?_
                          refine t_any (fun v135 => ?_)
                          refine lv_istore (lv' := [(7, .int v135), (6, .int (nI i)), (5, .int x60), (4, .int x59), (3, .int x58), (2, .int x57), (1, .int x56), (0, .ref o)]) X.1 X.2.1 d_Ha_compress_280 hl (by decide) rfl (fun ls hl => ?_)
                          refine lv_iload_n X.1 X.2.1 d_Ha_compress_282 rfl (lv_at hl 6 rfl) ?_
                          refine lv_iconst (v := (nI 5)) X.1 X.2.1 d_Ha_compress_283 (by decide) ?_
                          refine lv_ishl X.1 X.2.1 d_Ha_compress_284 ?_
                          refine t_any (fun v136 => ?_)
                          refine lv_iload_n X.1 X.2.1 d_Ha_compress_285 rfl (lv_at hl 6 rfl) ?_
                          refine lv_bipush (v := (nI 27)) X.1 X.2.1 d_Ha_compress_286 (by decide) ?_
                          obtain ⟨v137, ev137⟩ : ∃ z : Int32, ((x56 : Int32).toUInt32 >>> (((nI 27) : Int32).toUInt32 &&& Int32.toUInt32 31)).toInt32 = z := ⟨_, rfl⟩
                          refine lv_iushr (v := v137) X.1 X.2.1 d_Ha_compress_288 ev137 ?_
                          refine lv_ior X.1 X.2.1 d_Ha_compress_289 ?_
                          refine t_any (fun v138 => ?_)
                          refine lv_iload X.1 X.2.1 d_Ha_compress_290 (lv_at hl 0 rfl) ?_
                          refine lv_iadd X.1 X.2.1 d_Ha_compress_292 ?_
                          refine t_any (fun v139 => ?_)
                          refine lv_iload X.1 X.2.1 d_Ha_compress_293 (lv_at hl 2 rfl) ?_
                          refine lv_iadd X.1 X.2.1 d_Ha_compress_295 ?_
                          refine t_any (fun v140 => ?_)
                          refine lv_aload_n X.1 X.2.1 d_Ha_compress_296 rfl (lv_at hl 7 rfl) ?_
                          refine q_get X.1 X.2.1 X.2.2.1 i_Ha X.2.2.2.1 X.2.2.2.2 Y m_o e47 rfl 0 (by decide) (X.2.2.1 _ lk_Ha_7) (fun _ h9 => h9) rfl d_Ha_compress_297 ?_
                          refine lv_iload X.1 X.2.1 d_Ha_compress_300 (lv_at hl 1 rfl) ?_
                          refine q_iald X.1 X.2.1 X.2.2.2.2 Y 1 m_wd e48 rfl (vp_in_nI (by omega) (by omega)) d_Ha_compress_302 ?_
                          refine t_any (fun v141 => ?_)
                          refine lv_iadd X.1 X.2.1 d_Ha_compress_303 ?_
                          refine t_any (fun v142 => ?_)
                          refine lv_istore (lv' := [(8, .int v142), (7, .int v135), (6, .int (nI i)), (5, .int x60), (4, .int x59), (3, .int x58), (2, .int x57), (1, .int x56), (0, .ref o)]) X.1 X.2.1 d_Ha_compress_304 hl (by decide) rfl (fun ls hl => ?_)
                          refine lv_iload X.1 X.2.1 d_Ha_compress_306 (lv_at hl 4 rfl) ?_
                          refine lv_istore (lv' := [(5, .int x59), (8, .int v142), (7, .int v135), (6, .int (nI i)), (4, .int x59), (3, .int x58), (2, .int x57), (1, .int x56), (0, .ref o)]) X.1 X.2.1 d_Ha_compress_308 hl (by decide) rfl (fun ls hl => ?_)
                          refine lv_iload_n X.1 X.2.1 d_Ha_compress_310 rfl (lv_at hl 5 rfl) ?_
                          refine lv_istore (lv' := [(4, .int x58), (5, .int x59), (8, .int v142), (7, .int v135), (6, .int (nI i)), (3, .int x58), (2, .int x57), (1, .int x56), (0, .ref o)]) X.1 X.2.1 d_Ha_compress_311 hl (by decide) rfl (fun ls hl => ?_)
                          refine lv_iload_n X.1 X.2.1 d_Ha_compress_313 rfl (lv_at hl 6 rfl) ?_
                          refine lv_bipush (v := (nI 30)) X.1 X.2.1 d_Ha_compress_314 (by decide) ?_
                          refine lv_ishl X.1 X.2.1 d_Ha_compress_316 ?_
                          refine t_any (fun v143 => ?_)
                          refine lv_iload_n X.1 X.2.1 d_Ha_compress_317 rfl (lv_at hl 6 rfl) ?_
                          refine lv_iconst (v := (nI 2)) X.1 X.2.1 d_Ha_compress_318 (by decide) ?_
                          obtain ⟨v144, ev144⟩ : ∃ z : Int32, ((x57 : Int32).toUInt32 >>> (((nI 2) : Int32).toUInt32 &&& Int32.toUInt32 31)).toInt32 = z := ⟨_, rfl⟩
                          refine lv_iushr (v := v144) X.1 X.2.1 d_Ha_compress_319 ev144 ?_
                          refine lv_ior X.1 X.2.1 d_Ha_compress_320 ?_
                          refine t_any (fun v145 => ?_)
                          refine lv_istore_n (lv' := [(3, .int v145), (4, .int x58), (5, .int x59), (8, .int v142), (7, .int v135), (6, .int (nI i)), (2, .int x57), (1, .int x56), (0, .ref o)]) X.1 X.2.1 d_Ha_compress_321 rfl hl (by decide) rfl (fun ls hl => ?_)
                          refine lv_iload_n X.1 X.2.1 d_Ha_compress_322 rfl (lv_at hl 7 rfl) ?_
                          refine lv_istore_n (lv' := [(2, .int x56), (3, .int v145), (4, .int x58), (5, .int x59), (8, .int v142), (7, .int v135), (6, .int (nI i)), (1, .int x56), (0, .ref o)]) X.1 X.2.1 d_Ha_compress_323 rfl hl (by decide) rfl (fun ls hl => ?_)
                          refine lv_iload X.1 X.2.1 d_Ha_compress_324 (lv_at hl 4 rfl) ?_
                          refine lv_istore_n (lv' := [(1, .int v142), (2, .int x56), (3, .int v145), (4, .int x58), (5, .int x59), (8, .int v142), (7, .int v135), (6, .int (nI i)), (0, .ref o)]) X.1 X.2.1 d_Ha_compress_326 rfl hl (by decide) rfl (fun ls hl => ?_)
                          refine lv_iinc (v := (nI (i + 1))) (lv' := [(6, .int (nI (i + 1))), (1, .int v142), (2, .int x56), (3, .int v145), (4, .int x58), (5, .int x59), (8, .int v142), (7, .int v135), (0, .ref o)]) X.1 X.2.1 d_Ha_compress_327 hl (k := 7) rfl (nI_add _ 1) (by decide) rfl (fun ls hl => ?_)
                          refine lv_goto (tgt := 190) X.1 X.2.1 d_Ha_compress_330 (by decide) ?_
                          exact False.elim (by omega)
                        · skip
                          rw [nI_leI (by omega) (by omega)] at c132
                          refine lv_iload_n X.1 X.2.1 d_Ha_compress_250 rfl (lv_at hl 4 rfl) ?_
                          refine lv_iload_n X.1 X.2.1 d_Ha_compress_251 rfl (lv_at hl 3 rfl) ?_
                          refine lv_iand X.1 X.2.1 d_Ha_compress_252 ?_
                          refine t_any (fun v146 => ?_)
                          refine lv_iload_n X.1 X.2.1 d_Ha_compress_253 rfl (lv_at hl 4 rfl) ?_
                          refine lv_iload X.1 X.2.1 d_Ha_compress_254 (lv_at hl 2 rfl) ?_
                          refine lv_iand X.1 X.2.1 d_Ha_compress_256 ?_
                          refine t_any (fun v147 => ?_)
                          refine lv_ior X.1 X.2.1 d_Ha_compress_257 ?_
                          refine t_any (fun v148 => ?_)
                          refine lv_iload_n X.1 X.2.1 d_Ha_compress_258 rfl (lv_at hl 3 rfl) ?_
                          refine lv_iload X.1 X.2.1 d_Ha_compress_259 (lv_at hl 2 rfl) ?_
                          refine lv_iand X.1 X.2.1 d_Ha_compress_261 ?_
                          refine t_any (fun v149 => ?_)
                          refine lv_ior X.1 X.2.1 d_Ha_compress_262 ?_
                          refine t_any (fun v150 => ?_)
                          refine lv_ldc (v := (-1894007588)) X.1 X.2.1 X.2.2.2.1 (X.2.2.1 _ cn_Ha_59) d_Ha_compress_263 ?_
                          refine lv_iadd X.1 X.2.1 d_Ha_compress_265 ?_
                          refine t_any (fun v151 => ?_)
                          refine lv_istore (lv' := [(7, .int v151), (6, .int (nI i)), (5, .int x60), (4, .int x59), (3, .int x58), (2, .int x57), (1, .int x56), (0, .ref o)]) X.1 X.2.1 d_Ha_compress_266 hl (by decide) rfl (fun ls hl => ?_)
                          refine lv_goto (tgt := 282) X.1 X.2.1 d_Ha_compress_268 (by decide) ?_
                          refine lv_iload_n X.1 X.2.1 d_Ha_compress_282 rfl (lv_at hl 6 rfl) ?_
                          refine lv_iconst (v := (nI 5)) X.1 X.2.1 d_Ha_compress_283 (by decide) ?_
                          refine lv_ishl X.1 X.2.1 d_Ha_compress_284 ?_
                          refine t_any (fun v152 => ?_)
                          refine lv_iload_n X.1 X.2.1 d_Ha_compress_285 rfl (lv_at hl 6 rfl) ?_
                          refine lv_bipush (v := (nI 27)) X.1 X.2.1 d_Ha_compress_286 (by decide) ?_
                          obtain ⟨v153, ev153⟩ : ∃ z : Int32, ((x56 : Int32).toUInt32 >>> (((nI 27) : Int32).toUInt32 &&& Int32.toUInt32 31)).toInt32 = z := ⟨_, rfl⟩
                          refine lv_iushr (v := v153) X.1 X.2.1 d_Ha_compress_288 ev153 ?_
                          refine lv_ior X.1 X.2.1 d_Ha_compress_289 ?_
                          refine t_any (fun v154 => ?_)
                          refine lv_iload X.1 X.2.1 d_Ha_compress_290 (lv_at hl 0 rfl) ?_
                          refine lv_iadd X.1 X.2.1 d_Ha_compress_292 ?_
                          refine t_any (fun v155 => ?_)
                          refine lv_iload X.1 X.2.1 d_Ha_compress_293 (lv_at hl 2 rfl) ?_
                          refine lv_iadd X.1 X.2.1 d_Ha_compress_295 ?_
                          refine t_any (fun v156 => ?_)
                          refine lv_aload_n X.1 X.2.1 d_Ha_compress_296 rfl (lv_at hl 7 rfl) ?_
                          refine q_get X.1 X.2.1 X.2.2.1 i_Ha X.2.2.2.1 X.2.2.2.2 Y m_o e47 rfl 0 (by decide) (X.2.2.1 _ lk_Ha_7) (fun _ h9 => h9) rfl d_Ha_compress_297 ?_
                          refine lv_iload X.1 X.2.1 d_Ha_compress_300 (lv_at hl 1 rfl) ?_
                          refine q_iald X.1 X.2.1 X.2.2.2.2 Y 1 m_wd e48 rfl (vp_in_nI (by omega) (by omega)) d_Ha_compress_302 ?_
                          refine t_any (fun v157 => ?_)
                          refine lv_iadd X.1 X.2.1 d_Ha_compress_303 ?_
                          refine t_any (fun v158 => ?_)
                          refine lv_istore (lv' := [(8, .int v158), (7, .int v151), (6, .int (nI i)), (5, .int x60), (4, .int x59), (3, .int x58), (2, .int x57), (1, .int x56), (0, .ref o)]) X.1 X.2.1 d_Ha_compress_304 hl (by decide) rfl (fun ls hl => ?_)
                          refine lv_iload X.1 X.2.1 d_Ha_compress_306 (lv_at hl 4 rfl) ?_
                          refine lv_istore (lv' := [(5, .int x59), (8, .int v158), (7, .int v151), (6, .int (nI i)), (4, .int x59), (3, .int x58), (2, .int x57), (1, .int x56), (0, .ref o)]) X.1 X.2.1 d_Ha_compress_308 hl (by decide) rfl (fun ls hl => ?_)
                          refine lv_iload_n X.1 X.2.1 d_Ha_compress_310 rfl (lv_at hl 5 rfl) ?_
                          refine lv_istore (lv' := [(4, .int x58), (5, .int x59), (8, .int v158), (7, .int v151), (6, .int (nI i)), (3, .int x58), (2, .int x57), (1, .int x56), (0, .ref o)]) X.1 X.2.1 d_Ha_compress_311 hl (by decide) rfl (fun ls hl => ?_)
                          refine lv_iload_n X.1 X.2.1 d_Ha_compress_313 rfl (lv_at hl 6 rfl) ?_
                          refine lv_bipush (v := (nI 30)) X.1 X.2.1 d_Ha_compress_314 (by decide) ?_
                          refine lv_ishl X.1 X.2.1 d_Ha_compress_316 ?_
                          refine t_any (fun v159 => ?_)
                          refine lv_iload_n X.1 X.2.1 d_Ha_compress_317 rfl (lv_at hl 6 rfl) ?_
                          refine lv_iconst (v := (nI 2)) X.1 X.2.1 d_Ha_compress_318 (by decide) ?_
                          obtain ⟨v160, ev160⟩ : ∃ z : Int32, ((x57 : Int32).toUInt32 >>> (((nI 2) : Int32).toUInt32 &&& Int32.toUInt32 31)).toInt32 = z := ⟨_, rfl⟩
                          refine lv_iushr (v := v160) X.1 X.2.1 d_Ha_compress_319 ev160 ?_
                          refine lv_ior X.1 X.2.1 d_Ha_compress_320 ?_
                          refine t_any (fun v161 => ?_)
                          refine lv_istore_n (lv' := [(3, .int v161), (4, .int x58), (5, .int x59), (8, .int v158), (7, .int v151), (6, .int (nI i)), (2, .int x57), (1, .int x56), (0, .ref o)]) X.1 X.2.1 d_Ha_compress_321 rfl hl (by decide) rfl (fun ls hl => ?_)
                          refine lv_iload_n X.1 X.2.1 d_Ha_compress_322 rfl (lv_at hl 7 rfl) ?_
                          refine lv_istore_n (lv' := [(2, .int x56), (3, .int v161), (4, .int x58), (5, .int x59), (8, .int v158), (7, .int v151), (6, .int (nI i)), (1, .int x56), (0, .ref o)]) X.1 X.2.1 d_Ha_compress_323 rfl hl (by decide) rfl (fun ls hl => ?_)
                          refine lv_iload X.1 X.2.1 d_Ha_compress_324 (lv_at hl 4 rfl) ?_
                          refine lv_istore_n (lv' := [(1, .int v158), (2, .int x56), (3, .int v161), (4, .int x58), (5, .int x59), (8, .int v158), (7, .int v151), (6, .int (nI i)), (0, .ref o)]) X.1 X.2.1 d_Ha_compress_326 rfl hl (by decide) rfl (fun ls hl => ?_)
                          refine lv_iinc (v := (nI (i + 1))) (lv' := [(6, .int (nI (i + 1))), (1, .int v158), (2, .int x56), (3, .int v161), (4, .int x58), (5, .int x59), (8, .int v158), (7, .int v151), (0, .ref o)]) X.1 X.2.1 d_Ha_compress_327 hl (k := 7) rfl (nI_add _ 1) (by decide) rfl (fun ls hl => ?_)
                          refine lv_goto (tgt := 190) X.1 X.2.1 d_Ha_compress_330 (by decide) ?_
                          exact False.elim (by omega)
                      · skip
                        rw [nI_leI (by omega) (by omega)] at c131
                        refine lv_iload_n X.1 X.2.1 d_Ha_compress_229 rfl (lv_at hl 4 rfl) ?_
                        refine lv_iload_n X.1 X.2.1 d_Ha_compress_230 rfl (lv_at hl 3 rfl) ?_
                        refine lv_ixor X.1 X.2.1 d_Ha_compress_231 ?_
                        refine t_any (fun v162 => ?_)
                        refine lv_iload X.1 X.2.1 d_Ha_compress_232 (lv_at hl 2 rfl) ?_
                        refine lv_ixor X.1 X.2.1 d_Ha_compress_234 ?_
                        refine t_any (fun v163 => ?_)
                        refine lv_ldc (v := (1859775393)) X.1 X.2.1 X.2.2.2.1 (X.2.2.1 _ cn_Ha_58) d_Ha_compress_235 ?_
                        refine t_eq (y := nI 1859775393) (by decide) ?_
                        refine lv_iadd X.1 X.2.1 d_Ha_compress_237 ?_
                        refine t_any (fun v164 => ?_)
                        refine lv_istore (lv' := [(7, .int v164), (6, .int (nI i)), (5, .int x60), (4, .int x59), (3, .int x58), (2, .int x57), (1, .int x56), (0, .ref o)]) X.1 X.2.1 d_Ha_compress_238 hl (by decide) rfl (fun ls hl => ?_)
                        refine lv_goto (tgt := 282) X.1 X.2.1 d_Ha_compress_240 (by decide) ?_
                        refine lv_iload_n X.1 X.2.1 d_Ha_compress_282 rfl (lv_at hl 6 rfl) ?_
                        refine lv_iconst (v := (nI 5)) X.1 X.2.1 d_Ha_compress_283 (by decide) ?_
                        refine lv_ishl X.1 X.2.1 d_Ha_compress_284 ?_
                        refine t_any (fun v165 => ?_)
                        refine lv_iload_n X.1 X.2.1 d_Ha_compress_285 rfl (lv_at hl 6 rfl) ?_
                        refine lv_bipush (v := (nI 27)) X.1 X.2.1 d_Ha_compress_286 (by decide) ?_
                        obtain ⟨v166, ev166⟩ : ∃ z : Int32, ((x56 : Int32).toUInt32 >>> (((nI 27) : Int32).toUInt32 &&& Int32.toUInt32 31)).toInt32 = z := ⟨_, rfl⟩
                        refine lv_iushr (v := v166) X.1 X.2.1 d_Ha_compress_288 ev166 ?_
                        refine lv_ior X.1 X.2.1 d_Ha_compress_289 ?_
                        refine t_any (fun v167 => ?_)
                        refine lv_iload X.1 X.2.1 d_Ha_compress_290 (lv_at hl 0 rfl) ?_
                        refine lv_iadd X.1 X.2.1 d_Ha_compress_292 ?_
                        refine t_any (fun v168 => ?_)
                        refine lv_iload X.1 X.2.1 d_Ha_compress_293 (lv_at hl 2 rfl) ?_
                        refine lv_iadd X.1 X.2.1 d_Ha_compress_295 ?_
                        refine t_any (fun v169 => ?_)
                        refine lv_aload_n X.1 X.2.1 d_Ha_compress_296 rfl (lv_at hl 7 rfl) ?_
                        refine q_get X.1 X.2.1 X.2.2.1 i_Ha X.2.2.2.1 X.2.2.2.2 Y m_o e47 rfl 0 (by decide) (X.2.2.1 _ lk_Ha_7) (fun _ h9 => h9) rfl d_Ha_compress_297 ?_
                        refine lv_iload X.1 X.2.1 d_Ha_compress_300 (lv_at hl 1 rfl) ?_
                        refine q_iald X.1 X.2.1 X.2.2.2.2 Y 1 m_wd e48 rfl (vp_in_nI (by omega) (by omega)) d_Ha_compress_302 ?_
                        refine t_any (fun v170 => ?_)
                        refine lv_iadd X.1 X.2.1 d_Ha_compress_303 ?_
                        refine t_any (fun v171 => ?_)
                        refine lv_istore (lv' := [(8, .int v171), (7, .int v164), (6, .int (nI i)), (5, .int x60), (4, .int x59), (3, .int x58), (2, .int x57), (1, .int x56), (0, .ref o)]) X.1 X.2.1 d_Ha_compress_304 hl (by decide) rfl (fun ls hl => ?_)
                        refine lv_iload X.1 X.2.1 d_Ha_compress_306 (lv_at hl 4 rfl) ?_
                        refine lv_istore (lv' := [(5, .int x59), (8, .int v171), (7, .int v164), (6, .int (nI i)), (4, .int x59), (3, .int x58), (2, .int x57), (1, .int x56), (0, .ref o)]) X.1 X.2.1 d_Ha_compress_308 hl (by decide) rfl (fun ls hl => ?_)
                        refine lv_iload_n X.1 X.2.1 d_Ha_compress_310 rfl (lv_at hl 5 rfl) ?_
                        refine lv_istore (lv' := [(4, .int x58), (5, .int x59), (8, .int v171), (7, .int v164), (6, .int (nI i)), (3, .int x58), (2, .int x57), (1, .int x56), (0, .ref o)]) X.1 X.2.1 d_Ha_compress_311 hl (by decide) rfl (fun ls hl => ?_)
                        refine lv_iload_n X.1 X.2.1 d_Ha_compress_313 rfl (lv_at hl 6 rfl) ?_
                        refine lv_bipush (v := (nI 30)) X.1 X.2.1 d_Ha_compress_314 (by decide) ?_
                        refine lv_ishl X.1 X.2.1 d_Ha_compress_316 ?_
                        refine t_any (fun v172 => ?_)
                        refine lv_iload_n X.1 X.2.1 d_Ha_compress_317 rfl (lv_at hl 6 rfl) ?_
                        refine lv_iconst (v := (nI 2)) X.1 X.2.1 d_Ha_compress_318 (by decide) ?_
                        obtain ⟨v173, ev173⟩ : ∃ z : Int32, ((x57 : Int32).toUInt32 >>> (((nI 2) : Int32).toUInt32 &&& Int32.toUInt32 31)).toInt32 = z := ⟨_, rfl⟩
                        refine lv_iushr (v := v173) X.1 X.2.1 d_Ha_compress_319 ev173 ?_
                        refine lv_ior X.1 X.2.1 d_Ha_compress_320 ?_
                        refine t_any (fun v174 => ?_)
                        refine lv_istore_n (lv' := [(3, .int v174), (4, .int x58), (5, .int x59), (8, .int v171), (7, .int v164), (6, .int (nI i)), (2, .int x57), (1, .int x56), (0, .ref o)]) X.1 X.2.1 d_Ha_compress_321 rfl hl (by decide) rfl (fun ls hl => ?_)
                        refine lv_iload_n X.1 X.2.1 d_Ha_compress_322 rfl (lv_at hl 7 rfl) ?_
                        refine lv_istore_n (lv' := [(2, .int x56), (3, .int v174), (4, .int x58), (5, .int x59), (8, .int v171), (7, .int v164), (6, .int (nI i)), (1, .int x56), (0, .ref o)]) X.1 X.2.1 d_Ha_compress_323 rfl hl (by decide) rfl (fun ls hl => ?_)
                        refine lv_iload X.1 X.2.1 d_Ha_compress_324 (lv_at hl 4 rfl) ?_
                        refine lv_istore_n (lv' := [(1, .int v171), (2, .int x56), (3, .int v174), (4, .int x58), (5, .int x59), (8, .int v171), (7, .int v164), (6, .int (nI i)), (0, .ref o)]) X.1 X.2.1 d_Ha_compress_326 rfl hl (by decide) rfl (fun ls hl => ?_)
                        refine lv_iinc (v := (nI (i + 1))) (lv' := [(6, .int (nI (i + 1))), (1, .int v171), (2, .int x56), (3, .int v174), (4, .int x58), (5, .int x59), (8, .int v171), (7, .int v164), (0, .ref o)]) X.1 X.2.1 d_Ha_compress_327 hl (k := 7) rfl (nI_add _ 1) (by decide) rfl (fun ls hl => ?_)
                        refine lv_goto (tgt := 190) X.1 X.2.1 d_Ha_compress_330 (by decide) ?_
                        exact False.elim (by omega)
                    · skip
                      rw [nI_leI (by omega) (by omega)] at c130
                      refine lv_iload_n X.1 X.2.1 d_Ha_compress_204 rfl (lv_at hl 4 rfl) ?_
                      refine lv_iload_n X.1 X.2.1 d_Ha_compress_205 rfl (lv_at hl 3 rfl) ?_
                      refine lv_iand X.1 X.2.1 d_Ha_compress_206 ?_
                      refine t_any (fun v175 => ?_)
                      refine lv_iload_n X.1 X.2.1 d_Ha_compress_207 rfl (lv_at hl 4 rfl) ?_
                      refine lv_iconst (v := (-1)) X.1 X.2.1 d_Ha_compress_208 (by decide) ?_
                      refine lv_ixor X.1 X.2.1 d_Ha_compress_209 ?_
                      refine t_any (fun v176 => ?_)
                      refine lv_iload X.1 X.2.1 d_Ha_compress_210 (lv_at hl 2 rfl) ?_
                      refine lv_iand X.1 X.2.1 d_Ha_compress_212 ?_
                      refine t_any (fun v177 => ?_)
                      refine lv_ior X.1 X.2.1 d_Ha_compress_213 ?_
                      refine t_any (fun v178 => ?_)
                      refine lv_ldc (v := (1518500249)) X.1 X.2.1 X.2.2.2.1 (X.2.2.1 _ cn_Ha_57) d_Ha_compress_214 ?_
                      refine t_eq (y := nI 1518500249) (by decide) ?_
                      refine lv_iadd X.1 X.2.1 d_Ha_compress_216 ?_
                      refine t_any (fun v179 => ?_)
                      refine lv_istore (lv' := [(7, .int v179), (6, .int (nI i)), (5, .int x60), (4, .int x59), (3, .int x58), (2, .int x57), (1, .int x56), (0, .ref o)]) X.1 X.2.1 d_Ha_compress_217 hl (by decide) rfl (fun ls hl => ?_)
                      refine lv_goto (tgt := 282) X.1 X.2.1 d_Ha_compress_219 (by decide) ?_
                      refine lv_iload_n X.1 X.2.1 d_Ha_compress_282 rfl (lv_at hl 6 rfl) ?_
                      refine lv_iconst (v := (nI 5)) X.1 X.2.1 d_Ha_compress_283 (by decide) ?_
                      refine lv_ishl X.1 X.2.1 d_Ha_compress_284 ?_
                      refine t_any (fun v180 => ?_)
                      refine lv_iload_n X.1 X.2.1 d_Ha_compress_285 rfl (lv_at hl 6 rfl) ?_
                      refine lv_bipush (v := (nI 27)) X.1 X.2.1 d_Ha_compress_286 (by decide) ?_
                      obtain ⟨v181, ev181⟩ : ∃ z : Int32, ((x56 : Int32).toUInt32 >>> (((nI 27) : Int32).toUInt32 &&& Int32.toUInt32 31)).toInt32 = z := ⟨_, rfl⟩
                      refine lv_iushr (v := v181) X.1 X.2.1 d_Ha_compress_288 ev181 ?_
                      refine lv_ior X.1 X.2.1 d_Ha_compress_289 ?_
                      refine t_any (fun v182 => ?_)
                      refine lv_iload X.1 X.2.1 d_Ha_compress_290 (lv_at hl 0 rfl) ?_
                      refine lv_iadd X.1 X.2.1 d_Ha_compress_292 ?_
                      refine t_any (fun v183 => ?_)
                      refine lv_iload X.1 X.2.1 d_Ha_compress_293 (lv_at hl 2 rfl) ?_
                      refine lv_iadd X.1 X.2.1 d_Ha_compress_295 ?_
                      refine t_any (fun v184 => ?_)
                      refine lv_aload_n X.1 X.2.1 d_Ha_compress_296 rfl (lv_at hl 7 rfl) ?_
                      refine q_get X.1 X.2.1 X.2.2.1 i_Ha X.2.2.2.1 X.2.2.2.2 Y m_o e47 rfl 0 (by decide) (X.2.2.1 _ lk_Ha_7) (fun _ h9 => h9) rfl d_Ha_compress_297 ?_
                      refine lv_iload X.1 X.2.1 d_Ha_compress_300 (lv_at hl 1 rfl) ?_
                      refine q_iald X.1 X.2.1 X.2.2.2.2 Y 1 m_wd e48 rfl (vp_in_nI (by omega) (by omega)) d_Ha_compress_302 ?_
                      refine t_any (fun v185 => ?_)
                      refine lv_iadd X.1 X.2.1 d_Ha_compress_303 ?_
                      refine t_any (fun v186 => ?_)
                      refine lv_istore (lv' := [(8, .int v186), (7, .int v179), (6, .int (nI i)), (5, .int x60), (4, .int x59), (3, .int x58), (2, .int x57), (1, .int x56), (0, .ref o)]) X.1 X.2.1 d_Ha_compress_304 hl (by decide) rfl (fun ls hl => ?_)
                      refine lv_iload X.1 X.2.1 d_Ha_compress_306 (lv_at hl 4 rfl) ?_
                      refine lv_istore (lv' := [(5, .int x59), (8, .int v186), (7, .int v179), (6, .int (nI i)), (4, .int x59), (3, .int x58), (2, .int x57), (1, .int x56), (0, .ref o)]) X.1 X.2.1 d_Ha_compress_308 hl (by decide) rfl (fun ls hl => ?_)
                      refine lv_iload_n X.1 X.2.1 d_Ha_compress_310 rfl (lv_at hl 5 rfl) ?_
                      refine lv_istore (lv' := [(4, .int x58), (5, .int x59), (8, .int v186), (7, .int v179), (6, .int (nI i)), (3, .int x58), (2, .int x57), (1, .int x56), (0, .ref o)]) X.1 X.2.1 d_Ha_compress_311 hl (by decide) rfl (fun ls hl => ?_)
                      refine lv_iload_n X.1 X.2.1 d_Ha_compress_313 rfl (lv_at hl 6 rfl) ?_
                      refine lv_bipush (v := (nI 30)) X.1 X.2.1 d_Ha_compress_314 (by decide) ?_
                      refine lv_ishl X.1 X.2.1 d_Ha_compress_316 ?_
                      refine t_any (fun v187 => ?_)
                      refine lv_iload_n X.1 X.2.1 d_Ha_compress_317 rfl (lv_at hl 6 rfl) ?_
                      refine lv_iconst (v := (nI 2)) X.1 X.2.1 d_Ha_compress_318 (by decide) ?_
                      obtain ⟨v188, ev188⟩ : ∃ z : Int32, ((x57 : Int32).toUInt32 >>> (((nI 2) : Int32).toUInt32 &&& Int32.toUInt32 31)).toInt32 = z := ⟨_, rfl⟩
                      refine lv_iushr (v := v188) X.1 X.2.1 d_Ha_compress_319 ev188 ?_
                      refine lv_ior X.1 X.2.1 d_Ha_compress_320 ?_
                      refine t_any (fun v189 => ?_)
                      refine lv_istore_n (lv' := [(3, .int v189), (4, .int x58), (5, .int x59), (8, .int v186), (7, .int v179), (6, .int (nI i)), (2, .int x57), (1, .int x56), (0, .ref o)]) X.1 X.2.1 d_Ha_compress_321 rfl hl (by decide) rfl (fun ls hl => ?_)
                      refine lv_iload_n X.1 X.2.1 d_Ha_compress_322 rfl (lv_at hl 7 rfl) ?_
                      refine lv_istore_n (lv' := [(2, .int x56), (3, .int v189), (4, .int x58), (5, .int x59), (8, .int v186), (7, .int v179), (6, .int (nI i)), (1, .int x56), (0, .ref o)]) X.1 X.2.1 d_Ha_compress_323 rfl hl (by decide) rfl (fun ls hl => ?_)
                      refine lv_iload X.1 X.2.1 d_Ha_compress_324 (lv_at hl 4 rfl) ?_
                      refine lv_istore_n (lv' := [(1, .int v186), (2, .int x56), (3, .int v189), (4, .int x58), (5, .int x59), (8, .int v186), (7, .int v179), (6, .int (nI i)), (0, .ref o)]) X.1 X.2.1 d_Ha_compress_326 rfl hl (by decide) rfl (fun ls hl => ?_)
                      refine lv_iinc (v := (nI (i + 1))) (lv' := [(6, .int (nI (i + 1))), (1, .int v186), (2, .int x56), (3, .int v189), (4, .int x58), (5, .int x59), (8, .int v186), (7, .int v179), (0, .ref o)]) X.1 X.2.1 d_Ha_compress_327 hl (k := 7) rfl (nI_add _ 1) (by decide) rfl (fun ls hl => ?_)
                      refine lv_goto (tgt := 190) X.1 X.2.1 d_Ha_compress_330 (by decide) ?_
                      exact False.elim (by omega)
                | succ n43 ih44 =>
                  intro i x56 x57 x58 x59 x60 g49 g52 f45 H locs ls hm63 hc61 hc62  e47 e48 e50 e51 e53 e54 e55 hF46 Y hl
                  refine lv_iload X.1 X.2.1 d_Ha_compress_190 (lv_at hl 0 rfl) ?_
                  refine lv_bipush (v := (nI 80)) X.1 X.2.1 d_Ha_compress_192 (by decide) ?_
                  refine lv_icmp_ge (tgt := 333) X.1 X.2.1 d_Ha_compress_194 (by decide) (fun c190 => ?_) (fun c190 => ?_)
                  · skip
                    rw [nI_leI (by omega) (by omega)] at c190
                    refine lv_aload_n X.1 X.2.1 d_Ha_compress_333 rfl (lv_at hl 6 rfl) ?_
                    refine q_get X.1 X.2.1 X.2.2.1 i_Ha X.2.2.2.1 X.2.2.2.2 Y m_o e47 rfl 2 (by decide) (X.2.2.1 _ lk_Ha_17) (fun _ h9 => h9) rfl d_Ha_compress_334 ?_
                    refine lv_iconst (v := (nI 0)) X.1 X.2.1 d_Ha_compress_337 (by decide) ?_
                    refine lv_dup2_11 X.1 X.2.1 d_Ha_compress_338 rfl rfl ?_
                    refine q_iald X.1 X.2.1 X.2.2.2.2 Y 1 m_sta e51 rfl (vp_in_nI (by omega) (by omega)) d_Ha_compress_339 ?_
                    refine t_any (fun v191 => ?_)
                    refine lv_iload_n X.1 X.2.1 d_Ha_compress_340 rfl (lv_at hl 5 rfl) ?_
                    refine lv_iadd X.1 X.2.1 d_Ha_compress_341 ?_
                    refine t_any (fun v192 => ?_)
                    refine q_iast X.1 X.2.1 X.2.2.2.2 Y 1 m_sta e51 rfl (vp_in_nI (by omega) (by omega)) d_Ha_compress_342 (fun H locs Y => ?_)
                    generalize (upd g52 ((nI 0)).toNatClampNeg v192) = g193 at Y
                    have e196 : (va_up f45 sta (.inl (E.2.1, 5, .inl g193))) sta = .inl (E.2.1, 5, .inl g193) := q_up
                    have e197 : (va_up f45 sta (.inl (E.2.1, 5, .inl g193))) o = .inr (6, [.ref wd, .ref bl, .ref sta, .ref inn, .ref out, .int (nI fl), .int tot, .ref mac]) := (q_ne (q_tag e47 e51 (show (6 : Nat) ≠ 1000 by decide))).trans e47
                    have e198 : (va_up f45 sta (.inl (E.2.1, 5, .inl g193))) wd = .inl (E.2.1, 80, .inl g49) := (q_ne ap_wd_sta).trans e48
                    have e199 : (va_up f45 sta (.inl (E.2.1, 5, .inl g193))) bl = .inl (E.1, 64, .inl g_bl) := (q_ne ap_bl_sta).trans e50
                    have e200 : (va_up f45 sta (.inl (E.2.1, 5, .inl g193))) inn = .inl (E.2.1, 5, .inl g_inn) := (q_ne ap_sta_inn.symm).trans e53
                    have e201 : (va_up f45 sta (.inl (E.2.1, 5, .inl g193))) out = .inl (E.2.1, 5, .inl g_out) := (q_ne ap_sta_out.symm).trans e54
                    have e202 : (va_up f45 sta (.inl (E.2.1, 5, .inl g193))) mac = .inl (E.1, 20, .inl g_mac) := (q_ne ap_sta_mac.symm).trans e55
                    have hF203 : ∀ x, x ≠ wd → x ≠ sta → (va_up f45 sta (.inl (E.2.1, 5, .inl g193))) x = f x := fun x h0 h1 => (q_ne h1).trans (hF46 x h0 h1)
                    have Y : pH D cCl (pA L sz) s.heap L (va_up f45 sta (.inl (E.2.1, 5, .inl g193))) H locs := Y
                    generalize (va_up f45 sta (.inl (E.2.1, 5, .inl g193))) = f195 at Y e196 e197 e198 e199 e200 e201 e202 hF203
                    refine lv_aload_n X.1 X.2.1 d_Ha_compress_343 rfl (lv_at hl 6 rfl) ?_
                    refine q_get X.1 X.2.1 X.2.2.1 i_Ha X.2.2.2.1 X.2.2.2.2 Y m_o e197 rfl 2 (by decide) (X.2.2.1 _ lk_Ha_17) (fun _ h9 => h9) rfl d_Ha_compress_344 ?_
                    refine lv_iconst (v := (nI 1)) X.1 X.2.1 d_Ha_compress_347 (by decide) ?_
                    refine lv_dup2_11 X.1 X.2.1 d_Ha_compress_348 rfl rfl ?_
                    refine q_iald X.1 X.2.1 X.2.2.2.2 Y 1 m_sta e196 rfl (vp_in_nI (by omega) (by omega)) d_Ha_compress_349 ?_
                    refine t_any (fun v204 => ?_)
                    refine lv_iload_n X.1 X.2.1 d_Ha_compress_350 rfl (lv_at hl 4 rfl) ?_
                    refine lv_iadd X.1 X.2.1 d_Ha_compress_351 ?_
                    refine t_any (fun v205 => ?_)
                    refine q_iast X.1 X.2.1 X.2.2.2.2 Y 1 m_sta e196 rfl (vp_in_nI (by omega) (by omega)) d_Ha_compress_352 (fun H locs Y => ?_)
                    generalize (upd g193 ((nI 1)).toNatClampNeg v205) = g206 at Y
                    have e209 : (va_up f195 sta (.inl (E.2.1, 5, .inl g206))) sta = .inl (E.2.1, 5, .inl g206) := q_up
                    have e210 : (va_up f195 sta (.inl (E.2.1, 5, .inl g206))) o = .inr (6, [.ref wd, .ref bl, .ref sta, .ref inn, .ref out, .int (nI fl), .int tot, .ref mac]) := (q_ne (q_tag e197 e196 (show (6 : Nat) ≠ 1000 by decide))).trans e197
                    have e211 : (va_up f195 sta (.inl (E.2.1, 5, .inl g206))) wd = .inl (E.2.1, 80, .inl g49) := (q_ne ap_wd_sta).trans e198
                    have e212 : (va_up f195 sta (.inl (E.2.1, 5, .inl g206))) bl = .inl (E.1, 64, .inl g_bl) := (q_ne ap_bl_sta).trans e199
                    have e213 : (va_up f195 sta (.inl (E.2.1, 5, .inl g206))) inn = .inl (E.2.1, 5, .inl g_inn) := (q_ne ap_sta_inn.symm).trans e200
                    have e214 : (va_up f195 sta (.inl (E.2.1, 5, .inl g206))) out = .inl (E.2.1, 5, .inl g_out) := (q_ne ap_sta_out.symm).trans e201
                    have e215 : (va_up f195 sta (.inl (E.2.1, 5, .inl g206))) mac = .inl (E.1, 20, .inl g_mac) := (q_ne ap_sta_mac.symm).trans e202
                    have hF216 : ∀ x, x ≠ wd → x ≠ sta → (va_up f195 sta (.inl (E.2.1, 5, .inl g206))) x = f x := fun x h0 h1 => (q_ne h1).trans (hF203 x h0 h1)
                    have Y : pH D cCl (pA L sz) s.heap L (va_up f195 sta (.inl (E.2.1, 5, .inl g206))) H locs := Y
                    generalize (va_up f195 sta (.inl (E.2.1, 5, .inl g206))) = f208 at Y e209 e210 e211 e212 e213 e214 e215 hF216
                    refine lv_aload_n X.1 X.2.1 d_Ha_compress_353 rfl (lv_at hl 6 rfl) ?_
                    refine q_get X.1 X.2.1 X.2.2.1 i_Ha X.2.2.2.1 X.2.2.2.2 Y m_o e210 rfl 2 (by decide) (X.2.2.1 _ lk_Ha_17) (fun _ h9 => h9) rfl d_Ha_compress_354 ?_
                    refine lv_iconst (v := (nI 2)) X.1 X.2.1 d_Ha_compress_357 (by decide) ?_
                    refine lv_dup2_11 X.1 X.2.1 d_Ha_compress_358 rfl rfl ?_
                    refine q_iald X.1 X.2.1 X.2.2.2.2 Y 1 m_sta e209 rfl (vp_in_nI (by omega) (by omega)) d_Ha_compress_359 ?_
                    refine t_any (fun v217 => ?_)
                    refine lv_iload_n X.1 X.2.1 d_Ha_compress_360 rfl (lv_at hl 3 rfl) ?_
                    refine lv_iadd X.1 X.2.1 d_Ha_compress_361 ?_
                    refine t_any (fun v218 => ?_)
                    refine q_iast X.1 X.2.1 X.2.2.2.2 Y 1 m_sta e209 rfl (vp_in_nI (by omega) (by omega)) d_Ha_compress_362 (fun H locs Y => ?_)
                    generalize (upd g206 ((nI 2)).toNatClampNeg v218) = g219 at Y
                    have e222 : (va_up f208 sta (.inl (E.2.1, 5, .inl g219))) sta = .inl (E.2.1, 5, .inl g219) := q_up
                    have e223 : (va_up f208 sta (.inl (E.2.1, 5, .inl g219))) o = .inr (6, [.ref wd, .ref bl, .ref sta, .ref inn, .ref out, .int (nI fl), .int tot, .ref mac]) := (q_ne (q_tag e210 e209 (show (6 : Nat) ≠ 1000 by decide))).trans e210
                    have e224 : (va_up f208 sta (.inl (E.2.1, 5, .inl g219))) wd = .inl (E.2.1, 80, .inl g49) := (q_ne ap_wd_sta).trans e211
                    have e225 : (va_up f208 sta (.inl (E.2.1, 5, .inl g219))) bl = .inl (E.1, 64, .inl g_bl) := (q_ne ap_bl_sta).trans e212
                    have e226 : (va_up f208 sta (.inl (E.2.1, 5, .inl g219))) inn = .inl (E.2.1, 5, .inl g_inn) := (q_ne ap_sta_inn.symm).trans e213
                    have e227 : (va_up f208 sta (.inl (E.2.1, 5, .inl g219))) out = .inl (E.2.1, 5, .inl g_out) := (q_ne ap_sta_out.symm).trans e214
                    have e228 : (va_up f208 sta (.inl (E.2.1, 5, .inl g219))) mac = .inl (E.1, 20, .inl g_mac) := (q_ne ap_sta_mac.symm).trans e215
                    have hF229 : ∀ x, x ≠ wd → x ≠ sta → (va_up f208 sta (.inl (E.2.1, 5, .inl g219))) x = f x := fun x h0 h1 => (q_ne h1).trans (hF216 x h0 h1)
                    have Y : pH D cCl (pA L sz) s.heap L (va_up f208 sta (.inl (E.2.1, 5, .inl g219))) H locs := Y
                    generalize (va_up f208 sta (.inl (E.2.1, 5, .inl g219))) = f221 at Y e222 e223 e224 e225 e226 e227 e228 hF229
                    refine lv_aload_n X.1 X.2.1 d_Ha_compress_363 rfl (lv_at hl 6 rfl) ?_
                    refine q_get X.1 X.2.1 X.2.2.1 i_Ha X.2.2.2.1 X.2.2.2.2 Y m_o e223 rfl 2 (by decide) (X.2.2.1 _ lk_Ha_17) (fun _ h9 => h9) rfl d_Ha_compress_364 ?_
                    refine lv_iconst (v := (nI 3)) X.1 X.2.1 d_Ha_compress_367 (by decide) ?_
                    refine lv_dup2_11 X.1 X.2.1 d_Ha_compress_368 rfl rfl ?_
                    refine q_iald X.1 X.2.1 X.2.2.2.2 Y 1 m_sta e222 rfl (vp_in_nI (by omega) (by omega)) d_Ha_compress_369 ?_
                    refine t_any (fun v230 => ?_)
                    refine lv_iload X.1 X.2.1 d_Ha_compress_370 (lv_at hl 2 rfl) ?_
                    refine lv_iadd X.1 X.2.1 d_Ha_compress_372 ?_
                    refine t_any (fun v231 => ?_)
                    refine q_iast X.1 X.2.1 X.2.2.2.2 Y 1 m_sta e222 rfl (vp_in_nI (by omega) (by omega)) d_Ha_compress_373 (fun H locs Y => ?_)
                    generalize (upd g219 ((nI 3)).toNatClampNeg v231) = g232 at Y
                    have e235 : (va_up f221 sta (.inl (E.2.1, 5, .inl g232))) sta = .inl (E.2.1, 5, .inl g232) := q_up
                    have e236 : (va_up f221 sta (.inl (E.2.1, 5, .inl g232))) o = .inr (6, [.ref wd, .ref bl, .ref sta, .ref inn, .ref out, .int (nI fl), .int tot, .ref mac]) := (q_ne (q_tag e223 e222 (show (6 : Nat) ≠ 1000 by decide))).trans e223
                    have e237 : (va_up f221 sta (.inl (E.2.1, 5, .inl g232))) wd = .inl (E.2.1, 80, .inl g49) := (q_ne ap_wd_sta).trans e224
                    have e238 : (va_up f221 sta (.inl (E.2.1, 5, .inl g232))) bl = .inl (E.1, 64, .inl g_bl) := (q_ne ap_bl_sta).trans e225
                    have e239 : (va_up f221 sta (.inl (E.2.1, 5, .inl g232))) inn = .inl (E.2.1, 5, .inl g_inn) := (q_ne ap_sta_inn.symm).trans e226
                    have e240 : (va_up f221 sta (.inl (E.2.1, 5, .inl g232))) out = .inl (E.2.1, 5, .inl g_out) := (q_ne ap_sta_out.symm).trans e227
                    have e241 : (va_up f221 sta (.inl (E.2.1, 5, .inl g232))) mac = .inl (E.1, 20, .inl g_mac) := (q_ne ap_sta_mac.symm).trans e228
                    have hF242 : ∀ x, x ≠ wd → x ≠ sta → (va_up f221 sta (.inl (E.2.1, 5, .inl g232))) x = f x := fun x h0 h1 => (q_ne h1).trans (hF229 x h0 h1)
                    have Y : pH D cCl (pA L sz) s.heap L (va_up f221 sta (.inl (E.2.1, 5, .inl g232))) H locs := Y
                    generalize (va_up f221 sta (.inl (E.2.1, 5, .inl g232))) = f234 at Y e235 e236 e237 e238 e239 e240 e241 hF242
                    refine lv_aload_n X.1 X.2.1 d_Ha_compress_374 rfl (lv_at hl 6 rfl) ?_
                    refine q_get X.1 X.2.1 X.2.2.1 i_Ha X.2.2.2.1 X.2.2.2.2 Y m_o e236 rfl 2 (by decide) (X.2.2.1 _ lk_Ha_17) (fun _ h9 => h9) rfl d_Ha_compress_375 ?_
                    refine lv_iconst (v := (nI 4)) X.1 X.2.1 d_Ha_compress_378 (by decide) ?_
                    refine lv_dup2_11 X.1 X.2.1 d_Ha_compress_379 rfl rfl ?_
                    refine q_iald X.1 X.2.1 X.2.2.2.2 Y 1 m_sta e235 rfl (vp_in_nI (by omega) (by omega)) d_Ha_compress_380 ?_
                    refine t_any (fun v243 => ?_)
                    refine lv_iload X.1 X.2.1 d_Ha_compress_381 (lv_at hl 1 rfl) ?_
                    refine lv_iadd X.1 X.2.1 d_Ha_compress_383 ?_
                    refine t_any (fun v244 => ?_)
                    refine q_iast X.1 X.2.1 X.2.2.2.2 Y 1 m_sta e235 rfl (vp_in_nI (by omega) (by omega)) d_Ha_compress_384 (fun H locs Y => ?_)
                    generalize (upd g232 ((nI 4)).toNatClampNeg v244) = g245 at Y
                    have e248 : (va_up f234 sta (.inl (E.2.1, 5, .inl g245))) sta = .inl (E.2.1, 5, .inl g245) := q_up
                    have e249 : (va_up f234 sta (.inl (E.2.1, 5, .inl g245))) o = .inr (6, [.ref wd, .ref bl, .ref sta, .ref inn, .ref out, .int (nI fl), .int tot, .ref mac]) := (q_ne (q_tag e236 e235 (show (6 : Nat) ≠ 1000 by decide))).trans e236
                    have e250 : (va_up f234 sta (.inl (E.2.1, 5, .inl g245))) wd = .inl (E.2.1, 80, .inl g49) := (q_ne ap_wd_sta).trans e237
                    have e251 : (va_up f234 sta (.inl (E.2.1, 5, .inl g245))) bl = .inl (E.1, 64, .inl g_bl) := (q_ne ap_bl_sta).trans e238
                    have e252 : (va_up f234 sta (.inl (E.2.1, 5, .inl g245))) inn = .inl (E.2.1, 5, .inl g_inn) := (q_ne ap_sta_inn.symm).trans e239
                    have e253 : (va_up f234 sta (.inl (E.2.1, 5, .inl g245))) out = .inl (E.2.1, 5, .inl g_out) := (q_ne ap_sta_out.symm).trans e240
                    have e254 : (va_up f234 sta (.inl (E.2.1, 5, .inl g245))) mac = .inl (E.1, 20, .inl g_mac) := (q_ne ap_sta_mac.symm).trans e241
                    have hF255 : ∀ x, x ≠ wd → x ≠ sta → (va_up f234 sta (.inl (E.2.1, 5, .inl g245))) x = f x := fun x h0 h1 => (q_ne h1).trans (hF242 x h0 h1)
                    have Y : pH D cCl (pA L sz) s.heap L (va_up f234 sta (.inl (E.2.1, 5, .inl g245))) H locs := Y
                    generalize (va_up f234 sta (.inl (E.2.1, 5, .inl g245))) = f247 at Y e248 e249 e250 e251 e252 e253 e254 hF255
                    exact c_retv hQQ X Y hr hlk ⟨rfl, hF255, g49, g245, e250, e248⟩ d_Ha_compress_385
                  · skip
                    rw [nI_leI (by omega) (by omega)] at c190
                    refine lv_iload X.1 X.2.1 d_Ha_compress_197 (lv_at hl 0 rfl) ?_
                    refine lv_bipush (v := (nI 20)) X.1 X.2.1 d_Ha_compress_199 (by decide) ?_
                    refine lv_icmp_ge (tgt := 222) X.1 X.2.1 d_Ha_compress_201 (by decide) (fun c256 => ?_) (fun c256 => ?_)
                    · skip
                      rw [nI_leI (by omega) (by omega)] at c256
                      refine lv_iload X.1 X.2.1 d_Ha_compress_222 (lv_at hl 0 rfl) ?_
                      refine lv_bipush (v := (nI 40)) X.1 X.2.1 d_Ha_compress_224 (by decide) ?_
                      refine lv_icmp_ge (tgt := 243) X.1 X.2.1 d_Ha_compress_226 (by decide) (fun c257 => ?_) (fun c257 => ?_)
                      · skip
                        rw [nI_leI (by omega) (by omega)] at c257
                        refine lv_iload X.1 X.2.1 d_Ha_compress_243 (lv_at hl 0 rfl) ?_
                        refine lv_bipush (v := (nI 60)) X.1 X.2.1 d_Ha_compress_245 (by decide) ?_
                        refine lv_icmp_ge (tgt := 271) X.1 X.2.1 d_Ha_compress_247 (by decide) (fun c258 => ?_) (fun c258 => ?_)
                        · skip
                          rw [nI_leI (by omega) (by omega)] at c258
                          refine lv_iload_n X.1 X.2.1 d_Ha_compress_271 rfl (lv_at hl 4 rfl) ?_
                          refine lv_iload_n X.1 X.2.1 d_Ha_compress_272 rfl (lv_at hl 3 rfl) ?_
                          refine lv_ixor X.1 X.2.1 d_Ha_compress_273 ?_
                          refine t_any (fun v259 => ?_)
                          refine lv_iload X.1 X.2.1 d_Ha_compress_274 (lv_at hl 2 rfl) ?_
                          refine lv_ixor X.1 X.2.1 d_Ha_compress_276 ?_
                          refine t_any (fun v260 => ?_)
                          refine lv_ldc (v := (-899497514)) X.1 X.2.1 X.2.2.2.1 (X.2.2.1 _ cn_Ha_60) d_Ha_compress_277 ?_
                          refine lv_iadd X.1 X.2.1 d_Ha_compress_279 ?_
                          refine t_any (fun v261 => ?_)
                          refine lv_istore (lv' := [(7, .int v261), (6, .int (nI i)), (5, .int x60), (4, .int x59), (3, .int x58), (2, .int x57), (1, .int x56), (0, .ref o)]) X.1 X.2.1 d_Ha_compress_280 hl (by decide) rfl (fun ls hl => ?_)
                          refine lv_iload_n X.1 X.2.1 d_Ha_compress_282 rfl (lv_at hl 6 rfl) ?_
                          refine lv_iconst (v := (nI 5)) X.1 X.2.1 d_Ha_compress_283 (by decide) ?_
                          refine lv_ishl X.1 X.2.1 d_Ha_compress_284 ?_
                          refine t_any (fun v262 => ?_)
                          refine lv_iload_n X.1 X.2.1 d_Ha_compress_285 rfl (lv_at hl 6 rfl) ?_
                          refine lv_bipush (v := (nI 27)) X.1 X.2.1 d_Ha_compress_286 (by decide) ?_
                          obtain ⟨v263, ev263⟩ : ∃ z : Int32, ((x56 : Int32).toUInt32 >>> (((nI 27) : Int32).toUInt32 &&& Int32.toUInt32 31)).toInt32 = z := ⟨_, rfl⟩
                          refine lv_iushr (v := v263) X.1 X.2.1 d_Ha_compress_288 ev263 ?_
                          refine lv_ior X.1 X.2.1 d_Ha_compress_289 ?_
                          refine t_any (fun v264 => ?_)
                          refine lv_iload X.1 X.2.1 d_Ha_compress_290 (lv_at hl 0 rfl) ?_
                          refine lv_iadd X.1 X.2.1 d_Ha_compress_292 ?_
                          refine t_any (fun v265 => ?_)
                          refine lv_iload X.1 X.2.1 d_Ha_compress_293 (lv_at hl 2 rfl) ?_
                          refine lv_iadd X.1 X.2.1 d_Ha_compress_295 ?_
                          refine t_any (fun v266 => ?_)
                          refine lv_aload_n X.1 X.2.1 d_Ha_compress_296 rfl (lv_at hl 7 rfl) ?_
                          refine q_get X.1 X.2.1 X.2.2.1 i_Ha X.2.2.2.1 X.2.2.2.2 Y m_o e47 rfl 0 (by decide) (X.2.2.1 _ lk_Ha_7) (fun _ h9 => h9) rfl d_Ha_compress_297 ?_
                          refine lv_iload X.1 X.2.1 d_Ha_compress_300 (lv_at hl 1 rfl) ?_
                          refine q_iald X.1 X.2.1 X.2.2.2.2 Y 1 m_wd e48 rfl (vp_in_nI (by omega) (by omega)) d_Ha_compress_302 ?_
                          refine t_any (fun v267 => ?_)
                          refine lv_iadd X.1 X.2.1 d_Ha_compress_303 ?_
                          refine t_any (fun v268 => ?_)
                          refine lv_istore (lv' := [(8, .int v268), (7, .int v261), (6, .int (nI i)), (5, .int x60), (4, .int x59), (3, .int x58), (2, .int x57), (1, .int x56), (0, .ref o)]) X.1 X.2.1 d_Ha_compress_304 hl (by decide) rfl (fun ls hl => ?_)
                          refine lv_iload X.1 X.2.1 d_Ha_compress_306 (lv_at hl 4 rfl) ?_
                          refine lv_istore (lv' := [(5, .int x59), (8, .int v268), (7, .int v261), (6, .int (nI i)), (4, .int x59), (3, .int x58), (2, .int x57), (1, .int x56), (0, .ref o)]) X.1 X.2.1 d_Ha_compress_308 hl (by decide) rfl (fun ls hl => ?_)
                          refine lv_iload_n X.1 X.2.1 d_Ha_compress_310 rfl (lv_at hl 5 rfl) ?_
                          refine lv_istore (lv' := [(4, .int x58), (5, .int x59), (8, .int v268), (7, .int v261), (6, .int (nI i)), (3, .int x58), (2, .int x57), (1, .int x56), (0, .ref o)]) X.1 X.2.1 d_Ha_compress_311 hl (by decide) rfl (fun ls hl => ?_)
                          refine lv_iload_n X.1 X.2.1 d_Ha_compress_313 rfl (lv_at hl 6 rfl) ?_
                          refine lv_bipush (v := (nI 30)) X.1 X.2.1 d_Ha_compress_314 (by decide) ?_
                          refine lv_ishl X.1 X.2.1 d_Ha_compress_316 ?_
                          refine t_any (fun v269 => ?_)
                          refine lv_iload_n X.1 X.2.1 d_Ha_compress_317 rfl (lv_at hl 6 rfl) ?_
                          refine lv_iconst (v := (nI 2)) X.1 X.2.1 d_Ha_compress_318 (by decide) ?_
                          obtain ⟨v270, ev270⟩ : ∃ z : Int32, ((x57 : Int32).toUInt32 >>> (((nI 2) : Int32).toUInt32 &&& Int32.toUInt32 31)).toInt32 = z := ⟨_, rfl⟩
                          refine lv_iushr (v := v270) X.1 X.2.1 d_Ha_compress_319 ev270 ?_
                          refine lv_ior X.1 X.2.1 d_Ha_compress_320 ?_
                          refine t_any (fun v271 => ?_)
                          refine lv_istore_n (lv' := [(3, .int v271), (4, .int x58), (5, .int x59), (8, .int v268), (7, .int v261), (6, .int (nI i)), (2, .int x57), (1, .int x56), (0, .ref o)]) X.1 X.2.1 d_Ha_compress_321 rfl hl (by decide) rfl (fun ls hl => ?_)
                          refine lv_iload_n X.1 X.2.1 d_Ha_compress_322 rfl (lv_at hl 7 rfl) ?_
                          refine lv_istore_n (lv' := [(2, .int x56), (3, .int v271), (4, .int x58), (5, .int x59), (8, .int v268), (7, .int v261), (6, .int (nI i)), (1, .int x56), (0, .ref o)]) X.1 X.2.1 d_Ha_compress_323 rfl hl (by decide) rfl (fun ls hl => ?_)
                          refine lv_iload X.1 X.2.1 d_Ha_compress_324 (lv_at hl 4 rfl) ?_
                          refine lv_istore_n (lv' := [(1, .int v268), (2, .int x56), (3, .int v271), (4, .int x58), (5, .int x59), (8, .int v268), (7, .int v261), (6, .int (nI i)), (0, .ref o)]) X.1 X.2.1 d_Ha_compress_326 rfl hl (by decide) rfl (fun ls hl => ?_)
                          refine lv_iinc (v := (nI (i + 1))) (lv' := [(6, .int (nI (i + 1))), (1, .int v268), (2, .int x56), (3, .int v271), (4, .int x58), (5, .int x59), (8, .int v268), (7, .int v261), (0, .ref o)]) X.1 X.2.1 d_Ha_compress_327 hl (k := 7) rfl (nI_add _ 1) (by decide) rfl (fun ls hl => ?_)
                          refine lv_goto (tgt := 190) X.1 X.2.1 d_Ha_compress_330 (by decide) ?_
                          exact ih44  (i + 1)  (v268) (x56) (v271) (x58) (x59) g49 g52 f45 _ _ _ (by omega) (by omega) (by omega)  e47 e48 e50 e51 e53 e54 e55 hF46 Y (lv_sub hl [0, 5, 4, 3, 2, 1, 8] rfl)
                        · skip
                          rw [nI_leI (by omega) (by omega)] at c258
                          refine lv_iload_n X.1 X.2.1 d_Ha_compress_250 rfl (lv_at hl 4 rfl) ?_
                          refine lv_iload_n X.1 X.2.1 d_Ha_compress_251 rfl (lv_at hl 3 rfl) ?_
                          refine lv_iand X.1 X.2.1 d_Ha_compress_252 ?_
                          refine t_any (fun v272 => ?_)
                          refine lv_iload_n X.1 X.2.1 d_Ha_compress_253 rfl (lv_at hl 4 rfl) ?_
                          refine lv_iload X.1 X.2.1 d_Ha_compress_254 (lv_at hl 2 rfl) ?_
                          refine lv_iand X.1 X.2.1 d_Ha_compress_256 ?_
                          refine t_any (fun v273 => ?_)
                          refine lv_ior X.1 X.2.1 d_Ha_compress_257 ?_
                          refine t_any (fun v274 => ?_)
                          refine lv_iload_n X.1 X.2.1 d_Ha_compress_258 rfl (lv_at hl 3 rfl) ?_
                          refine lv_iload X.1 X.2.1 d_Ha_compress_259 (lv_at hl 2 rfl) ?_
                          refine lv_iand X.1 X.2.1 d_Ha_compress_261 ?_
                          refine t_any (fun v275 => ?_)
                          refine lv_ior X.1 X.2.1 d_Ha_compress_262 ?_
                          refine t_any (fun v276 => ?_)
                          refine lv_ldc (v := (-1894007588)) X.1 X.2.1 X.2.2.2.1 (X.2.2.1 _ cn_Ha_59) d_Ha_compress_263 ?_
                          refine lv_iadd X.1 X.2.1 d_Ha_compress_265 ?_
                          refine t_any (fun v277 => ?_)
                          refine lv_istore (lv' := [(7, .int v277), (6, .int (nI i)), (5, .int x60), (4, .int x59), (3, .int x58), (2, .int x57), (1, .int x56), (0, .ref o)]) X.1 X.2.1 d_Ha_compress_266 hl (by decide) rfl (fun ls hl => ?_)
                          refine lv_goto (tgt := 282) X.1 X.2.1 d_Ha_compress_268 (by decide) ?_
                          refine lv_iload_n X.1 X.2.1 d_Ha_compress_282 rfl (lv_at hl 6 rfl) ?_
                          refine lv_iconst (v := (nI 5)) X.1 X.2.1 d_Ha_compress_283 (by decide) ?_
                          refine lv_ishl X.1 X.2.1 d_Ha_compress_284 ?_
                          refine t_any (fun v278 => ?_)
                          refine lv_iload_n X.1 X.2.1 d_Ha_compress_285 rfl (lv_at hl 6 rfl) ?_
                          refine lv_bipush (v := (nI 27)) X.1 X.2.1 d_Ha_compress_286 (by decide) ?_
                          obtain ⟨v279, ev279⟩ : ∃ z : Int32, ((x56 : Int32).toUInt32 >>> (((nI 27) : Int32).toUInt32 &&& Int32.toUInt32 31)).toInt32 = z := ⟨_, rfl⟩
                          refine lv_iushr (v := v279) X.1 X.2.1 d_Ha_compress_288 ev279 ?_
                          refine lv_ior X.1 X.2.1 d_Ha_compress_289 ?_
                          refine t_any (fun v280 => ?_)
                          refine lv_iload X.1 X.2.1 d_Ha_compress_290 (lv_at hl 0 rfl) ?_
                          refine lv_iadd X.1 X.2.1 d_Ha_compress_292 ?_
                          refine t_any (fun v281 => ?_)
                          refine lv_iload X.1 X.2.1 d_Ha_compress_293 (lv_at hl 2 rfl) ?_
                          refine lv_iadd X.1 X.2.1 d_Ha_compress_295 ?_
                          refine t_any (fun v282 => ?_)
                          refine lv_aload_n X.1 X.2.1 d_Ha_compress_296 rfl (lv_at hl 7 rfl) ?_
                          refine q_get X.1 X.2.1 X.2.2.1 i_Ha X.2.2.2.1 X.2.2.2.2 Y m_o e47 rfl 0 (by decide) (X.2.2.1 _ lk_Ha_7) (fun _ h9 => h9) rfl d_Ha_compress_297 ?_
                          refine lv_iload X.1 X.2.1 d_Ha_compress_300 (lv_at hl 1 rfl) ?_
                          refine q_iald X.1 X.2.1 X.2.2.2.2 Y 1 m_wd e48 rfl (vp_in_nI (by omega) (by omega)) d_Ha_compress_302 ?_
                          refine t_any (fun v283 => ?_)
                          refine lv_iadd X.1 X.2.1 d_Ha_compress_303 ?_
                          refine t_any (fun v284 => ?_)
                          refine lv_istore (lv' := [(8, .int v284), (7, .int v277), (6, .int (nI i)), (5, .int x60), (4, .int x59), (3, .int x58), (2, .int x57), (1, .int x56), (0, .ref o)]) X.1 X.2.1 d_Ha_compress_304 hl (by decide) rfl (fun ls hl => ?_)
                          refine lv_iload X.1 X.2.1 d_Ha_compress_306 (lv_at hl 4 rfl) ?_
                          refine lv_istore (lv' := [(5, .int x59), (8, .int v284), (7, .int v277), (6, .int (nI i)), (4, .int x59), (3, .int x58), (2, .int x57), (1, .int x56), (0, .ref o)]) X.1 X.2.1 d_Ha_compress_308 hl (by decide) rfl (fun ls hl => ?_)
                          refine lv_iload_n X.1 X.2.1 d_Ha_compress_310 rfl (lv_at hl 5 rfl) ?_
                          refine lv_istore (lv' := [(4, .int x58), (5, .int x59), (8, .int v284), (7, .int v277), (6, .int (nI i)), (3, .int x58), (2, .int x57), (1, .int x56), (0, .ref o)]) X.1 X.2.1 d_Ha_compress_311 hl (by decide) rfl (fun ls hl => ?_)
                          refine lv_iload_n X.1 X.2.1 d_Ha_compress_313 rfl (lv_at hl 6 rfl) ?_
                          refine lv_bipush (v := (nI 30)) X.1 X.2.1 d_Ha_compress_314 (by decide) ?_
                          refine lv_ishl X.1 X.2.1 d_Ha_compress_316 ?_
                          refine t_any (fun v285 => ?_)
                          refine lv_iload_n X.1 X.2.1 d_Ha_compress_317 rfl (lv_at hl 6 rfl) ?_
                          refine lv_iconst (v := (nI 2)) X.1 X.2.1 d_Ha_compress_318 (by decide) ?_
                          obtain ⟨v286, ev286⟩ : ∃ z : Int32, ((x57 : Int32).toUInt32 >>> (((nI 2) : Int32).toUInt32 &&& Int32.toUInt32 31)).toInt32 = z := ⟨_, rfl⟩
                          refine lv_iushr (v := v286) X.1 X.2.1 d_Ha_compress_319 ev286 ?_
                          refine lv_ior X.1 X.2.1 d_Ha_compress_320 ?_
                          refine t_any (fun v287 => ?_)
                          refine lv_istore_n (lv' := [(3, .int v287), (4, .int x58), (5, .int x59), (8, .int v284), (7, .int v277), (6, .int (nI i)), (2, .int x57), (1, .int x56), (0, .ref o)]) X.1 X.2.1 d_Ha_compress_321 rfl hl (by decide) rfl (fun ls hl => ?_)
                          refine lv_iload_n X.1 X.2.1 d_Ha_compress_322 rfl (lv_at hl 7 rfl) ?_
                          refine lv_istore_n (lv' := [(2, .int x56), (3, .int v287), (4, .int x58), (5, .int x59), (8, .int v284), (7, .int v277), (6, .int (nI i)), (1, .int x56), (0, .ref o)]) X.1 X.2.1 d_Ha_compress_323 rfl hl (by decide) rfl (fun ls hl => ?_)
                          refine lv_iload X.1 X.2.1 d_Ha_compress_324 (lv_at hl 4 rfl) ?_
                          refine lv_istore_n (lv' := [(1, .int v284), (2, .int x56), (3, .int v287), (4, .int x58), (5, .int x59), (8, .int v284), (7, .int v277), (6, .int (nI i)), (0, .ref o)]) X.1 X.2.1 d_Ha_compress_326 rfl hl (by decide) rfl (fun ls hl => ?_)
                          refine lv_iinc (v := (nI (i + 1))) (lv' := [(6, .int (nI (i + 1))), (1, .int v284), (2, .int x56), (3, .int v287), (4, .int x58), (5, .int x59), (8, .int v284), (7, .int v277), (0, .ref o)]) X.1 X.2.1 d_Ha_compress_327 hl (k := 7) rfl (nI_add _ 1) (by decide) rfl (fun ls hl => ?_)
                          refine lv_goto (tgt := 190) X.1 X.2.1 d_Ha_compress_330 (by decide) ?_
                          exact ih44  (i + 1)  (v284) (x56) (v287) (x58) (x59) g49 g52 f45 _ _ _ (by omega) (by omega) (by omega)  e47 e48 e50 e51 e53 e54 e55 hF46 Y (lv_sub hl [0, 5, 4, 3, 2, 1, 8] rfl)
                      · skip
                        rw [nI_leI (by omega) (by omega)] at c257
                        refine lv_iload_n X.1 X.2.1 d_Ha_compress_229 rfl (lv_at hl 4 rfl) ?_
                        refine lv_iload_n X.1 X.2.1 d_Ha_compress_230 rfl (lv_at hl 3 rfl) ?_
                        refine lv_ixor X.1 X.2.1 d_Ha_compress_231 ?_
                        refine t_any (fun v288 => ?_)
                        refine lv_iload X.1 X.2.1 d_Ha_compress_232 (lv_at hl 2 rfl) ?_
                        refine lv_ixor X.1 X.2.1 d_Ha_compress_234 ?_
                        refine t_any (fun v289 => ?_)
                        refine lv_ldc (v := (1859775393)) X.1 X.2.1 X.2.2.2.1 (X.2.2.1 _ cn_Ha_58) d_Ha_compress_235 ?_
                        refine t_eq (y := nI 1859775393) (by decide) ?_
                        refine lv_iadd X.1 X.2.1 d_Ha_compress_237 ?_
                        refine t_any (fun v290 => ?_)
                        refine lv_istore (lv' := [(7, .int v290), (6, .int (nI i)), (5, .int x60), (4, .int x59), (3, .int x58), (2, .int x57), (1, .int x56), (0, .ref o)]) X.1 X.2.1 d_Ha_compress_238 hl (by decide) rfl (fun ls hl => ?_)
                        refine lv_goto (tgt := 282) X.1 X.2.1 d_Ha_compress_240 (by decide) ?_
                        refine lv_iload_n X.1 X.2.1 d_Ha_compress_282 rfl (lv_at hl 6 rfl) ?_
                        refine lv_iconst (v := (nI 5)) X.1 X.2.1 d_Ha_compress_283 (by decide) ?_
                        refine lv_ishl X.1 X.2.1 d_Ha_compress_284 ?_
                        refine t_any (fun v291 => ?_)
                        refine lv_iload_n X.1 X.2.1 d_Ha_compress_285 rfl (lv_at hl 6 rfl) ?_
                        refine lv_bipush (v := (nI 27)) X.1 X.2.1 d_Ha_compress_286 (by decide) ?_
                        obtain ⟨v292, ev292⟩ : ∃ z : Int32, ((x56 : Int32).toUInt32 >>> (((nI 27) : Int32).toUInt32 &&& Int32.toUInt32 31)).toInt32 = z := ⟨_, rfl⟩
                        refine lv_iushr (v := v292) X.1 X.2.1 d_Ha_compress_288 ev292 ?_
                        refine lv_ior X.1 X.2.1 d_Ha_compress_289 ?_
                        refine t_any (fun v293 => ?_)
                        refine lv_iload X.1 X.2.1 d_Ha_compress_290 (lv_at hl 0 rfl) ?_
                        refine lv_iadd X.1 X.2.1 d_Ha_compress_292 ?_
                        refine t_any (fun v294 => ?_)
                        refine lv_iload X.1 X.2.1 d_Ha_compress_293 (lv_at hl 2 rfl) ?_
                        refine lv_iadd X.1 X.2.1 d_Ha_compress_295 ?_
                        refine t_any (fun v295 => ?_)
                        refine lv_aload_n X.1 X.2.1 d_Ha_compress_296 rfl (lv_at hl 7 rfl) ?_
                        refine q_get X.1 X.2.1 X.2.2.1 i_Ha X.2.2.2.1 X.2.2.2.2 Y m_o e47 rfl 0 (by decide) (X.2.2.1 _ lk_Ha_7) (fun _ h9 => h9) rfl d_Ha_compress_297 ?_
                        refine lv_iload X.1 X.2.1 d_Ha_compress_300 (lv_at hl 1 rfl) ?_
                        refine q_iald X.1 X.2.1 X.2.2.2.2 Y 1 m_wd e48 rfl (vp_in_nI (by omega) (by omega)) d_Ha_compress_302 ?_
                        refine t_any (fun v296 => ?_)
                        refine lv_iadd X.1 X.2.1 d_Ha_compress_303 ?_
                        refine t_any (fun v297 => ?_)
                        refine lv_istore (lv' := [(8, .int v297), (7, .int v290), (6, .int (nI i)), (5, .int x60), (4, .int x59), (3, .int x58), (2, .int x57), (1, .int x56), (0, .ref o)]) X.1 X.2.1 d_Ha_compress_304 hl (by decide) rfl (fun ls hl => ?_)
                        refine lv_iload X.1 X.2.1 d_Ha_compress_306 (lv_at hl 4 rfl) ?_
                        refine lv_istore (lv' := [(5, .int x59), (8, .int v297), (7, .int v290), (6, .int (nI i)), (4, .int x59), (3, .int x58), (2, .int x57), (1, .int x56), (0, .ref o)]) X.1 X.2.1 d_Ha_compress_308 hl (by decide) rfl (fun ls hl => ?_)
                        refine lv_iload_n X.1 X.2.1 d_Ha_compress_310 rfl (lv_at hl 5 rfl) ?_
                        refine lv_istore (lv' := [(4, .int x58), (5, .int x59), (8, .int v297), (7, .int v290), (6, .int (nI i)), (3, .int x58), (2, .int x57), (1, .int x56), (0, .ref o)]) X.1 X.2.1 d_Ha_compress_311 hl (by decide) rfl (fun ls hl => ?_)
                        refine lv_iload_n X.1 X.2.1 d_Ha_compress_313 rfl (lv_at hl 6 rfl) ?_
                        refine lv_bipush (v := (nI 30)) X.1 X.2.1 d_Ha_compress_314 (by decide) ?_
                        refine lv_ishl X.1 X.2.1 d_Ha_compress_316 ?_
                        refine t_any (fun v298 => ?_)
                        refine lv_iload_n X.1 X.2.1 d_Ha_compress_317 rfl (lv_at hl 6 rfl) ?_
                        refine lv_iconst (v := (nI 2)) X.1 X.2.1 d_Ha_compress_318 (by decide) ?_
                        obtain ⟨v299, ev299⟩ : ∃ z : Int32, ((x57 : Int32).toUInt32 >>> (((nI 2) : Int32).toUInt32 &&& Int32.toUInt32 31)).toInt32 = z := ⟨_, rfl⟩
                        refine lv_iushr (v := v299) X.1 X.2.1 d_Ha_compress_319 ev299 ?_
                        refine lv_ior X.1 X.2.1 d_Ha_compress_320 ?_
                        refine t_any (fun v300 => ?_)
                        refine lv_istore_n (lv' := [(3, .int v300), (4, .int x58), (5, .int x59), (8, .int v297), (7, .int v290), (6, .int (nI i)), (2, .int x57), (1, .int x56), (0, .ref o)]) X.1 X.2.1 d_Ha_compress_321 rfl hl (by decide) rfl (fun ls hl => ?_)
                        refine lv_iload_n X.1 X.2.1 d_Ha_compress_322 rfl (lv_at hl 7 rfl) ?_
                        refine lv_istore_n (lv' := [(2, .int x56), (3, .int v300), (4, .int x58), (5, .int x59), (8, .int v297), (7, .int v290), (6, .int (nI i)), (1, .int x56), (0, .ref o)]) X.1 X.2.1 d_Ha_compress_323 rfl hl (by decide) rfl (fun ls hl => ?_)
                        refine lv_iload X.1 X.2.1 d_Ha_compress_324 (lv_at hl 4 rfl) ?_
                        refine lv_istore_n (lv' := [(1, .int v297), (2, .int x56), (3, .int v300), (4, .int x58), (5, .int x59), (8, .int v297), (7, .int v290), (6, .int (nI i)), (0, .ref o)]) X.1 X.2.1 d_Ha_compress_326 rfl hl (by decide) rfl (fun ls hl => ?_)
                        refine lv_iinc (v := (nI (i + 1))) (lv' := [(6, .int (nI (i + 1))), (1, .int v297), (2, .int x56), (3, .int v300), (4, .int x58), (5, .int x59), (8, .int v297), (7, .int v290), (0, .ref o)]) X.1 X.2.1 d_Ha_compress_327 hl (k := 7) rfl (nI_add _ 1) (by decide) rfl (fun ls hl => ?_)
                        refine lv_goto (tgt := 190) X.1 X.2.1 d_Ha_compress_330 (by decide) ?_
                        exact ih44  (i + 1)  (v297) (x56) (v300) (x58) (x59) g49 g52 f45 _ _ _ (by omega) (by omega) (by omega)  e47 e48 e50 e51 e53 e54 e55 hF46 Y (lv_sub hl [0, 5, 4, 3, 2, 1, 8] rfl)
                    · skip
                      rw [nI_leI (by omega) (by omega)] at c256
                      refine lv_iload_n X.1 X.2.1 d_Ha_compress_204 rfl (lv_at hl 4 rfl) ?_
                      refine lv_iload_n X.1 X.2.1 d_Ha_compress_205 rfl (lv_at hl 3 rfl) ?_
                      refine lv_iand X.1 X.2.1 d_Ha_compress_206 ?_
                      refine t_any (fun v301 => ?_)
                      refine lv_iload_n X.1 X.2.1 d_Ha_compress_207 rfl (lv_at hl 4 rfl) ?_
                      refine lv_iconst (v := (-1)) X.1 X.2.1 d_Ha_compress_208 (by decide) ?_
                      refine lv_ixor X.1 X.2.1 d_Ha_compress_209 ?_
                      refine t_any (fun v302 => ?_)
                      refine lv_iload X.1 X.2.1 d_Ha_compress_210 (lv_at hl 2 rfl) ?_
                      refine lv_iand X.1 X.2.1 d_Ha_compress_212 ?_
                      refine t_any (fun v303 => ?_)
                      refine lv_ior X.1 X.2.1 d_Ha_compress_213 ?_
                      refine t_any (fun v304 => ?_)
                      refine lv_ldc (v := (1518500249)) X.1 X.2.1 X.2.2.2.1 (X.2.2.1 _ cn_Ha_57) d_Ha_compress_214 ?_
                      refine t_eq (y := nI 1518500249) (by decide) ?_
                      refine lv_iadd X.1 X.2.1 d_Ha_compress_216 ?_
                      refine t_any (fun v305 => ?_)
                      refine lv_istore (lv' := [(7, .int v305), (6, .int (nI i)), (5, .int x60), (4, .int x59), (3, .int x58), (2, .int x57), (1, .int x56), (0, .ref o)]) X.1 X.2.1 d_Ha_compress_217 hl (by decide) rfl (fun ls hl => ?_)
                      refine lv_goto (tgt := 282) X.1 X.2.1 d_Ha_compress_219 (by decide) ?_
                      refine lv_iload_n X.1 X.2.1 d_Ha_compress_282 rfl (lv_at hl 6 rfl) ?_
                      refine lv_iconst (v := (nI 5)) X.1 X.2.1 d_Ha_compress_283 (by decide) ?_
                      refine lv_ishl X.1 X.2.1 d_Ha_compress_284 ?_
                      refine t_any (fun v306 => ?_)
                      refine lv_iload_n X.1 X.2.1 d_Ha_compress_285 rfl (lv_at hl 6 rfl) ?_
                      refine lv_bipush (v := (nI 27)) X.1 X.2.1 d_Ha_compress_286 (by decide) ?_
                      obtain ⟨v307, ev307⟩ : ∃ z : Int32, ((x56 : Int32).toUInt32 >>> (((nI 27) : Int32).toUInt32 &&& Int32.toUInt32 31)).toInt32 = z := ⟨_, rfl⟩
                      refine lv_iushr (v := v307) X.1 X.2.1 d_Ha_compress_288 ev307 ?_
                      refine lv_ior X.1 X.2.1 d_Ha_compress_289 ?_
                      refine t_any (fun v308 => ?_)
                      refine lv_iload X.1 X.2.1 d_Ha_compress_290 (lv_at hl 0 rfl) ?_
                      refine lv_iadd X.1 X.2.1 d_Ha_compress_292 ?_
                      refine t_any (fun v309 => ?_)
                      refine lv_iload X.1 X.2.1 d_Ha_compress_293 (lv_at hl 2 rfl) ?_
                      refine lv_iadd X.1 X.2.1 d_Ha_compress_295 ?_
                      refine t_any (fun v310 => ?_)
                      refine lv_aload_n X.1 X.2.1 d_Ha_compress_296 rfl (lv_at hl 7 rfl) ?_
                      refine q_get X.1 X.2.1 X.2.2.1 i_Ha X.2.2.2.1 X.2.2.2.2 Y m_o e47 rfl 0 (by decide) (X.2.2.1 _ lk_Ha_7) (fun _ h9 => h9) rfl d_Ha_compress_297 ?_
                      refine lv_iload X.1 X.2.1 d_Ha_compress_300 (lv_at hl 1 rfl) ?_
                      refine q_iald X.1 X.2.1 X.2.2.2.2 Y 1 m_wd e48 rfl (vp_in_nI (by omega) (by omega)) d_Ha_compress_302 ?_
                      refine t_any (fun v311 => ?_)
                      refine lv_iadd X.1 X.2.1 d_Ha_compress_303 ?_
                      refine t_any (fun v312 => ?_)
                      refine lv_istore (lv' := [(8, .int v312), (7, .int v305), (6, .int (nI i)), (5, .int x60), (4, .int x59), (3, .int x58), (2, .int x57), (1, .int x56), (0, .ref o)]) X.1 X.2.1 d_Ha_compress_304 hl (by decide) rfl (fun ls hl => ?_)
                      refine lv_iload X.1 X.2.1 d_Ha_compress_306 (lv_at hl 4 rfl) ?_
                      refine lv_istore (lv' := [(5, .int x59), (8, .int v312), (7, .int v305), (6, .int (nI i)), (4, .int x59), (3, .int x58), (2, .int x57), (1, .int x56), (0, .ref o)]) X.1 X.2.1 d_Ha_compress_308 hl (by decide) rfl (fun ls hl => ?_)
                      refine lv_iload_n X.1 X.2.1 d_Ha_compress_310 rfl (lv_at hl 5 rfl) ?_
                      refine lv_istore (lv' := [(4, .int x58), (5, .int x59), (8, .int v312), (7, .int v305), (6, .int (nI i)), (3, .int x58), (2, .int x57), (1, .int x56), (0, .ref o)]) X.1 X.2.1 d_Ha_compress_311 hl (by decide) rfl (fun ls hl => ?_)
                      refine lv_iload_n X.1 X.2.1 d_Ha_compress_313 rfl (lv_at hl 6 rfl) ?_
                      refine lv_bipush (v := (nI 30)) X.1 X.2.1 d_Ha_compress_314 (by decide) ?_
                      refine lv_ishl X.1 X.2.1 d_Ha_compress_316 ?_
                      refine t_any (fun v313 => ?_)
                      refine lv_iload_n X.1 X.2.1 d_Ha_compress_317 rfl (lv_at hl 6 rfl) ?_
                      refine lv_iconst (v := (nI 2)) X.1 X.2.1 d_Ha_compress_318 (by decide) ?_
                      obtain ⟨v314, ev314⟩ : ∃ z : Int32, ((x57 : Int32).toUInt32 >>> (((nI 2) : Int32).toUInt32 &&& Int32.toUInt32 31)).toInt32 = z := ⟨_, rfl⟩
                      refine lv_iushr (v := v314) X.1 X.2.1 d_Ha_compress_319 ev314 ?_
                      refine lv_ior X.1 X.2.1 d_Ha_compress_320 ?_
                      refine t_any (fun v315 => ?_)
                      refine lv_istore_n (lv' := [(3, .int v315), (4, .int x58), (5, .int x59), (8, .int v312), (7, .int v305), (6, .int (nI i)), (2, .int x57), (1, .int x56), (0, .ref o)]) X.1 X.2.1 d_Ha_compress_321 rfl hl (by decide) rfl (fun ls hl => ?_)
                      refine lv_iload_n X.1 X.2.1 d_Ha_compress_322 rfl (lv_at hl 7 rfl) ?_
                      refine lv_istore_n (lv' := [(2, .int x56), (3, .int v315), (4, .int x58), (5, .int x59), (8, .int v312), (7, .int v305), (6, .int (nI i)), (1, .int x56), (0, .ref o)]) X.1 X.2.1 d_Ha_compress_323 rfl hl (by decide) rfl (fun ls hl => ?_)
                      refine lv_iload X.1 X.2.1 d_Ha_compress_324 (lv_at hl 4 rfl) ?_
                      refine lv_istore_n (lv' := [(1, .int v312), (2, .int x56), (3, .int v315), (4, .int x58), (5, .int x59), (8, .int v312), (7, .int v305), (6, .int (nI i)), (0, .ref o)]) X.1 X.2.1 d_Ha_compress_326 rfl hl (by decide) rfl (fun ls hl => ?_)
                      refine lv_iinc (v := (nI (i + 1))) (lv' := [(6, .int (nI (i + 1))), (1, .int v312), (2, .int x56), (3, .int v315), (4, .int x58), (5, .int x59), (8, .int v312), (7, .int v305), (0, .ref o)]) X.1 X.2.1 d_Ha_compress_327 hl (k := 7) rfl (nI_add _ 1) (by decide) rfl (fun ls hl => ?_)
                      refine lv_goto (tgt := 190) X.1 X.2.1 d_Ha_compress_330 (by decide) ?_
                      exact ih44  (i + 1)  (v312) (x56) (v315) (x58) (x59) g49 g52 f45 _ _ _ (by omega) (by omega) (by omega)  e47 e48 e50 e51 e53 e54 e55 hF46 Y (lv_sub hl [0, 5, 4, 3, 2, 1, 8] rfl)
              exact lp42 (80) (0)  (v37) (v38) (v39) (v40) (v41) g26 g29 f22 _ _ _ (by omega) (by omega) (by omega)  e24 e25 e27 e28 e30 e31 e32 hF23 Y (lv_sub hl [0, 1, 2, 3, 4, 5, 6] rfl)
            · skip
              rw [nI_leI (by omega) (by omega)] at c36
              refine lv_aload_n X.1 X.2.1 d_Ha_compress_91 rfl (lv_at hl 1 rfl) ?_
              refine q_get X.1 X.2.1 X.2.2.1 i_Ha X.2.2.2.1 X.2.2.2.2 Y m_o e24 rfl 0 (by decide) (X.2.2.1 _ lk_Ha_7) (fun _ h9 => h9) rfl d_Ha_compress_92 ?_
              refine lv_iload_n X.1 X.2.1 d_Ha_compress_95 rfl (lv_at hl 0 rfl) ?_
              refine lv_iconst (v := (nI 3)) X.1 X.2.1 d_Ha_compress_96 (by decide) ?_
              refine lv_isub X.1 X.2.1 d_Ha_compress_97 ?_
              refine t_eq (y := nI (i - (3))) (pk_sub (by omega)) ?_
              refine q_iald X.1 X.2.1 X.2.2.2.2 Y 1 m_wd e25 rfl (vp_in_nI (by omega) (by omega)) d_Ha_compress_98 ?_
              refine t_any (fun v316 => ?_)
              refine lv_aload_n X.1 X.2.1 d_Ha_compress_99 rfl (lv_at hl 1 rfl) ?_
              refine q_get X.1 X.2.1 X.2.2.1 i_Ha X.2.2.2.1 X.2.2.2.2 Y m_o e24 rfl 0 (by decide) (X.2.2.1 _ lk_Ha_7) (fun _ h9 => h9) rfl d_Ha_compress_100 ?_
              refine lv_iload_n X.1 X.2.1 d_Ha_compress_103 rfl (lv_at hl 0 rfl) ?_
              refine lv_bipush (v := (nI 8)) X.1 X.2.1 d_Ha_compress_104 (by decide) ?_
              refine lv_isub X.1 X.2.1 d_Ha_compress_106 ?_
              refine t_eq (y := nI (i - (8))) (pk_sub (by omega)) ?_
              refine q_iald X.1 X.2.1 X.2.2.2.2 Y 1 m_wd e25 rfl (vp_in_nI (by omega) (by omega)) d_Ha_compress_107 ?_
              refine t_any (fun v317 => ?_)
              refine lv_ixor X.1 X.2.1 d_Ha_compress_108 ?_
              refine t_any (fun v318 => ?_)
              refine lv_aload_n X.1 X.2.1 d_Ha_compress_109 rfl (lv_at hl 1 rfl) ?_
              refine q_get X.1 X.2.1 X.2.2.1 i_Ha X.2.2.2.1 X.2.2.2.2 Y m_o e24 rfl 0 (by decide) (X.2.2.1 _ lk_Ha_7) (fun _ h9 => h9) rfl d_Ha_compress_110 ?_
              refine lv_iload_n X.1 X.2.1 d_Ha_compress_113 rfl (lv_at hl 0 rfl) ?_
              refine lv_bipush (v := (nI 14)) X.1 X.2.1 d_Ha_compress_114 (by decide) ?_
              refine lv_isub X.1 X.2.1 d_Ha_compress_116 ?_
              refine t_eq (y := nI (i - (14))) (pk_sub (by omega)) ?_
              refine q_iald X.1 X.2.1 X.2.2.2.2 Y 1 m_wd e25 rfl (vp_in_nI (by omega) (by omega)) d_Ha_compress_117 ?_
              refine t_any (fun v319 => ?_)
              refine lv_ixor X.1 X.2.1 d_Ha_compress_118 ?_
              refine t_any (fun v320 => ?_)
              refine lv_aload_n X.1 X.2.1 d_Ha_compress_119 rfl (lv_at hl 1 rfl) ?_
              refine q_get X.1 X.2.1 X.2.2.1 i_Ha X.2.2.2.1 X.2.2.2.2 Y m_o e24 rfl 0 (by decide) (X.2.2.1 _ lk_Ha_7) (fun _ h9 => h9) rfl d_Ha_compress_120 ?_
              refine lv_iload_n X.1 X.2.1 d_Ha_compress_123 rfl (lv_at hl 0 rfl) ?_
              refine lv_bipush (v := (nI 16)) X.1 X.2.1 d_Ha_compress_124 (by decide) ?_
              refine lv_isub X.1 X.2.1 d_Ha_compress_126 ?_
              refine t_eq (y := nI (i - (16))) (pk_sub (by omega)) ?_
              refine q_iald X.1 X.2.1 X.2.2.2.2 Y 1 m_wd e25 rfl (vp_in_nI (by omega) (by omega)) d_Ha_compress_127 ?_
              refine t_any (fun v321 => ?_)
              refine lv_ixor X.1 X.2.1 d_Ha_compress_128 ?_
              refine t_any (fun v322 => ?_)
              refine lv_istore_n (lv' := [(2, .int v322), (1, .int (nI i)), (0, .ref o)]) X.1 X.2.1 d_Ha_compress_129 rfl hl (by decide) rfl (fun ls hl => ?_)
              refine lv_aload_n X.1 X.2.1 d_Ha_compress_130 rfl (lv_at hl 2 rfl) ?_
              refine q_get X.1 X.2.1 X.2.2.1 i_Ha X.2.2.2.1 X.2.2.2.2 Y m_o e24 rfl 0 (by decide) (X.2.2.1 _ lk_Ha_7) (fun _ h9 => h9) rfl d_Ha_compress_131 ?_
              refine lv_iload_n X.1 X.2.1 d_Ha_compress_134 rfl (lv_at hl 1 rfl) ?_
              refine lv_iload_n X.1 X.2.1 d_Ha_compress_135 rfl (lv_at hl 0 rfl) ?_
              refine lv_iconst (v := (nI 1)) X.1 X.2.1 d_Ha_compress_136 (by decide) ?_
              refine lv_ishl X.1 X.2.1 d_Ha_compress_137 ?_
              refine t_any (fun v323 => ?_)
              refine lv_iload_n X.1 X.2.1 d_Ha_compress_138 rfl (lv_at hl 0 rfl) ?_
              refine lv_bipush (v := (nI 31)) X.1 X.2.1 d_Ha_compress_139 (by decide) ?_
              obtain ⟨v324, ev324⟩ : ∃ z : Int32, ((v322 : Int32).toUInt32 >>> (((nI 31) : Int32).toUInt32 &&& Int32.toUInt32 31)).toInt32 = z := ⟨_, rfl⟩
              refine lv_iushr (v := v324) X.1 X.2.1 d_Ha_compress_141 ev324 ?_
              refine lv_ior X.1 X.2.1 d_Ha_compress_142 ?_
              refine t_any (fun v325 => ?_)
              refine q_iast X.1 X.2.1 X.2.2.2.2 Y 1 m_wd e25 rfl (vp_in_nI (by omega) (by omega)) d_Ha_compress_143 (fun H locs Y => ?_)
              generalize (upd g26 ((nI i)).toNatClampNeg v325) = g326 at Y
              have e329 : (va_up f22 wd (.inl (E.2.1, 80, .inl g326))) wd = .inl (E.2.1, 80, .inl g326) := q_up
              have e330 : (va_up f22 wd (.inl (E.2.1, 80, .inl g326))) o = .inr (6, [.ref wd, .ref bl, .ref sta, .ref inn, .ref out, .int (nI fl), .int tot, .ref mac]) := (q_ne (q_tag e24 e25 (show (6 : Nat) ≠ 1000 by decide))).trans e24
              have e331 : (va_up f22 wd (.inl (E.2.1, 80, .inl g326))) bl = .inl (E.1, 64, .inl g_bl) := (q_ne ap_wd_bl.symm).trans e27
              have e332 : (va_up f22 wd (.inl (E.2.1, 80, .inl g326))) sta = .inl (E.2.1, 5, .inl g29) := (q_ne ap_wd_sta.symm).trans e28
              have e333 : (va_up f22 wd (.inl (E.2.1, 80, .inl g326))) inn = .inl (E.2.1, 5, .inl g_inn) := (q_ne ap_wd_inn.symm).trans e30
              have e334 : (va_up f22 wd (.inl (E.2.1, 80, .inl g326))) out = .inl (E.2.1, 5, .inl g_out) := (q_ne ap_wd_out.symm).trans e31
              have e335 : (va_up f22 wd (.inl (E.2.1, 80, .inl g326))) mac = .inl (E.1, 20, .inl g_mac) := (q_ne ap_wd_mac.symm).trans e32
              have hF336 : ∀ x, x ≠ wd → x ≠ sta → (va_up f22 wd (.inl (E.2.1, 80, .inl g326))) x = f x := fun x h0 h1 => (q_ne h0).trans (hF23 x h0 h1)
              have Y : pH D cCl (pA L sz) s.heap L (va_up f22 wd (.inl (E.2.1, 80, .inl g326))) H locs := Y
              generalize (va_up f22 wd (.inl (E.2.1, 80, .inl g326))) = f328 at Y e329 e330 e331 e332 e333 e334 e335 hF336
              refine lv_iinc (v := (nI (i + 1))) (lv' := [(1, .int (nI (i + 1))), (2, .int v322), (0, .ref o)]) X.1 X.2.1 d_Ha_compress_144 hl (k := 1) rfl (nI_add _ 1) (by decide) rfl (fun ls hl => ?_)
              refine lv_goto (tgt := 85) X.1 X.2.1 d_Ha_compress_147 (by decide) ?_
              exact False.elim (by omega)
          | succ n20 ih21 =>
            intro i g26 g29 f22 H locs ls hm35 hc33 hc34  e24 e25 e27 e28 e30 e31 e32 hF23 Y hl
            refine lv_iload_n X.1 X.2.1 d_Ha_compress_85 rfl (lv_at hl 0 rfl) ?_
            refine lv_bipush (v := (nI 80)) X.1 X.2.1 d_Ha_compress_86 (by decide) ?_
            refine lv_icmp_ge (tgt := 150) X.1 X.2.1 d_Ha_compress_88 (by decide) (fun c337 => ?_) (fun c337 => ?_)
            · skip
              rw [nI_leI (by omega) (by omega)] at c337
              refine lv_aload_n X.1 X.2.1 d_Ha_compress_150 rfl (lv_at hl 1 rfl) ?_
              refine q_get X.1 X.2.1 X.2.2.1 i_Ha X.2.2.2.1 X.2.2.2.2 Y m_o e24 rfl 2 (by decide) (X.2.2.1 _ lk_Ha_17) (fun _ h9 => h9) rfl d_Ha_compress_151 ?_
              refine lv_iconst (v := (nI 0)) X.1 X.2.1 d_Ha_compress_154 (by decide) ?_
              refine q_iald X.1 X.2.1 X.2.2.2.2 Y 1 m_sta e28 rfl (vp_in_nI (by omega) (by omega)) d_Ha_compress_155 ?_
              refine t_any (fun v338 => ?_)
              refine lv_istore_n (lv' := [(1, .int v338), (0, .ref o)]) X.1 X.2.1 d_Ha_compress_156 rfl hl (by decide) rfl (fun ls hl => ?_)
              refine lv_aload_n X.1 X.2.1 d_Ha_compress_157 rfl (lv_at hl 1 rfl) ?_
              refine q_get X.1 X.2.1 X.2.2.1 i_Ha X.2.2.2.1 X.2.2.2.2 Y m_o e24 rfl 2 (by decide) (X.2.2.1 _ lk_Ha_17) (fun _ h9 => h9) rfl d_Ha_compress_158 ?_
              refine lv_iconst (v := (nI 1)) X.1 X.2.1 d_Ha_compress_161 (by decide) ?_
              refine q_iald X.1 X.2.1 X.2.2.2.2 Y 1 m_sta e28 rfl (vp_in_nI (by omega) (by omega)) d_Ha_compress_162 ?_
              refine t_any (fun v339 => ?_)
              refine lv_istore_n (lv' := [(2, .int v339), (1, .int v338), (0, .ref o)]) X.1 X.2.1 d_Ha_compress_163 rfl hl (by decide) rfl (fun ls hl => ?_)
              refine lv_aload_n X.1 X.2.1 d_Ha_compress_164 rfl (lv_at hl 2 rfl) ?_
              refine q_get X.1 X.2.1 X.2.2.1 i_Ha X.2.2.2.1 X.2.2.2.2 Y m_o e24 rfl 2 (by decide) (X.2.2.1 _ lk_Ha_17) (fun _ h9 => h9) rfl d_Ha_compress_165 ?_
              refine lv_iconst (v := (nI 2)) X.1 X.2.1 d_Ha_compress_168 (by decide) ?_
              refine q_iald X.1 X.2.1 X.2.2.2.2 Y 1 m_sta e28 rfl (vp_in_nI (by omega) (by omega)) d_Ha_compress_169 ?_
              refine t_any (fun v340 => ?_)
              refine lv_istore_n (lv' := [(3, .int v340), (2, .int v339), (1, .int v338), (0, .ref o)]) X.1 X.2.1 d_Ha_compress_170 rfl hl (by decide) rfl (fun ls hl => ?_)
              refine lv_aload_n X.1 X.2.1 d_Ha_compress_171 rfl (lv_at hl 3 rfl) ?_
              refine q_get X.1 X.2.1 X.2.2.1 i_Ha X.2.2.2.1 X.2.2.2.2 Y m_o e24 rfl 2 (by decide) (X.2.2.1 _ lk_Ha_17) (fun _ h9 => h9) rfl d_Ha_compress_172 ?_
              refine lv_iconst (v := (nI 3)) X.1 X.2.1 d_Ha_compress_175 (by decide) ?_
              refine q_iald X.1 X.2.1 X.2.2.2.2 Y 1 m_sta e28 rfl (vp_in_nI (by omega) (by omega)) d_Ha_compress_176 ?_
              refine t_any (fun v341 => ?_)
              refine lv_istore (lv' := [(4, .int v341), (3, .int v340), (2, .int v339), (1, .int v338), (0, .ref o)]) X.1 X.2.1 d_Ha_compress_177 hl (by decide) rfl (fun ls hl => ?_)
              refine lv_aload_n X.1 X.2.1 d_Ha_compress_179 rfl (lv_at hl 4 rfl) ?_
              refine q_get X.1 X.2.1 X.2.2.1 i_Ha X.2.2.2.1 X.2.2.2.2 Y m_o e24 rfl 2 (by decide) (X.2.2.1 _ lk_Ha_17) (fun _ h9 => h9) rfl d_Ha_compress_180 ?_
              refine lv_iconst (v := (nI 4)) X.1 X.2.1 d_Ha_compress_183 (by decide) ?_
              refine q_iald X.1 X.2.1 X.2.2.2.2 Y 1 m_sta e28 rfl (vp_in_nI (by omega) (by omega)) d_Ha_compress_184 ?_
              refine t_any (fun v342 => ?_)
              refine lv_istore (lv' := [(5, .int v342), (4, .int v341), (3, .int v340), (2, .int v339), (1, .int v338), (0, .ref o)]) X.1 X.2.1 d_Ha_compress_185 hl (by decide) rfl (fun ls hl => ?_)
              refine lv_iconst (v := (nI 0)) X.1 X.2.1 d_Ha_compress_187 (by decide) ?_
              refine lv_istore (lv' := [(6, .int (nI 0)), (5, .int v342), (4, .int v341), (3, .int v340), (2, .int v339), (1, .int v338), (0, .ref o)]) X.1 X.2.1 d_Ha_compress_188 hl (by decide) rfl (fun ls hl => ?_)
              have lp343 : ∀ (n344 i : Nat) (x357 : Int32) (x358 : Int32) (x359 : Int32) (x360 : Int32) (x361 : Int32) (g350 : Nat → Int32) (g353 : Nat → Int32) (f346 : pF) (H : Heap) (locs : List Loc) (ls : Array Slot), 80 - i ≤ n344 → (0 ≤ i) → (i ≤ 80) → f346 o = .inr (6, [.ref wd, .ref bl, .ref sta, .ref inn, .ref out, .int (nI fl), .int tot, .ref mac]) → f346 wd = .inl (E.2.1, 80, .inl g350) → f346 bl = .inl (E.1, 64, .inl g_bl) → f346 sta = .inl (E.2.1, 5, .inl g353) → f346 inn = .inl (E.2.1, 5, .inl g_inn) → f346 out = .inl (E.2.1, 5, .inl g_out) → f346 mac = .inl (E.1, 20, .inl g_mac) → (∀ x, x ≠ wd → x ≠ sta → f346 x = f x) → pH D cCl (pA L sz) s.heap L f346 H locs → lv_has ls 9 [(6, .int (nI i)), (5, .int x361), (4, .int x360), (3, .int x359), (2, .int x358), (1, .int x357), (0, .ref o)] → W p l e (mR 0 0) s m AV below meth c H locs 0 0 QQ (F0 m 190 ls []) := by
                intro n344
                induction n344 with
                | zero =>
                  intro i x357 x358 x359 x360 x361 g350 g353 f346 H locs ls hm364 hc362 hc363  e348 e349 e351 e352 e354 e355 e356 hF347 Y hl
                  refine lv_iload X.1 X.2.1 d_Ha_compress_190 (lv_at hl 0 rfl) ?_
                  refine lv_bipush (v := (nI 80)) X.1 X.2.1 d_Ha_compress_192 (by decide) ?_
                  refine lv_icmp_ge (tgt := 333) X.1 X.2.1 d_Ha_compress_194 (by decide) (fun c365 => ?_) (fun c365 => ?_)
                  · skip
                    rw [nI_leI (by omega) (by omega)] at c365
                    refine lv_aload_n X.1 X.2.1 d_Ha_compress_333 rfl (lv_at hl 6 rfl) ?_
                    refine q_get X.1 X.2.1 X.2.2.1 i_Ha X.2.2.2.1 X.2.2.2.2 Y m_o e348 rfl 2 (by decide) (X.2.2.1 _ lk_Ha_17) (fun _ h9 => h9) rfl d_Ha_compress_334 ?_
                    refine lv_iconst (v := (nI 0)) X.1 X.2.1 d_Ha_compress_337 (by decide) ?_
                    refine lv_dup2_11 X.1 X.2.1 d_Ha_compress_338 rfl rfl ?_
                    refine q_iald X.1 X.2.1 X.2.2.2.2 Y 1 m_sta e352 rfl (vp_in_nI (by omega) (by omega)) d_Ha_compress_339 ?_
                    refine t_any (fun v366 => ?_)
                    refine lv_iload_n X.1 X.2.1 d_Ha_compress_340 rfl (lv_at hl 5 rfl) ?_
                    refine lv_iadd X.1 X.2.1 d_Ha_compress_341 ?_
                    refine t_any (fun v367 => ?_)
                    refine q_iast X.1 X.2.1 X.2.2.2.2 Y 1 m_sta e352 rfl (vp_in_nI (by omega) (by omega)) d_Ha_compress_342 (fun H locs Y => ?_)
                    generalize (upd g353 ((nI 0)).toNatClampNeg v367) = g368 at Y
                    have e371 : (va_up f346 sta (.inl (E.2.1, 5, .inl g368))) sta = .inl (E.2.1, 5, .inl g368) := q_up
                    have e372 : (va_up f346 sta (.inl (E.2.1, 5, .inl g368))) o = .inr (6, [.ref wd, .ref bl, .ref sta, .ref inn, .ref out, .int (nI fl), .int tot, .ref mac]) := (q_ne (q_tag e348 e352 (show (6 : Nat) ≠ 1000 by decide))).trans e348
                    have e373 : (va_up f346 sta (.inl (E.2.1, 5, .inl g368))) wd = .inl (E.2.1, 80, .inl g350) := (q_ne ap_wd_sta).trans e349
                    have e374 : (va_up f346 sta (.inl (E.2.1, 5, .inl g368))) bl = .inl (E.1, 64, .inl g_bl) := (q_ne ap_bl_sta).trans e351
                    have e375 : (va_up f346 sta (.inl (E.2.1, 5, .inl g368))) inn = .inl (E.2.1, 5, .inl g_inn) := (q_ne ap_sta_inn.symm).trans e354
                    have e376 : (va_up f346 sta (.inl (E.2.1, 5, .inl g368))) out = .inl (E.2.1, 5, .inl g_out) := (q_ne ap_sta_out.symm).trans e355
                    have e377 : (va_up f346 sta (.inl (E.2.1, 5, .inl g368))) mac = .inl (E.1, 20, .inl g_mac) := (q_ne ap_sta_mac.symm).trans e356
                    have hF378 : ∀ x, x ≠ wd → x ≠ sta → (va_up f346 sta (.inl (E.2.1, 5, .inl g368))) x = f x := fun x h0 h1 => (q_ne h1).trans (hF347 x h0 h1)
                    have Y : pH D cCl (pA L sz) s.heap L (va_up f346 sta (.inl (E.2.1, 5, .inl g368))) H locs := Y
                    generalize (va_up f346 sta (.inl (E.2.1, 5, .inl g368))) = f370 at Y e371 e372 e373 e374 e375 e376 e377 hF378
                    refine lv_aload_n X.1 X.2.1 d_Ha_compress_343 rfl (lv_at hl 6 rfl) ?_
                    refine q_get X.1 X.2.1 X.2.2.1 i_Ha X.2.2.2.1 X.2.2.2.2 Y m_o e372 rfl 2 (by decide) (X.2.2.1 _ lk_Ha_17) (fun _ h9 => h9) rfl d_Ha_compress_344 ?_
                    refine lv_iconst (v := (nI 1)) X.1 X.2.1 d_Ha_compress_347 (by decide) ?_
                    refine lv_dup2_11 X.1 X.2.1 d_Ha_compress_348 rfl rfl ?_
                    refine q_iald X.1 X.2.1 X.2.2.2.2 Y 1 m_sta e371 rfl (vp_in_nI (by omega) (by omega)) d_Ha_compress_349 ?_
                    refine t_any (fun v379 => ?_)
                    refine lv_iload_n X.1 X.2.1 d_Ha_compress_350 rfl (lv_at hl 4 rfl) ?_
                    refine lv_iadd X.1 X.2.1 d_Ha_compress_351 ?_
                    refine t_any (fun v380 => ?_)
                    refine q_iast X.1 X.2.1 X.2.2.2.2 Y 1 m_sta e371 rfl (vp_in_nI (by omega) (by omega)) d_Ha_compress_352 (fun H locs Y => ?_)
                    generalize (upd g368 ((nI 1)).toNatClampNeg v380) = g381 at Y
                    have e384 : (va_up f370 sta (.inl (E.2.1, 5, .inl g381))) sta = .inl (E.2.1, 5, .inl g381) := q_up
                    have e385 : (va_up f370 sta (.inl (E.2.1, 5, .inl g381))) o = .inr (6, [.ref wd, .ref bl, .ref sta, .ref inn, .ref out, .int (nI fl), .int tot, .ref mac]) := (q_ne (q_tag e372 e371 (show (6 : Nat) ≠ 1000 by decide))).trans e372
                    have e386 : (va_up f370 sta (.inl (E.2.1, 5, .inl g381))) wd = .inl (E.2.1, 80, .inl g350) := (q_ne ap_wd_sta).trans e373
                    have e387 : (va_up f370 sta (.inl (E.2.1, 5, .inl g381))) bl = .inl (E.1, 64, .inl g_bl) := (q_ne ap_bl_sta).trans e374
                    have e388 : (va_up f370 sta (.inl (E.2.1, 5, .inl g381))) inn = .inl (E.2.1, 5, .inl g_inn) := (q_ne ap_sta_inn.symm).trans e375
                    have e389 : (va_up f370 sta (.inl (E.2.1, 5, .inl g381))) out = .inl (E.2.1, 5, .inl g_out) := (q_ne ap_sta_out.symm).trans e376
                    have e390 : (va_up f370 sta (.inl (E.2.1, 5, .inl g381))) mac = .inl (E.1, 20, .inl g_mac) := (q_ne ap_sta_mac.symm).trans e377
                    have hF391 : ∀ x, x ≠ wd → x ≠ sta → (va_up f370 sta (.inl (E.2.1, 5, .inl g381))) x = f x := fun x h0 h1 => (q_ne h1).trans (hF378 x h0 h1)
                    have Y : pH D cCl (pA L sz) s.heap L (va_up f370 sta (.inl (E.2.1, 5, .inl g381))) H locs := Y
                    generalize (va_up f370 sta (.inl (E.2.1, 5, .inl g381))) = f383 at Y e384 e385 e386 e387 e388 e389 e390 hF391
                    refine lv_aload_n X.1 X.2.1 d_Ha_compress_353 rfl (lv_at hl 6 rfl) ?_
                    refine q_get X.1 X.2.1 X.2.2.1 i_Ha X.2.2.2.1 X.2.2.2.2 Y m_o e385 rfl 2 (by decide) (X.2.2.1 _ lk_Ha_17) (fun _ h9 => h9) rfl d_Ha_compress_354 ?_
                    refine lv_iconst (v := (nI 2)) X.1 X.2.1 d_Ha_compress_357 (by decide) ?_
                    refine lv_dup2_11 X.1 X.2.1 d_Ha_compress_358 rfl rfl ?_
                    refine q_iald X.1 X.2.1 X.2.2.2.2 Y 1 m_sta e384 rfl (vp_in_nI (by omega) (by omega)) d_Ha_compress_359 ?_
                    refine t_any (fun v392 => ?_)
                    refine lv_iload_n X.1 X.2.1 d_Ha_compress_360 rfl (lv_at hl 3 rfl) ?_
                    refine lv_iadd X.1 X.2.1 d_Ha_compress_361 ?_
                    refine t_any (fun v393 => ?_)
                    refine q_iast X.1 X.2.1 X.2.2.2.2 Y 1 m_sta e384 rfl (vp_in_nI (by omega) (by omega)) d_Ha_compress_362 (fun H locs Y => ?_)
                    generalize (upd g381 ((nI 2)).toNatClampNeg v393) = g394 at Y
                    have e397 : (va_up f383 sta (.inl (E.2.1, 5, .inl g394))) sta = .inl (E.2.1, 5, .inl g394) := q_up
                    have e398 : (va_up f383 sta (.inl (E.2.1, 5, .inl g394))) o = .inr (6, [.ref wd, .ref bl, .ref sta, .ref inn, .ref out, .int (nI fl), .int tot, .ref mac]) := (q_ne (q_tag e385 e384 (show (6 : Nat) ≠ 1000 by decide))).trans e385
                    have e399 : (va_up f383 sta (.inl (E.2.1, 5, .inl g394))) wd = .inl (E.2.1, 80, .inl g350) := (q_ne ap_wd_sta).trans e386
                    have e400 : (va_up f383 sta (.inl (E.2.1, 5, .inl g394))) bl = .inl (E.1, 64, .inl g_bl) := (q_ne ap_bl_sta).trans e387
                    have e401 : (va_up f383 sta (.inl (E.2.1, 5, .inl g394))) inn = .inl (E.2.1, 5, .inl g_inn) := (q_ne ap_sta_inn.symm).trans e388
                    have e402 : (va_up f383 sta (.inl (E.2.1, 5, .inl g394))) out = .inl (E.2.1, 5, .inl g_out) := (q_ne ap_sta_out.symm).trans e389
                    have e403 : (va_up f383 sta (.inl (E.2.1, 5, .inl g394))) mac = .inl (E.1, 20, .inl g_mac) := (q_ne ap_sta_mac.symm).trans e390
                    have hF404 : ∀ x, x ≠ wd → x ≠ sta → (va_up f383 sta (.inl (E.2.1, 5, .inl g394))) x = f x := fun x h0 h1 => (q_ne h1).trans (hF391 x h0 h1)
                    have Y : pH D cCl (pA L sz) s.heap L (va_up f383 sta (.inl (E.2.1, 5, .inl g394))) H locs := Y
                    generalize (va_up f383 sta (.inl (E.2.1, 5, .inl g394))) = f396 at Y e397 e398 e399 e400 e401 e402 e403 hF404
                    refine lv_aload_n X.1 X.2.1 d_Ha_compress_363 rfl (lv_at hl 6 rfl) ?_
                    refine q_get X.1 X.2.1 X.2.2.1 i_Ha X.2.2.2.1 X.2.2.2.2 Y m_o e398 rfl 2 (by decide) (X.2.2.1 _ lk_Ha_17) (fun _ h9 => h9) rfl d_Ha_compress_364 ?_
                    refine lv_iconst (v := (nI 3)) X.1 X.2.1 d_Ha_compress_367 (by decide) ?_
                    refine lv_dup2_11 X.1 X.2.1 d_Ha_compress_368 rfl rfl ?_
                    refine q_iald X.1 X.2.1 X.2.2.2.2 Y 1 m_sta e397 rfl (vp_in_nI (by omega) (by omega)) d_Ha_compress_369 ?_
                    refine t_any (fun v405 => ?_)
                    refine lv_iload X.1 X.2.1 d_Ha_compress_370 (lv_at hl 2 rfl) ?_
                    refine lv_iadd X.1 X.2.1 d_Ha_compress_372 ?_
                    refine t_any (fun v406 => ?_)
                    refine q_iast X.1 X.2.1 X.2.2.2.2 Y 1 m_sta e397 rfl (vp_in_nI (by omega) (by omega)) d_Ha_compress_373 (fun H locs Y => ?_)
                    generalize (upd g394 ((nI 3)).toNatClampNeg v406) = g407 at Y
                    have e410 : (va_up f396 sta (.inl (E.2.1, 5, .inl g407))) sta = .inl (E.2.1, 5, .inl g407) := q_up
                    have e411 : (va_up f396 sta (.inl (E.2.1, 5, .inl g407))) o = .inr (6, [.ref wd, .ref bl, .ref sta, .ref inn, .ref out, .int (nI fl), .int tot, .ref mac]) := (q_ne (q_tag e398 e397 (show (6 : Nat) ≠ 1000 by decide))).trans e398
                    have e412 : (va_up f396 sta (.inl (E.2.1, 5, .inl g407))) wd = .inl (E.2.1, 80, .inl g350) := (q_ne ap_wd_sta).trans e399
                    have e413 : (va_up f396 sta (.inl (E.2.1, 5, .inl g407))) bl = .inl (E.1, 64, .inl g_bl) := (q_ne ap_bl_sta).trans e400
                    have e414 : (va_up f396 sta (.inl (E.2.1, 5, .inl g407))) inn = .inl (E.2.1, 5, .inl g_inn) := (q_ne ap_sta_inn.symm).trans e401
                    have e415 : (va_up f396 sta (.inl (E.2.1, 5, .inl g407))) out = .inl (E.2.1, 5, .inl g_out) := (q_ne ap_sta_out.symm).trans e402
                    have e416 : (va_up f396 sta (.inl (E.2.1, 5, .inl g407))) mac = .inl (E.1, 20, .inl g_mac) := (q_ne ap_sta_mac.symm).trans e403
                    have hF417 : ∀ x, x ≠ wd → x ≠ sta → (va_up f396 sta (.inl (E.2.1, 5, .inl g407))) x = f x := fun x h0 h1 => (q_ne h1).trans (hF404 x h0 h1)
                    have Y : pH D cCl (pA L sz) s.heap L (va_up f396 sta (.inl (E.2.1, 5, .inl g407))) H locs := Y
                    generalize (va_up f396 sta (.inl (E.2.1, 5, .inl g407))) = f409 at Y e410 e411 e412 e413 e414 e415 e416 hF417
                    refine lv_aload_n X.1 X.2.1 d_Ha_compress_374 rfl (lv_at hl 6 rfl) ?_
                    refine q_get X.1 X.2.1 X.2.2.1 i_Ha X.2.2.2.1 X.2.2.2.2 Y m_o e411 rfl 2 (by decide) (X.2.2.1 _ lk_Ha_17) (fun _ h9 => h9) rfl d_Ha_compress_375 ?_
                    refine lv_iconst (v := (nI 4)) X.1 X.2.1 d_Ha_compress_378 (by decide) ?_
                    refine lv_dup2_11 X.1 X.2.1 d_Ha_compress_379 rfl rfl ?_
                    refine q_iald X.1 X.2.1 X.2.2.2.2 Y 1 m_sta e410 rfl (vp_in_nI (by omega) (by omega)) d_Ha_compress_380 ?_
                    refine t_any (fun v418 => ?_)
                    refine lv_iload X.1 X.2.1 d_Ha_compress_381 (lv_at hl 1 rfl) ?_
                    refine lv_iadd X.1 X.2.1 d_Ha_compress_383 ?_
                    refine t_any (fun v419 => ?_)
                    refine q_iast X.1 X.2.1 X.2.2.2.2 Y 1 m_sta e410 rfl (vp_in_nI (by omega) (by omega)) d_Ha_compress_384 (fun H locs Y => ?_)
                    generalize (upd g407 ((nI 4)).toNatClampNeg v419) = g420 at Y
                    have e423 : (va_up f409 sta (.inl (E.2.1, 5, .inl g420))) sta = .inl (E.2.1, 5, .inl g420) := q_up
                    have e424 : (va_up f409 sta (.inl (E.2.1, 5, .inl g420))) o = .inr (6, [.ref wd, .ref bl, .ref sta, .ref inn, .ref out, .int (nI fl), .int tot, .ref mac]) := (q_ne (q_tag e411 e410 (show (6 : Nat) ≠ 1000 by decide))).trans e411
                    have e425 : (va_up f409 sta (.inl (E.2.1, 5, .inl g420))) wd = .inl (E.2.1, 80, .inl g350) := (q_ne ap_wd_sta).trans e412
                    have e426 : (va_up f409 sta (.inl (E.2.1, 5, .inl g420))) bl = .inl (E.1, 64, .inl g_bl) := (q_ne ap_bl_sta).trans e413
                    have e427 : (va_up f409 sta (.inl (E.2.1, 5, .inl g420))) inn = .inl (E.2.1, 5, .inl g_inn) := (q_ne ap_sta_inn.symm).trans e414
                    have e428 : (va_up f409 sta (.inl (E.2.1, 5, .inl g420))) out = .inl (E.2.1, 5, .inl g_out) := (q_ne ap_sta_out.symm).trans e415
                    have e429 : (va_up f409 sta (.inl (E.2.1, 5, .inl g420))) mac = .inl (E.1, 20, .inl g_mac) := (q_ne ap_sta_mac.symm).trans e416
                    have hF430 : ∀ x, x ≠ wd → x ≠ sta → (va_up f409 sta (.inl (E.2.1, 5, .inl g420))) x = f x := fun x h0 h1 => (q_ne h1).trans (hF417 x h0 h1)
                    have Y : pH D cCl (pA L sz) s.heap L (va_up f409 sta (.inl (E.2.1, 5, .inl g420))) H locs := Y
                    generalize (va_up f409 sta (.inl (E.2.1, 5, .inl g420))) = f422 at Y e423 e424 e425 e426 e427 e428 e429 hF430
                    exact c_retv hQQ X Y hr hlk ⟨rfl, hF430, g350, g420, e425, e423⟩ d_Ha_compress_385
                  · skip
                    rw [nI_leI (by omega) (by omega)] at c365
                    refine lv_iload X.1 X.2.1 d_Ha_compress_197 (lv_at hl 0 rfl) ?_
                    refine lv_bipush (v := (nI 20)) X.1 X.2.1 d_Ha_compress_199 (by decide) ?_
                    refine lv_icmp_ge (tgt := 222) X.1 X.2.1 d_Ha_compress_201 (by decide) (fun c431 => ?_) (fun c431 => ?_)
                    · skip
                      rw [nI_leI (by omega) (by omega)] at c431
                      refine lv_iload X.1 X.2.1 d_Ha_compress_222 (lv_at hl 0 rfl) ?_
                      refine lv_bipush (v := (nI 40)) X.1 X.2.1 d_Ha_compress_224 (by decide) ?_
                      refine lv_icmp_ge (tgt := 243) X.1 X.2.1 d_Ha_compress_226 (by decide) (fun c432 => ?_) (fun c432 => ?_)
                      · skip
                        rw [nI_leI (by omega) (by omega)] at c432
                        refine lv_iload X.1 X.2.1 d_Ha_compress_243 (lv_at hl 0 rfl) ?_
                        refine lv_bipush (v := (nI 60)) X.1 X.2.1 d_Ha_compress_245 (by decide) ?_
                        refine lv_icmp_ge (tgt := 271) X.1 X.2.1 d_Ha_compress_247 (by decide) (fun c433 => ?_) (fun c433 => ?_)
                        · skip
                          rw [nI_leI (by omega) (by omega)] at c433
                          refine lv_iload_n X.1 X.2.1 d_Ha_compress_271 rfl (lv_at hl 4 rfl) ?_
                          refine lv_iload_n X.1 X.2.1 d_Ha_compress_272 rfl (lv_at hl 3 rfl) ?_
                          refine lv_ixor X.1 X.2.1 d_Ha_compress_273 ?_
                          refine t_any (fun v434 => ?_)
                          refine lv_iload X.1 X.2.1 d_Ha_compress_274 (lv_at hl 2 rfl) ?_
                          refine lv_ixor X.1 X.2.1 d_Ha_compress_276 ?_
                          refine t_any (fun v435 => ?_)
                          refine lv_ldc (v := (-899497514)) X.1 X.2.1 X.2.2.2.1 (X.2.2.1 _ cn_Ha_60) d_Ha_compress_277 ?_
                          refine lv_iadd X.1 X.2.1 d_Ha_compress_279 ?_
                          refine t_any (fun v436 => ?_)
                          refine lv_istore (lv' := [(7, .int v436), (6, .int (nI i)), (5, .int x361), (4, .int x360), (3, .int x359), (2, .int x358), (1, .int x357), (0, .ref o)]) X.1 X.2.1 d_Ha_compress_280 hl (by decide) rfl (fun ls hl => ?_)
                          refine lv_iload_n X.1 X.2.1 d_Ha_compress_282 rfl (lv_at hl 6 rfl) ?_
                          refine lv_iconst (v := (nI 5)) X.1 X.2.1 d_Ha_compress_283 (by decide) ?_
                          refine lv_ishl X.1 X.2.1 d_Ha_compress_284 ?_
                          refine t_any (fun v437 => ?_)
                          refine lv_iload_n X.1 X.2.1 d_Ha_compress_285 rfl (lv_at hl 6 rfl) ?_
                          refine lv_bipush (v := (nI 27)) X.1 X.2.1 d_Ha_compress_286 (by decide) ?_
                          obtain ⟨v438, ev438⟩ : ∃ z : Int32, ((x357 : Int32).toUInt32 >>> (((nI 27) : Int32).toUInt32 &&& Int32.toUInt32 31)).toInt32 = z := ⟨_, rfl⟩
                          refine lv_iushr (v := v438) X.1 X.2.1 d_Ha_compress_288 ev438 ?_
                          refine lv_ior X.1 X.2.1 d_Ha_compress_289 ?_
                          refine t_any (fun v439 => ?_)
                          refine lv_iload X.1 X.2.1 d_Ha_compress_290 (lv_at hl 0 rfl) ?_
                          refine lv_iadd X.1 X.2.1 d_Ha_compress_292 ?_
                          refine t_any (fun v440 => ?_)
                          refine lv_iload X.1 X.2.1 d_Ha_compress_293 (lv_at hl 2 rfl) ?_
                          refine lv_iadd X.1 X.2.1 d_Ha_compress_295 ?_
                          refine t_any (fun v441 => ?_)
                          refine lv_aload_n X.1 X.2.1 d_Ha_compress_296 rfl (lv_at hl 7 rfl) ?_
                          refine q_get X.1 X.2.1 X.2.2.1 i_Ha X.2.2.2.1 X.2.2.2.2 Y m_o e348 rfl 0 (by decide) (X.2.2.1 _ lk_Ha_7) (fun _ h9 => h9) rfl d_Ha_compress_297 ?_
                          refine lv_iload X.1 X.2.1 d_Ha_compress_300 (lv_at hl 1 rfl) ?_
                          refine q_iald X.1 X.2.1 X.2.2.2.2 Y 1 m_wd e349 rfl (vp_in_nI (by omega) (by omega)) d_Ha_compress_302 ?_
                          refine t_any (fun v442 => ?_)
                          refine lv_iadd X.1 X.2.1 d_Ha_compress_303 ?_
                          refine t_any (fun v443 => ?_)
                          refine lv_istore (lv' := [(8, .int v443), (7, .int v436), (6, .int (nI i)), (5, .int x361), (4, .int x360), (3, .int x359), (2, .int x358), (1, .int x357), (0, .ref o)]) X.1 X.2.1 d_Ha_compress_304 hl (by decide) rfl (fun ls hl => ?_)
                          refine lv_iload X.1 X.2.1 d_Ha_compress_306 (lv_at hl 4 rfl) ?_
                          refine lv_istore (lv' := [(5, .int x360), (8, .int v443), (7, .int v436), (6, .int (nI i)), (4, .int x360), (3, .int x359), (2, .int x358), (1, .int x357), (0, .ref o)]) X.1 X.2.1 d_Ha_compress_308 hl (by decide) rfl (fun ls hl => ?_)
                          refine lv_iload_n X.1 X.2.1 d_Ha_compress_310 rfl (lv_at hl 5 rfl) ?_
                          refine lv_istore (lv' := [(4, .int x359), (5, .int x360), (8, .int v443), (7, .int v436), (6, .int (nI i)), (3, .int x359), (2, .int x358), (1, .int x357), (0, .ref o)]) X.1 X.2.1 d_Ha_compress_311 hl (by decide) rfl (fun ls hl => ?_)
                          refine lv_iload_n X.1 X.2.1 d_Ha_compress_313 rfl (lv_at hl 6 rfl) ?_
                          refine lv_bipush (v := (nI 30)) X.1 X.2.1 d_Ha_compress_314 (by decide) ?_
                          refine lv_ishl X.1 X.2.1 d_Ha_compress_316 ?_
                          refine t_any (fun v444 => ?_)
                          refine lv_iload_n X.1 X.2.1 d_Ha_compress_317 rfl (lv_at hl 6 rfl) ?_
                          refine lv_iconst (v := (nI 2)) X.1 X.2.1 d_Ha_compress_318 (by decide) ?_
                          obtain ⟨v445, ev445⟩ : ∃ z : Int32, ((x358 : Int32).toUInt32 >>> (((nI 2) : Int32).toUInt32 &&& Int32.toUInt32 31)).toInt32 = z := ⟨_, rfl⟩
                          refine lv_iushr (v := v445) X.1 X.2.1 d_Ha_compress_319 ev445 ?_
                          refine lv_ior X.1 X.2.1 d_Ha_compress_320 ?_
                          refine t_any (fun v446 => ?_)
                          refine lv_istore_n (lv' := [(3, .int v446), (4, .int x359), (5, .int x360), (8, .int v443), (7, .int v436), (6, .int (nI i)), (2, .int x358), (1, .int x357), (0, .ref o)]) X.1 X.2.1 d_Ha_compress_321 rfl hl (by decide) rfl (fun ls hl => ?_)
                          refine lv_iload_n X.1 X.2.1 d_Ha_compress_322 rfl (lv_at hl 7 rfl) ?_
                          refine lv_istore_n (lv' := [(2, .int x357), (3, .int v446), (4, .int x359), (5, .int x360), (8, .int v443), (7, .int v436), (6, .int (nI i)), (1, .int x357), (0, .ref o)]) X.1 X.2.1 d_Ha_compress_323 rfl hl (by decide) rfl (fun ls hl => ?_)
                          refine lv_iload X.1 X.2.1 d_Ha_compress_324 (lv_at hl 4 rfl) ?_
                          refine lv_istore_n (lv' := [(1, .int v443), (2, .int x357), (3, .int v446), (4, .int x359), (5, .int x360), (8, .int v443), (7, .int v436), (6, .int (nI i)), (0, .ref o)]) X.1 X.2.1 d_Ha_compress_326 rfl hl (by decide) rfl (fun ls hl => ?_)
                          refine lv_iinc (v := (nI (i + 1))) (lv' := [(6, .int (nI (i + 1))), (1, .int v443), (2, .int x357), (3, .int v446), (4, .int x359), (5, .int x360), (8, .int v443), (7, .int v436), (0, .ref o)]) X.1 X.2.1 d_Ha_compress_327 hl (k := 7) rfl (nI_add _ 1) (by decide) rfl (fun ls hl => ?_)
                          refine lv_goto (tgt := 190) X.1 X.2.1 d_Ha_compress_330 (by decide) ?_
                          exact False.elim (by omega)
                        · skip
                          rw [nI_leI (by omega) (by omega)] at c433
                          refine lv_iload_n X.1 X.2.1 d_Ha_compress_250 rfl (lv_at hl 4 rfl) ?_
                          refine lv_iload_n X.1 X.2.1 d_Ha_compress_251 rfl (lv_at hl 3 rfl) ?_
                          refine lv_iand X.1 X.2.1 d_Ha_compress_252 ?_
                          refine t_any (fun v447 => ?_)
                          refine lv_iload_n X.1 X.2.1 d_Ha_compress_253 rfl (lv_at hl 4 rfl) ?_
                          refine lv_iload X.1 X.2.1 d_Ha_compress_254 (lv_at hl 2 rfl) ?_
                          refine lv_iand X.1 X.2.1 d_Ha_compress_256 ?_
                          refine t_any (fun v448 => ?_)
                          refine lv_ior X.1 X.2.1 d_Ha_compress_257 ?_
                          refine t_any (fun v449 => ?_)
                          refine lv_iload_n X.1 X.2.1 d_Ha_compress_258 rfl (lv_at hl 3 rfl) ?_
                          refine lv_iload X.1 X.2.1 d_Ha_compress_259 (lv_at hl 2 rfl) ?_
                          refine lv_iand X.1 X.2.1 d_Ha_compress_261 ?_
                          refine t_any (fun v450 => ?_)
                          refine lv_ior X.1 X.2.1 d_Ha_compress_262 ?_
                          refine t_any (fun v451 => ?_)
                          refine lv_ldc (v := (-1894007588)) X.1 X.2.1 X.2.2.2.1 (X.2.2.1 _ cn_Ha_59) d_Ha_compress_263 ?_
                          refine lv_iadd X.1 X.2.1 d_Ha_compress_265 ?_
                          refine t_any (fun v452 => ?_)
                          refine lv_istore (lv' := [(7, .int v452), (6, .int (nI i)), (5, .int x361), (4, .int x360), (3, .int x359), (2, .int x358), (1, .int x357), (0, .ref o)]) X.1 X.2.1 d_Ha_compress_266 hl (by decide) rfl (fun ls hl => ?_)
                          refine lv_goto (tgt := 282) X.1 X.2.1 d_Ha_compress_268 (by decide) ?_
                          refine lv_iload_n X.1 X.2.1 d_Ha_compress_282 rfl (lv_at hl 6 rfl) ?_
                          refine lv_iconst (v := (nI 5)) X.1 X.2.1 d_Ha_compress_283 (by decide) ?_
                          refine lv_ishl X.1 X.2.1 d_Ha_compress_284 ?_
                          refine t_any (fun v453 => ?_)
                          refine lv_iload_n X.1 X.2.1 d_Ha_compress_285 rfl (lv_at hl 6 rfl) ?_
                          refine lv_bipush (v := (nI 27)) X.1 X.2.1 d_Ha_compress_286 (by decide) ?_
                          obtain ⟨v454, ev454⟩ : ∃ z : Int32, ((x357 : Int32).toUInt32 >>> (((nI 27) : Int32).toUInt32 &&& Int32.toUInt32 31)).toInt32 = z := ⟨_, rfl⟩
                          refine lv_iushr (v := v454) X.1 X.2.1 d_Ha_compress_288 ev454 ?_
                          refine lv_ior X.1 X.2.1 d_Ha_compress_289 ?_
                          refine t_any (fun v455 => ?_)
                          refine lv_iload X.1 X.2.1 d_Ha_compress_290 (lv_at hl 0 rfl) ?_
                          refine lv_iadd X.1 X.2.1 d_Ha_compress_292 ?_
                          refine t_any (fun v456 => ?_)
                          refine lv_iload X.1 X.2.1 d_Ha_compress_293 (lv_at hl 2 rfl) ?_
                          refine lv_iadd X.1 X.2.1 d_Ha_compress_295 ?_
                          refine t_any (fun v457 => ?_)
                          refine lv_aload_n X.1 X.2.1 d_Ha_compress_296 rfl (lv_at hl 7 rfl) ?_
                          refine q_get X.1 X.2.1 X.2.2.1 i_Ha X.2.2.2.1 X.2.2.2.2 Y m_o e348 rfl 0 (by decide) (X.2.2.1 _ lk_Ha_7) (fun _ h9 => h9) rfl d_Ha_compress_297 ?_
                          refine lv_iload X.1 X.2.1 d_Ha_compress_300 (lv_at hl 1 rfl) ?_
                          refine q_iald X.1 X.2.1 X.2.2.2.2 Y 1 m_wd e349 rfl (vp_in_nI (by omega) (by omega)) d_Ha_compress_302 ?_
                          refine t_any (fun v458 => ?_)
                          refine lv_iadd X.1 X.2.1 d_Ha_compress_303 ?_
                          refine t_any (fun v459 => ?_)
                          refine lv_istore (lv' := [(8, .int v459), (7, .int v452), (6, .int (nI i)), (5, .int x361), (4, .int x360), (3, .int x359), (2, .int x358), (1, .int x357), (0, .ref o)]) X.1 X.2.1 d_Ha_compress_304 hl (by decide) rfl (fun ls hl => ?_)
                          refine lv_iload X.1 X.2.1 d_Ha_compress_306 (lv_at hl 4 rfl) ?_
                          refine lv_istore (lv' := [(5, .int x360), (8, .int v459), (7, .int v452), (6, .int (nI i)), (4, .int x360), (3, .int x359), (2, .int x358), (1, .int x357), (0, .ref o)]) X.1 X.2.1 d_Ha_compress_308 hl (by decide) rfl (fun ls hl => ?_)
                          refine lv_iload_n X.1 X.2.1 d_Ha_compress_310 rfl (lv_at hl 5 rfl) ?_
                          refine lv_istore (lv' := [(4, .int x359), (5, .int x360), (8, .int v459), (7, .int v452), (6, .int (nI i)), (3, .int x359), (2, .int x358), (1, .int x357), (0, .ref o)]) X.1 X.2.1 d_Ha_compress_311 hl (by decide) rfl (fun ls hl => ?_)
                          refine lv_iload_n X.1 X.2.1 d_Ha_compress_313 rfl (lv_at hl 6 rfl) ?_
                          refine lv_bipush (v := (nI 30)) X.1 X.2.1 d_Ha_compress_314 (by decide) ?_
                          refine lv_ishl X.1 X.2.1 d_Ha_compress_316 ?_
                          refine t_any (fun v460 => ?_)
                          refine lv_iload_n X.1 X.2.1 d_Ha_compress_317 rfl (lv_at hl 6 rfl) ?_
                          refine lv_iconst (v := (nI 2)) X.1 X.2.1 d_Ha_compress_318 (by decide) ?_
                          obtain ⟨v461, ev461⟩ : ∃ z : Int32, ((x358 : Int32).toUInt32 >>> (((nI 2) : Int32).toUInt32 &&& Int32.toUInt32 31)).toInt32 = z := ⟨_, rfl⟩
                          refine lv_iushr (v := v461) X.1 X.2.1 d_Ha_compress_319 ev461 ?_
                          refine lv_ior X.1 X.2.1 d_Ha_compress_320 ?_
                          refine t_any (fun v462 => ?_)
                          refine lv_istore_n (lv' := [(3, .int v462), (4, .int x359), (5, .int x360), (8, .int v459), (7, .int v452), (6, .int (nI i)), (2, .int x358), (1, .int x357), (0, .ref o)]) X.1 X.2.1 d_Ha_compress_321 rfl hl (by decide) rfl (fun ls hl => ?_)
                          refine lv_iload_n X.1 X.2.1 d_Ha_compress_322 rfl (lv_at hl 7 rfl) ?_
                          refine lv_istore_n (lv' := [(2, .int x357), (3, .int v462), (4, .int x359), (5, .int x360), (8, .int v459), (7, .int v452), (6, .int (nI i)), (1, .int x357), (0, .ref o)]) X.1 X.2.1 d_Ha_compress_323 rfl hl (by decide) rfl (fun ls hl => ?_)
                          refine lv_iload X.1 X.2.1 d_Ha_compress_324 (lv_at hl 4 rfl) ?_
                          refine lv_istore_n (lv' := [(1, .int v459), (2, .int x357), (3, .int v462), (4, .int x359), (5, .int x360), (8, .int v459), (7, .int v452), (6, .int (nI i)), (0, .ref o)]) X.1 X.2.1 d_Ha_compress_326 rfl hl (by decide) rfl (fun ls hl => ?_)
                          refine lv_iinc (v := (nI (i + 1))) (lv' := [(6, .int (nI (i + 1))), (1, .int v459), (2, .int x357), (3, .int v462), (4, .int x359), (5, .int x360), (8, .int v459), (7, .int v452), (0, .ref o)]) X.1 X.2.1 d_Ha_compress_327 hl (k := 7) rfl (nI_add _ 1) (by decide) rfl (fun ls hl => ?_)
                          refine lv_goto (tgt := 190) X.1 X.2.1 d_Ha_compress_330 (by decide) ?_
                          exact False.elim (by omega)
                      · skip
                        rw [nI_leI (by omega) (by omega)] at c432
                        refine lv_iload_n X.1 X.2.1 d_Ha_compress_229 rfl (lv_at hl 4 rfl) ?_
                        refine lv_iload_n X.1 X.2.1 d_Ha_compress_230 rfl (lv_at hl 3 rfl) ?_
                        refine lv_ixor X.1 X.2.1 d_Ha_compress_231 ?_
                        refine t_any (fun v463 => ?_)
                        refine lv_iload X.1 X.2.1 d_Ha_compress_232 (lv_at hl 2 rfl) ?_
                        refine lv_ixor X.1 X.2.1 d_Ha_compress_234 ?_
                        refine t_any (fun v464 => ?_)
                        refine lv_ldc (v := (1859775393)) X.1 X.2.1 X.2.2.2.1 (X.2.2.1 _ cn_Ha_58) d_Ha_compress_235 ?_
                        refine t_eq (y := nI 1859775393) (by decide) ?_
                        refine lv_iadd X.1 X.2.1 d_Ha_compress_237 ?_
                        refine t_any (fun v465 => ?_)
                        refine lv_istore (lv' := [(7, .int v465), (6, .int (nI i)), (5, .int x361), (4, .int x360), (3, .int x359), (2, .int x358), (1, .int x357), (0, .ref o)]) X.1 X.2.1 d_Ha_compress_238 hl (by decide) rfl (fun ls hl => ?_)
                        refine lv_goto (tgt := 282) X.1 X.2.1 d_Ha_compress_240 (by decide) ?_
                        refine lv_iload_n X.1 X.2.1 d_Ha_compress_282 rfl (lv_at hl 6 rfl) ?_
                        refine lv_iconst (v := (nI 5)) X.1 X.2.1 d_Ha_compress_283 (by decide) ?_
                        refine lv_ishl X.1 X.2.1 d_Ha_compress_284 ?_
                        refine t_any (fun v466 => ?_)
                        refine lv_iload_n X.1 X.2.1 d_Ha_compress_285 rfl (lv_at hl 6 rfl) ?_
                        refine lv_bipush (v := (nI 27)) X.1 X.2.1 d_Ha_compress_286 (by decide) ?_
                        obtain ⟨v467, ev467⟩ : ∃ z : Int32, ((x357 : Int32).toUInt32 >>> (((nI 27) : Int32).toUInt32 &&& Int32.toUInt32 31)).toInt32 = z := ⟨_, rfl⟩
                        refine lv_iushr (v := v467) X.1 X.2.1 d_Ha_compress_288 ev467 ?_
                        refine lv_ior X.1 X.2.1 d_Ha_compress_289 ?_
                        refine t_any (fun v468 => ?_)
                        refine lv_iload X.1 X.2.1 d_Ha_compress_290 (lv_at hl 0 rfl) ?_
                        refine lv_iadd X.1 X.2.1 d_Ha_compress_292 ?_
                        refine t_any (fun v469 => ?_)
                        refine lv_iload X.1 X.2.1 d_Ha_compress_293 (lv_at hl 2 rfl) ?_
                        refine lv_iadd X.1 X.2.1 d_Ha_compress_295 ?_
                        refine t_any (fun v470 => ?_)
                        refine lv_aload_n X.1 X.2.1 d_Ha_compress_296 rfl (lv_at hl 7 rfl) ?_
                        refine q_get X.1 X.2.1 X.2.2.1 i_Ha X.2.2.2.1 X.2.2.2.2 Y m_o e348 rfl 0 (by decide) (X.2.2.1 _ lk_Ha_7) (fun _ h9 => h9) rfl d_Ha_compress_297 ?_
                        refine lv_iload X.1 X.2.1 d_Ha_compress_300 (lv_at hl 1 rfl) ?_
                        refine q_iald X.1 X.2.1 X.2.2.2.2 Y 1 m_wd e349 rfl (vp_in_nI (by omega) (by omega)) d_Ha_compress_302 ?_
                        refine t_any (fun v471 => ?_)
                        refine lv_iadd X.1 X.2.1 d_Ha_compress_303 ?_
                        refine t_any (fun v472 => ?_)
                        refine lv_istore (lv' := [(8, .int v472), (7, .int v465), (6, .int (nI i)), (5, .int x361), (4, .int x360), (3, .int x359), (2, .int x358), (1, .int x357), (0, .ref o)]) X.1 X.2.1 d_Ha_compress_304 hl (by decide) rfl (fun ls hl => ?_)
                        refine lv_iload X.1 X.2.1 d_Ha_compress_306 (lv_at hl 4 rfl) ?_
                        refine lv_istore (lv' := [(5, .int x360), (8, .int v472), (7, .int v465), (6, .int (nI i)), (4, .int x360), (3, .int x359), (2, .int x358), (1, .int x357), (0, .ref o)]) X.1 X.2.1 d_Ha_compress_308 hl (by decide) rfl (fun ls hl => ?_)
                        refine lv_iload_n X.1 X.2.1 d_Ha_compress_310 rfl (lv_at hl 5 rfl) ?_
                        refine lv_istore (lv' := [(4, .int x359), (5, .int x360), (8, .int v472), (7, .int v465), (6, .int (nI i)), (3, .int x359), (2, .int x358), (1, .int x357), (0, .ref o)]) X.1 X.2.1 d_Ha_compress_311 hl (by decide) rfl (fun ls hl => ?_)
                        refine lv_iload_n X.1 X.2.1 d_Ha_compress_313 rfl (lv_at hl 6 rfl) ?_
                        refine lv_bipush (v := (nI 30)) X.1 X.2.1 d_Ha_compress_314 (by decide) ?_
                        refine lv_ishl X.1 X.2.1 d_Ha_compress_316 ?_
                        refine t_any (fun v473 => ?_)
                        refine lv_iload_n X.1 X.2.1 d_Ha_compress_317 rfl (lv_at hl 6 rfl) ?_
                        refine lv_iconst (v := (nI 2)) X.1 X.2.1 d_Ha_compress_318 (by decide) ?_
                        obtain ⟨v474, ev474⟩ : ∃ z : Int32, ((x358 : Int32).toUInt32 >>> (((nI 2) : Int32).toUInt32 &&& Int32.toUInt32 31)).toInt32 = z := ⟨_, rfl⟩
                        refine lv_iushr (v := v474) X.1 X.2.1 d_Ha_compress_319 ev474 ?_
                        refine lv_ior X.1 X.2.1 d_Ha_compress_320 ?_
                        refine t_any (fun v475 => ?_)
                        refine lv_istore_n (lv' := [(3, .int v475), (4, .int x359), (5, .int x360), (8, .int v472), (7, .int v465), (6, .int (nI i)), (2, .int x358), (1, .int x357), (0, .ref o)]) X.1 X.2.1 d_Ha_compress_321 rfl hl (by decide) rfl (fun ls hl => ?_)
                        refine lv_iload_n X.1 X.2.1 d_Ha_compress_322 rfl (lv_at hl 7 rfl) ?_
                        refine lv_istore_n (lv' := [(2, .int x357), (3, .int v475), (4, .int x359), (5, .int x360), (8, .int v472), (7, .int v465), (6, .int (nI i)), (1, .int x357), (0, .ref o)]) X.1 X.2.1 d_Ha_compress_323 rfl hl (by decide) rfl (fun ls hl => ?_)
                        refine lv_iload X.1 X.2.1 d_Ha_compress_324 (lv_at hl 4 rfl) ?_
                        refine lv_istore_n (lv' := [(1, .int v472), (2, .int x357), (3, .int v475), (4, .int x359), (5, .int x360), (8, .int v472), (7, .int v465), (6, .int (nI i)), (0, .ref o)]) X.1 X.2.1 d_Ha_compress_326 rfl hl (by decide) rfl (fun ls hl => ?_)
                        refine lv_iinc (v := (nI (i + 1))) (lv' := [(6, .int (nI (i + 1))), (1, .int v472), (2, .int x357), (3, .int v475), (4, .int x359), (5, .int x360), (8, .int v472), (7, .int v465), (0, .ref o)]) X.1 X.2.1 d_Ha_compress_327 hl (k := 7) rfl (nI_add _ 1) (by decide) rfl (fun ls hl => ?_)
                        refine lv_goto (tgt := 190) X.1 X.2.1 d_Ha_compress_330 (by decide) ?_
                        exact False.elim (by omega)
                    · skip
                      rw [nI_leI (by omega) (by omega)] at c431
                      refine lv_iload_n X.1 X.2.1 d_Ha_compress_204 rfl (lv_at hl 4 rfl) ?_
                      refine lv_iload_n X.1 X.2.1 d_Ha_compress_205 rfl (lv_at hl 3 rfl) ?_
                      refine lv_iand X.1 X.2.1 d_Ha_compress_206 ?_
                      refine t_any (fun v476 => ?_)
                      refine lv_iload_n X.1 X.2.1 d_Ha_compress_207 rfl (lv_at hl 4 rfl) ?_
                      refine lv_iconst (v := (-1)) X.1 X.2.1 d_Ha_compress_208 (by decide) ?_
                      refine lv_ixor X.1 X.2.1 d_Ha_compress_209 ?_
                      refine t_any (fun v477 => ?_)
                      refine lv_iload X.1 X.2.1 d_Ha_compress_210 (lv_at hl 2 rfl) ?_
                      refine lv_iand X.1 X.2.1 d_Ha_compress_212 ?_
                      refine t_any (fun v478 => ?_)
                      refine lv_ior X.1 X.2.1 d_Ha_compress_213 ?_
                      refine t_any (fun v479 => ?_)
                      refine lv_ldc (v := (1518500249)) X.1 X.2.1 X.2.2.2.1 (X.2.2.1 _ cn_Ha_57) d_Ha_compress_214 ?_
                      refine t_eq (y := nI 1518500249) (by decide) ?_
                      refine lv_iadd X.1 X.2.1 d_Ha_compress_216 ?_
                      refine t_any (fun v480 => ?_)
                      refine lv_istore (lv' := [(7, .int v480), (6, .int (nI i)), (5, .int x361), (4, .int x360), (3, .int x359), (2, .int x358), (1, .int x357), (0, .ref o)]) X.1 X.2.1 d_Ha_compress_217 hl (by decide) rfl (fun ls hl => ?_)
                      refine lv_goto (tgt := 282) X.1 X.2.1 d_Ha_compress_219 (by decide) ?_
                      refine lv_iload_n X.1 X.2.1 d_Ha_compress_282 rfl (lv_at hl 6 rfl) ?_
                      refine lv_iconst (v := (nI 5)) X.1 X.2.1 d_Ha_compress_283 (by decide) ?_
                      refine lv_ishl X.1 X.2.1 d_Ha_compress_284 ?_
                      refine t_any (fun v481 => ?_)
                      refine lv_iload_n X.1 X.2.1 d_Ha_compress_285 rfl (lv_at hl 6 rfl) ?_
                      refine lv_bipush (v := (nI 27)) X.1 X.2.1 d_Ha_compress_286 (by decide) ?_
                      obtain ⟨v482, ev482⟩ : ∃ z : Int32, ((x357 : Int32).toUInt32 >>> (((nI 27) : Int32).toUInt32 &&& Int32.toUInt32 31)).toInt32 = z := ⟨_, rfl⟩
                      refine lv_iushr (v := v482) X.1 X.2.1 d_Ha_compress_288 ev482 ?_
                      refine lv_ior X.1 X.2.1 d_Ha_compress_289 ?_
                      refine t_any (fun v483 => ?_)
                      refine lv_iload X.1 X.2.1 d_Ha_compress_290 (lv_at hl 0 rfl) ?_
                      refine lv_iadd X.1 X.2.1 d_Ha_compress_292 ?_
                      refine t_any (fun v484 => ?_)
                      refine lv_iload X.1 X.2.1 d_Ha_compress_293 (lv_at hl 2 rfl) ?_
                      refine lv_iadd X.1 X.2.1 d_Ha_compress_295 ?_
                      refine t_any (fun v485 => ?_)
                      refine lv_aload_n X.1 X.2.1 d_Ha_compress_296 rfl (lv_at hl 7 rfl) ?_
                      refine q_get X.1 X.2.1 X.2.2.1 i_Ha X.2.2.2.1 X.2.2.2.2 Y m_o e348 rfl 0 (by decide) (X.2.2.1 _ lk_Ha_7) (fun _ h9 => h9) rfl d_Ha_compress_297 ?_
                      refine lv_iload X.1 X.2.1 d_Ha_compress_300 (lv_at hl 1 rfl) ?_
                      refine q_iald X.1 X.2.1 X.2.2.2.2 Y 1 m_wd e349 rfl (vp_in_nI (by omega) (by omega)) d_Ha_compress_302 ?_
                      refine t_any (fun v486 => ?_)
                      refine lv_iadd X.1 X.2.1 d_Ha_compress_303 ?_
                      refine t_any (fun v487 => ?_)
                      refine lv_istore (lv' := [(8, .int v487), (7, .int v480), (6, .int (nI i)), (5, .int x361), (4, .int x360), (3, .int x359), (2, .int x358), (1, .int x357), (0, .ref o)]) X.1 X.2.1 d_Ha_compress_304 hl (by decide) rfl (fun ls hl => ?_)
                      refine lv_iload X.1 X.2.1 d_Ha_compress_306 (lv_at hl 4 rfl) ?_
                      refine lv_istore (lv' := [(5, .int x360), (8, .int v487), (7, .int v480), (6, .int (nI i)), (4, .int x360), (3, .int x359), (2, .int x358), (1, .int x357), (0, .ref o)]) X.1 X.2.1 d_Ha_compress_308 hl (by decide) rfl (fun ls hl => ?_)
                      refine lv_iload_n X.1 X.2.1 d_Ha_compress_310 rfl (lv_at hl 5 rfl) ?_
                      refine lv_istore (lv' := [(4, .int x359), (5, .int x360), (8, .int v487), (7, .int v480), (6, .int (nI i)), (3, .int x359), (2, .int x358), (1, .int x357), (0, .ref o)]) X.1 X.2.1 d_Ha_compress_311 hl (by decide) rfl (fun ls hl => ?_)
                      refine lv_iload_n X.1 X.2.1 d_Ha_compress_313 rfl (lv_at hl 6 rfl) ?_
                      refine lv_bipush (v := (nI 30)) X.1 X.2.1 d_Ha_compress_314 (by decide) ?_
                      refine lv_ishl X.1 X.2.1 d_Ha_compress_316 ?_
                      refine t_any (fun v488 => ?_)
                      refine lv_iload_n X.1 X.2.1 d_Ha_compress_317 rfl (lv_at hl 6 rfl) ?_
                      refine lv_iconst (v := (nI 2)) X.1 X.2.1 d_Ha_compress_318 (by decide) ?_
                      obtain ⟨v489, ev489⟩ : ∃ z : Int32, ((x358 : Int32).toUInt32 >>> (((nI 2) : Int32).toUInt32 &&& Int32.toUInt32 31)).toInt32 = z := ⟨_, rfl⟩
                      refine lv_iushr (v := v489) X.1 X.2.1 d_Ha_compress_319 ev489 ?_
                      refine lv_ior X.1 X.2.1 d_Ha_compress_320 ?_
                      refine t_any (fun v490 => ?_)
                      refine lv_istore_n (lv' := [(3, .int v490), (4, .int x359), (5, .int x360), (8, .int v487), (7, .int v480), (6, .int (nI i)), (2, .int x358), (1, .int x357), (0, .ref o)]) X.1 X.2.1 d_Ha_compress_321 rfl hl (by decide) rfl (fun ls hl => ?_)
                      refine lv_iload_n X.1 X.2.1 d_Ha_compress_322 rfl (lv_at hl 7 rfl) ?_
                      refine lv_istore_n (lv' := [(2, .int x357), (3, .int v490), (4, .int x359), (5, .int x360), (8, .int v487), (7, .int v480), (6, .int (nI i)), (1, .int x357), (0, .ref o)]) X.1 X.2.1 d_Ha_compress_323 rfl hl (by decide) rfl (fun ls hl => ?_)
                      refine lv_iload X.1 X.2.1 d_Ha_compress_324 (lv_at hl 4 rfl) ?_
                      refine lv_istore_n (lv' := [(1, .int v487), (2, .int x357), (3, .int v490), (4, .int x359), (5, .int x360), (8, .int v487), (7, .int v480), (6, .int (nI i)), (0, .ref o)]) X.1 X.2.1 d_Ha_compress_326 rfl hl (by decide) rfl (fun ls hl => ?_)
                      refine lv_iinc (v := (nI (i + 1))) (lv' := [(6, .int (nI (i + 1))), (1, .int v487), (2, .int x357), (3, .int v490), (4, .int x359), (5, .int x360), (8, .int v487), (7, .int v480), (0, .ref o)]) X.1 X.2.1 d_Ha_compress_327 hl (k := 7) rfl (nI_add _ 1) (by decide) rfl (fun ls hl => ?_)
                      refine lv_goto (tgt := 190) X.1 X.2.1 d_Ha_compress_330 (by decide) ?_
                      exact False.elim (by omega)
                | succ n344 ih345 =>
                  intro i x357 x358 x359 x360 x361 g350 g353 f346 H locs ls hm364 hc362 hc363  e348 e349 e351 e352 e354 e355 e356 hF347 Y hl
                  refine lv_iload X.1 X.2.1 d_Ha_compress_190 (lv_at hl 0 rfl) ?_
                  refine lv_bipush (v := (nI 80)) X.1 X.2.1 d_Ha_compress_192 (by decide) ?_
                  refine lv_icmp_ge (tgt := 333) X.1 X.2.1 d_Ha_compress_194 (by decide) (fun c491 => ?_) (fun c491 => ?_)
                  · skip
                    rw [nI_leI (by omega) (by omega)] at c491
                    refine lv_aload_n X.1 X.2.1 d_Ha_compress_333 rfl (lv_at hl 6 rfl) ?_
                    refine q_get X.1 X.2.1 X.2.2.1 i_Ha X.2.2.2.1 X.2.2.2.2 Y m_o e348 rfl 2 (by decide) (X.2.2.1 _ lk_Ha_17) (fun _ h9 => h9) rfl d_Ha_compress_334 ?_
                    refine lv_iconst (v := (nI 0)) X.1 X.2.1 d_Ha_compress_337 (by decide) ?_
                    refine lv_dup2_11 X.1 X.2.1 d_Ha_compress_338 rfl rfl ?_
                    refine q_iald X.1 X.2.1 X.2.2.2.2 Y 1 m_sta e352 rfl (vp_in_nI (by omega) (by omega)) d_Ha_compress_339 ?_
                    refine t_any (fun v492 => ?_)
                    refine lv_iload_n X.1 X.2.1 d_Ha_compress_340 rfl (lv_at hl 5 rfl) ?_
                    refine lv_iadd X.1 X.2.1 d_Ha_compress_341 ?_
                    refine t_any (fun v493 => ?_)
                    refine q_iast X.1 X.2.1 X.2.2.2.2 Y 1 m_sta e352 rfl (vp_in_nI (by omega) (by omega)) d_Ha_compress_342 (fun H locs Y => ?_)
                    generalize (upd g353 ((nI 0)).toNatClampNeg v493) = g494 at Y
                    have e497 : (va_up f346 sta (.inl (E.2.1, 5, .inl g494))) sta = .inl (E.2.1, 5, .inl g494) := q_up
                    have e498 : (va_up f346 sta (.inl (E.2.1, 5, .inl g494))) o = .inr (6, [.ref wd, .ref bl, .ref sta, .ref inn, .ref out, .int (nI fl), .int tot, .ref mac]) := (q_ne (q_tag e348 e352 (show (6 : Nat) ≠ 1000 by decide))).trans e348
                    have e499 : (va_up f346 sta (.inl (E.2.1, 5, .inl g494))) wd = .inl (E.2.1, 80, .inl g350) := (q_ne ap_wd_sta).trans e349
                    have e500 : (va_up f346 sta (.inl (E.2.1, 5, .inl g494))) bl = .inl (E.1, 64, .inl g_bl) := (q_ne ap_bl_sta).trans e351
                    have e501 : (va_up f346 sta (.inl (E.2.1, 5, .inl g494))) inn = .inl (E.2.1, 5, .inl g_inn) := (q_ne ap_sta_inn.symm).trans e354
                    have e502 : (va_up f346 sta (.inl (E.2.1, 5, .inl g494))) out = .inl (E.2.1, 5, .inl g_out) := (q_ne ap_sta_out.symm).trans e355
                    have e503 : (va_up f346 sta (.inl (E.2.1, 5, .inl g494))) mac = .inl (E.1, 20, .inl g_mac) := (q_ne ap_sta_mac.symm).trans e356
                    have hF504 : ∀ x, x ≠ wd → x ≠ sta → (va_up f346 sta (.inl (E.2.1, 5, .inl g494))) x = f x := fun x h0 h1 => (q_ne h1).trans (hF347 x h0 h1)
                    have Y : pH D cCl (pA L sz) s.heap L (va_up f346 sta (.inl (E.2.1, 5, .inl g494))) H locs := Y
                    generalize (va_up f346 sta (.inl (E.2.1, 5, .inl g494))) = f496 at Y e497 e498 e499 e500 e501 e502 e503 hF504
                    refine lv_aload_n X.1 X.2.1 d_Ha_compress_343 rfl (lv_at hl 6 rfl) ?_
                    refine q_get X.1 X.2.1 X.2.2.1 i_Ha X.2.2.2.1 X.2.2.2.2 Y m_o e498 rfl 2 (by decide) (X.2.2.1 _ lk_Ha_17) (fun _ h9 => h9) rfl d_Ha_compress_344 ?_
                    refine lv_iconst (v := (nI 1)) X.1 X.2.1 d_Ha_compress_347 (by decide) ?_
                    refine lv_dup2_11 X.1 X.2.1 d_Ha_compress_348 rfl rfl ?_
                    refine q_iald X.1 X.2.1 X.2.2.2.2 Y 1 m_sta e497 rfl (vp_in_nI (by omega) (by omega)) d_Ha_compress_349 ?_
                    refine t_any (fun v505 => ?_)
                    refine lv_iload_n X.1 X.2.1 d_Ha_compress_350 rfl (lv_at hl 4 rfl) ?_
                    refine lv_iadd X.1 X.2.1 d_Ha_compress_351 ?_
                    refine t_any (fun v506 => ?_)
                    refine q_iast X.1 X.2.1 X.2.2.2.2 Y 1 m_sta e497 rfl (vp_in_nI (by omega) (by omega)) d_Ha_compress_352 (fun H locs Y => ?_)
                    generalize (upd g494 ((nI 1)).toNatClampNeg v506) = g507 at Y
                    have e510 : (va_up f496 sta (.inl (E.2.1, 5, .inl g507))) sta = .inl (E.2.1, 5, .inl g507) := q_up
                    have e511 : (va_up f496 sta (.inl (E.2.1, 5, .inl g507))) o = .inr (6, [.ref wd, .ref bl, .ref sta, .ref inn, .ref out, .int (nI fl), .int tot, .ref mac]) := (q_ne (q_tag e498 e497 (show (6 : Nat) ≠ 1000 by decide))).trans e498
                    have e512 : (va_up f496 sta (.inl (E.2.1, 5, .inl g507))) wd = .inl (E.2.1, 80, .inl g350) := (q_ne ap_wd_sta).trans e499
                    have e513 : (va_up f496 sta (.inl (E.2.1, 5, .inl g507))) bl = .inl (E.1, 64, .inl g_bl) := (q_ne ap_bl_sta).trans e500
                    have e514 : (va_up f496 sta (.inl (E.2.1, 5, .inl g507))) inn = .inl (E.2.1, 5, .inl g_inn) := (q_ne ap_sta_inn.symm).trans e501
                    have e515 : (va_up f496 sta (.inl (E.2.1, 5, .inl g507))) out = .inl (E.2.1, 5, .inl g_out) := (q_ne ap_sta_out.symm).trans e502
                    have e516 : (va_up f496 sta (.inl (E.2.1, 5, .inl g507))) mac = .inl (E.1, 20, .inl g_mac) := (q_ne ap_sta_mac.symm).trans e503
                    have hF517 : ∀ x, x ≠ wd → x ≠ sta → (va_up f496 sta (.inl (E.2.1, 5, .inl g507))) x = f x := fun x h0 h1 => (q_ne h1).trans (hF504 x h0 h1)
                    have Y : pH D cCl (pA L sz) s.heap L (va_up f496 sta (.inl (E.2.1, 5, .inl g507))) H locs := Y
                    generalize (va_up f496 sta (.inl (E.2.1, 5, .inl g507))) = f509 at Y e510 e511 e512 e513 e514 e515 e516 hF517
                    refine lv_aload_n X.1 X.2.1 d_Ha_compress_353 rfl (lv_at hl 6 rfl) ?_
                    refine q_get X.1 X.2.1 X.2.2.1 i_Ha X.2.2.2.1 X.2.2.2.2 Y m_o e511 rfl 2 (by decide) (X.2.2.1 _ lk_Ha_17) (fun _ h9 => h9) rfl d_Ha_compress_354 ?_
                    refine lv_iconst (v := (nI 2)) X.1 X.2.1 d_Ha_compress_357 (by decide) ?_
                    refine lv_dup2_11 X.1 X.2.1 d_Ha_compress_358 rfl rfl ?_
                    refine q_iald X.1 X.2.1 X.2.2.2.2 Y 1 m_sta e510 rfl (vp_in_nI (by omega) (by omega)) d_Ha_compress_359 ?_
                    refine t_any (fun v518 => ?_)
                    refine lv_iload_n X.1 X.2.1 d_Ha_compress_360 rfl (lv_at hl 3 rfl) ?_
                    refine lv_iadd X.1 X.2.1 d_Ha_compress_361 ?_
                    refine t_any (fun v519 => ?_)
                    refine q_iast X.1 X.2.1 X.2.2.2.2 Y 1 m_sta e510 rfl (vp_in_nI (by omega) (by omega)) d_Ha_compress_362 (fun H locs Y => ?_)
                    generalize (upd g507 ((nI 2)).toNatClampNeg v519) = g520 at Y
                    have e523 : (va_up f509 sta (.inl (E.2.1, 5, .inl g520))) sta = .inl (E.2.1, 5, .inl g520) := q_up
                    have e524 : (va_up f509 sta (.inl (E.2.1, 5, .inl g520))) o = .inr (6, [.ref wd, .ref bl, .ref sta, .ref inn, .ref out, .int (nI fl), .int tot, .ref mac]) := (q_ne (q_tag e511 e510 (show (6 : Nat) ≠ 1000 by decide))).trans e511
                    have e525 : (va_up f509 sta (.inl (E.2.1, 5, .inl g520))) wd = .inl (E.2.1, 80, .inl g350) := (q_ne ap_wd_sta).trans e512
                    have e526 : (va_up f509 sta (.inl (E.2.1, 5, .inl g520))) bl = .inl (E.1, 64, .inl g_bl) := (q_ne ap_bl_sta).trans e513
                    have e527 : (va_up f509 sta (.inl (E.2.1, 5, .inl g520))) inn = .inl (E.2.1, 5, .inl g_inn) := (q_ne ap_sta_inn.symm).trans e514
                    have e528 : (va_up f509 sta (.inl (E.2.1, 5, .inl g520))) out = .inl (E.2.1, 5, .inl g_out) := (q_ne ap_sta_out.symm).trans e515
                    have e529 : (va_up f509 sta (.inl (E.2.1, 5, .inl g520))) mac = .inl (E.1, 20, .inl g_mac) := (q_ne ap_sta_mac.symm).trans e516
                    have hF530 : ∀ x, x ≠ wd → x ≠ sta → (va_up f509 sta (.inl (E.2.1, 5, .inl g520))) x = f x := fun x h0 h1 => (q_ne h1).trans (hF517 x h0 h1)
                    have Y : pH D cCl (pA L sz) s.heap L (va_up f509 sta (.inl (E.2.1, 5, .inl g520))) H locs := Y
                    generalize (va_up f509 sta (.inl (E.2.1, 5, .inl g520))) = f522 at Y e523 e524 e525 e526 e527 e528 e529 hF530
                    refine lv_aload_n X.1 X.2.1 d_Ha_compress_363 rfl (lv_at hl 6 rfl) ?_
                    refine q_get X.1 X.2.1 X.2.2.1 i_Ha X.2.2.2.1 X.2.2.2.2 Y m_o e524 rfl 2 (by decide) (X.2.2.1 _ lk_Ha_17) (fun _ h9 => h9) rfl d_Ha_compress_364 ?_
                    refine lv_iconst (v := (nI 3)) X.1 X.2.1 d_Ha_compress_367 (by decide) ?_
                    refine lv_dup2_11 X.1 X.2.1 d_Ha_compress_368 rfl rfl ?_
                    refine q_iald X.1 X.2.1 X.2.2.2.2 Y 1 m_sta e523 rfl (vp_in_nI (by omega) (by omega)) d_Ha_compress_369 ?_
                    refine t_any (fun v531 => ?_)
                    refine lv_iload X.1 X.2.1 d_Ha_compress_370 (lv_at hl 2 rfl) ?_
                    refine lv_iadd X.1 X.2.1 d_Ha_compress_372 ?_
                    refine t_any (fun v532 => ?_)
                    refine q_iast X.1 X.2.1 X.2.2.2.2 Y 1 m_sta e523 rfl (vp_in_nI (by omega) (by omega)) d_Ha_compress_373 (fun H locs Y => ?_)
                    generalize (upd g520 ((nI 3)).toNatClampNeg v532) = g533 at Y
                    have e536 : (va_up f522 sta (.inl (E.2.1, 5, .inl g533))) sta = .inl (E.2.1, 5, .inl g533) := q_up
                    have e537 : (va_up f522 sta (.inl (E.2.1, 5, .inl g533))) o = .inr (6, [.ref wd, .ref bl, .ref sta, .ref inn, .ref out, .int (nI fl), .int tot, .ref mac]) := (q_ne (q_tag e524 e523 (show (6 : Nat) ≠ 1000 by decide))).trans e524
                    have e538 : (va_up f522 sta (.inl (E.2.1, 5, .inl g533))) wd = .inl (E.2.1, 80, .inl g350) := (q_ne ap_wd_sta).trans e525
                    have e539 : (va_up f522 sta (.inl (E.2.1, 5, .inl g533))) bl = .inl (E.1, 64, .inl g_bl) := (q_ne ap_bl_sta).trans e526
                    have e540 : (va_up f522 sta (.inl (E.2.1, 5, .inl g533))) inn = .inl (E.2.1, 5, .inl g_inn) := (q_ne ap_sta_inn.symm).trans e527
                    have e541 : (va_up f522 sta (.inl (E.2.1, 5, .inl g533))) out = .inl (E.2.1, 5, .inl g_out) := (q_ne ap_sta_out.symm).trans e528
                    have e542 : (va_up f522 sta (.inl (E.2.1, 5, .inl g533))) mac = .inl (E.1, 20, .inl g_mac) := (q_ne ap_sta_mac.symm).trans e529
                    have hF543 : ∀ x, x ≠ wd → x ≠ sta → (va_up f522 sta (.inl (E.2.1, 5, .inl g533))) x = f x := fun x h0 h1 => (q_ne h1).trans (hF530 x h0 h1)
                    have Y : pH D cCl (pA L sz) s.heap L (va_up f522 sta (.inl (E.2.1, 5, .inl g533))) H locs := Y
                    generalize (va_up f522 sta (.inl (E.2.1, 5, .inl g533))) = f535 at Y e536 e537 e538 e539 e540 e541 e542 hF543
                    refine lv_aload_n X.1 X.2.1 d_Ha_compress_374 rfl (lv_at hl 6 rfl) ?_
                    refine q_get X.1 X.2.1 X.2.2.1 i_Ha X.2.2.2.1 X.2.2.2.2 Y m_o e537 rfl 2 (by decide) (X.2.2.1 _ lk_Ha_17) (fun _ h9 => h9) rfl d_Ha_compress_375 ?_
                    refine lv_iconst (v := (nI 4)) X.1 X.2.1 d_Ha_compress_378 (by decide) ?_
                    refine lv_dup2_11 X.1 X.2.1 d_Ha_compress_379 rfl rfl ?_
                    refine q_iald X.1 X.2.1 X.2.2.2.2 Y 1 m_sta e536 rfl (vp_in_nI (by omega) (by omega)) d_Ha_compress_380 ?_
                    refine t_any (fun v544 => ?_)
                    refine lv_iload X.1 X.2.1 d_Ha_compress_381 (lv_at hl 1 rfl) ?_
                    refine lv_iadd X.1 X.2.1 d_Ha_compress_383 ?_
                    refine t_any (fun v545 => ?_)
                    refine q_iast X.1 X.2.1 X.2.2.2.2 Y 1 m_sta e536 rfl (vp_in_nI (by omega) (by omega)) d_Ha_compress_384 (fun H locs Y => ?_)
                    generalize (upd g533 ((nI 4)).toNatClampNeg v545) = g546 at Y
                    have e549 : (va_up f535 sta (.inl (E.2.1, 5, .inl g546))) sta = .inl (E.2.1, 5, .inl g546) := q_up
                    have e550 : (va_up f535 sta (.inl (E.2.1, 5, .inl g546))) o = .inr (6, [.ref wd, .ref bl, .ref sta, .ref inn, .ref out, .int (nI fl), .int tot, .ref mac]) := (q_ne (q_tag e537 e536 (show (6 : Nat) ≠ 1000 by decide))).trans e537
                    have e551 : (va_up f535 sta (.inl (E.2.1, 5, .inl g546))) wd = .inl (E.2.1, 80, .inl g350) := (q_ne ap_wd_sta).trans e538
                    have e552 : (va_up f535 sta (.inl (E.2.1, 5, .inl g546))) bl = .inl (E.1, 64, .inl g_bl) := (q_ne ap_bl_sta).trans e539
                    have e553 : (va_up f535 sta (.inl (E.2.1, 5, .inl g546))) inn = .inl (E.2.1, 5, .inl g_inn) := (q_ne ap_sta_inn.symm).trans e540
                    have e554 : (va_up f535 sta (.inl (E.2.1, 5, .inl g546))) out = .inl (E.2.1, 5, .inl g_out) := (q_ne ap_sta_out.symm).trans e541
                    have e555 : (va_up f535 sta (.inl (E.2.1, 5, .inl g546))) mac = .inl (E.1, 20, .inl g_mac) := (q_ne ap_sta_mac.symm).trans e542
                    have hF556 : ∀ x, x ≠ wd → x ≠ sta → (va_up f535 sta (.inl (E.2.1, 5, .inl g546))) x = f x := fun x h0 h1 => (q_ne h1).trans (hF543 x h0 h1)
                    have Y : pH D cCl (pA L sz) s.heap L (va_up f535 sta (.inl (E.2.1, 5, .inl g546))) H locs := Y
                    generalize (va_up f535 sta (.inl (E.2.1, 5, .inl g546))) = f548 at Y e549 e550 e551 e552 e553 e554 e555 hF556
                    exact c_retv hQQ X Y hr hlk ⟨rfl, hF556, g350, g546, e551, e549⟩ d_Ha_compress_385
                  · skip
                    rw [nI_leI (by omega) (by omega)] at c491
                    refine lv_iload X.1 X.2.1 d_Ha_compress_197 (lv_at hl 0 rfl) ?_
                    refine lv_bipush (v := (nI 20)) X.1 X.2.1 d_Ha_compress_199 (by decide) ?_
                    refine lv_icmp_ge (tgt := 222) X.1 X.2.1 d_Ha_compress_201 (by decide) (fun c557 => ?_) (fun c557 => ?_)
                    · skip
                      rw [nI_leI (by omega) (by omega)] at c557
                      refine lv_iload X.1 X.2.1 d_Ha_compress_222 (lv_at hl 0 rfl) ?_
                      refine lv_bipush (v := (nI 40)) X.1 X.2.1 d_Ha_compress_224 (by decide) ?_
                      refine lv_icmp_ge (tgt := 243) X.1 X.2.1 d_Ha_compress_226 (by decide) (fun c558 => ?_) (fun c558 => ?_)
                      · skip
                        rw [nI_leI (by omega) (by omega)] at c558
                        refine lv_iload X.1 X.2.1 d_Ha_compress_243 (lv_at hl 0 rfl) ?_
                        refine lv_bipush (v := (nI 60)) X.1 X.2.1 d_Ha_compress_245 (by decide) ?_
                        refine lv_icmp_ge (tgt := 271) X.1 X.2.1 d_Ha_compress_247 (by decide) (fun c559 => ?_) (fun c559 => ?_)
                        · skip
                          rw [nI_leI (by omega) (by omega)] at c559
                          refine lv_iload_n X.1 X.2.1 d_Ha_compress_271 rfl (lv_at hl 4 rfl) ?_
                          refine lv_iload_n X.1 X.2.1 d_Ha_compress_272 rfl (lv_at hl 3 rfl) ?_
                          refine lv_ixor X.1 X.2.1 d_Ha_compress_273 ?_
                          refine t_any (fun v560 => ?_)
                          refine lv_iload X.1 X.2.1 d_Ha_compress_274 (lv_at hl 2 rfl) ?_
                          refine lv_ixor X.1 X.2.1 d_Ha_compress_276 ?_
                          refine t_any (fun v561 => ?_)
                          refine lv_ldc (v := (-899497514)) X.1 X.2.1 X.2.2.2.1 (X.2.2.1 _ cn_Ha_60) d_Ha_compress_277 ?_
                          refine lv_iadd X.1 X.2.1 d_Ha_compress_279 ?_
                          refine t_any (fun v562 => ?_)
                          refine lv_istore (lv' := [(7, .int v562), (6, .int (nI i)), (5, .int x361), (4, .int x360), (3, .int x359), (2, .int x358), (1, .int x357), (0, .ref o)]) X.1 X.2.1 d_Ha_compress_280 hl (by decide) rfl (fun ls hl => ?_)
                          refine lv_iload_n X.1 X.2.1 d_Ha_compress_282 rfl (lv_at hl 6 rfl) ?_
                          refine lv_iconst (v := (nI 5)) X.1 X.2.1 d_Ha_compress_283 (by decide) ?_
                          refine lv_ishl X.1 X.2.1 d_Ha_compress_284 ?_
                          refine t_any (fun v563 => ?_)
                          refine lv_iload_n X.1 X.2.1 d_Ha_compress_285 rfl (lv_at hl 6 rfl) ?_
                          refine lv_bipush (v := (nI 27)) X.1 X.2.1 d_Ha_compress_286 (by decide) ?_
                          obtain ⟨v564, ev564⟩ : ∃ z : Int32, ((x357 : Int32).toUInt32 >>> (((nI 27) : Int32).toUInt32 &&& Int32.toUInt32 31)).toInt32 = z := ⟨_, rfl⟩
                          refine lv_iushr (v := v564) X.1 X.2.1 d_Ha_compress_288 ev564 ?_
                          refine lv_ior X.1 X.2.1 d_Ha_compress_289 ?_
                          refine t_any (fun v565 => ?_)
                          refine lv_iload X.1 X.2.1 d_Ha_compress_290 (lv_at hl 0 rfl) ?_
                          refine lv_iadd X.1 X.2.1 d_Ha_compress_292 ?_
                          refine t_any (fun v566 => ?_)
                          refine lv_iload X.1 X.2.1 d_Ha_compress_293 (lv_at hl 2 rfl) ?_
                          refine lv_iadd X.1 X.2.1 d_Ha_compress_295 ?_
                          refine t_any (fun v567 => ?_)
                          refine lv_aload_n X.1 X.2.1 d_Ha_compress_296 rfl (lv_at hl 7 rfl) ?_
                          refine q_get X.1 X.2.1 X.2.2.1 i_Ha X.2.2.2.1 X.2.2.2.2 Y m_o e348 rfl 0 (by decide) (X.2.2.1 _ lk_Ha_7) (fun _ h9 => h9) rfl d_Ha_compress_297 ?_
                          refine lv_iload X.1 X.2.1 d_Ha_compress_300 (lv_at hl 1 rfl) ?_
                          refine q_iald X.1 X.2.1 X.2.2.2.2 Y 1 m_wd e349 rfl (vp_in_nI (by omega) (by omega)) d_Ha_compress_302 ?_
                          refine t_any (fun v568 => ?_)
                          refine lv_iadd X.1 X.2.1 d_Ha_compress_303 ?_
                          refine t_any (fun v569 => ?_)
                          refine lv_istore (lv' := [(8, .int v569), (7, .int v562), (6, .int (nI i)), (5, .int x361), (4, .int x360), (3, .int x359), (2, .int x358), (1, .int x357), (0, .ref o)]) X.1 X.2.1 d_Ha_compress_304 hl (by decide) rfl (fun ls hl => ?_)
                          refine lv_iload X.1 X.2.1 d_Ha_compress_306 (lv_at hl 4 rfl) ?_
                          refine lv_istore (lv' := [(5, .int x360), (8, .int v569), (7, .int v562), (6, .int (nI i)), (4, .int x360), (3, .int x359), (2, .int x358), (1, .int x357), (0, .ref o)]) X.1 X.2.1 d_Ha_compress_308 hl (by decide) rfl (fun ls hl => ?_)
                          refine lv_iload_n X.1 X.2.1 d_Ha_compress_310 rfl (lv_at hl 5 rfl) ?_
                          refine lv_istore (lv' := [(4, .int x359), (5, .int x360), (8, .int v569), (7, .int v562), (6, .int (nI i)), (3, .int x359), (2, .int x358), (1, .int x357), (0, .ref o)]) X.1 X.2.1 d_Ha_compress_311 hl (by decide) rfl (fun ls hl => ?_)
                          refine lv_iload_n X.1 X.2.1 d_Ha_compress_313 rfl (lv_at hl 6 rfl) ?_
                          refine lv_bipush (v := (nI 30)) X.1 X.2.1 d_Ha_compress_314 (by decide) ?_
                          refine lv_ishl X.1 X.2.1 d_Ha_compress_316 ?_
                          refine t_any (fun v570 => ?_)
                          refine lv_iload_n X.1 X.2.1 d_Ha_compress_317 rfl (lv_at hl 6 rfl) ?_
                          refine lv_iconst (v := (nI 2)) X.1 X.2.1 d_Ha_compress_318 (by decide) ?_
                          obtain ⟨v571, ev571⟩ : ∃ z : Int32, ((x358 : Int32).toUInt32 >>> (((nI 2) : Int32).toUInt32 &&& Int32.toUInt32 31)).toInt32 = z := ⟨_, rfl⟩
                          refine lv_iushr (v := v571) X.1 X.2.1 d_Ha_compress_319 ev571 ?_
                          refine lv_ior X.1 X.2.1 d_Ha_compress_320 ?_
                          refine t_any (fun v572 => ?_)
                          refine lv_istore_n (lv' := [(3, .int v572), (4, .int x359), (5, .int x360), (8, .int v569), (7, .int v562), (6, .int (nI i)), (2, .int x358), (1, .int x357), (0, .ref o)]) X.1 X.2.1 d_Ha_compress_321 rfl hl (by decide) rfl (fun ls hl => ?_)
                          refine lv_iload_n X.1 X.2.1 d_Ha_compress_322 rfl (lv_at hl 7 rfl) ?_
                          refine lv_istore_n (lv' := [(2, .int x357), (3, .int v572), (4, .int x359), (5, .int x360), (8, .int v569), (7, .int v562), (6, .int (nI i)), (1, .int x357), (0, .ref o)]) X.1 X.2.1 d_Ha_compress_323 rfl hl (by decide) rfl (fun ls hl => ?_)
                          refine lv_iload X.1 X.2.1 d_Ha_compress_324 (lv_at hl 4 rfl) ?_
                          refine lv_istore_n (lv' := [(1, .int v569), (2, .int x357), (3, .int v572), (4, .int x359), (5, .int x360), (8, .int v569), (7, .int v562), (6, .int (nI i)), (0, .ref o)]) X.1 X.2.1 d_Ha_compress_326 rfl hl (by decide) rfl (fun ls hl => ?_)
                          refine lv_iinc (v := (nI (i + 1))) (lv' := [(6, .int (nI (i + 1))), (1, .int v569), (2, .int x357), (3, .int v572), (4, .int x359), (5, .int x360), (8, .int v569), (7, .int v562), (0, .ref o)]) X.1 X.2.1 d_Ha_compress_327 hl (k := 7) rfl (nI_add _ 1) (by decide) rfl (fun ls hl => ?_)
                          refine lv_goto (tgt := 190) X.1 X.2.1 d_Ha_compress_330 (by decide) ?_
                          exact ih345  (i + 1)  (v569) (x357) (v572) (x359) (x360) g350 g353 f346 _ _ _ (by omega) (by omega) (by omega)  e348 e349 e351 e352 e354 e355 e356 hF347 Y (lv_sub hl [0, 5, 4, 3, 2, 1, 8] rfl)
                        · skip
                          rw [nI_leI (by omega) (by omega)] at c559
                          refine lv_iload_n X.1 X.2.1 d_Ha_compress_250 rfl (lv_at hl 4 rfl) ?_
                          refine lv_iload_n X.1 X.2.1 d_Ha_compress_251 rfl (lv_at hl 3 rfl) ?_
                          refine lv_iand X.1 X.2.1 d_Ha_compress_252 ?_
                          refine t_any (fun v573 => ?_)
                          refine lv_iload_n X.1 X.2.1 d_Ha_compress_253 rfl (lv_at hl 4 rfl) ?_
                          refine lv_iload X.1 X.2.1 d_Ha_compress_254 (lv_at hl 2 rfl) ?_
                          refine lv_iand X.1 X.2.1 d_Ha_compress_256 ?_
                          refine t_any (fun v574 => ?_)
                          refine lv_ior X.1 X.2.1 d_Ha_compress_257 ?_
                          refine t_any (fun v575 => ?_)
                          refine lv_iload_n X.1 X.2.1 d_Ha_compress_258 rfl (lv_at hl 3 rfl) ?_
                          refine lv_iload X.1 X.2.1 d_Ha_compress_259 (lv_at hl 2 rfl) ?_
                          refine lv_iand X.1 X.2.1 d_Ha_compress_261 ?_
                          refine t_any (fun v576 => ?_)
                          refine lv_ior X.1 X.2.1 d_Ha_compress_262 ?_
                          refine t_any (fun v577 => ?_)
                          refine lv_ldc (v := (-1894007588)) X.1 X.2.1 X.2.2.2.1 (X.2.2.1 _ cn_Ha_59) d_Ha_compress_263 ?_
                          refine lv_iadd X.1 X.2.1 d_Ha_compress_265 ?_
                          refine t_any (fun v578 => ?_)
                          refine lv_istore (lv' := [(7, .int v578), (6, .int (nI i)), (5, .int x361), (4, .int x360), (3, .int x359), (2, .int x358), (1, .int x357), (0, .ref o)]) X.1 X.2.1 d_Ha_compress_266 hl (by decide) rfl (fun ls hl => ?_)
                          refine lv_goto (tgt := 282) X.1 X.2.1 d_Ha_compress_268 (by decide) ?_
                          refine lv_iload_n X.1 X.2.1 d_Ha_compress_282 rfl (lv_at hl 6 rfl) ?_
                          refine lv_iconst (v := (nI 5)) X.1 X.2.1 d_Ha_compress_283 (by decide) ?_
                          refine lv_ishl X.1 X.2.1 d_Ha_compress_284 ?_
                          refine t_any (fun v579 => ?_)
                          refine lv_iload_n X.1 X.2.1 d_Ha_compress_285 rfl (lv_at hl 6 rfl) ?_
                          refine lv_bipush (v := (nI 27)) X.1 X.2.1 d_Ha_compress_286 (by decide) ?_
                          obtain ⟨v580, ev580⟩ : ∃ z : Int32, ((x357 : Int32).toUInt32 >>> (((nI 27) : Int32).toUInt32 &&& Int32.toUInt32 31)).toInt32 = z := ⟨_, rfl⟩
                          refine lv_iushr (v := v580) X.1 X.2.1 d_Ha_compress_288 ev580 ?_
                          refine lv_ior X.1 X.2.1 d_Ha_compress_289 ?_
                          refine t_any (fun v581 => ?_)
                          refine lv_iload X.1 X.2.1 d_Ha_compress_290 (lv_at hl 0 rfl) ?_
                          refine lv_iadd X.1 X.2.1 d_Ha_compress_292 ?_
                          refine t_any (fun v582 => ?_)
                          refine lv_iload X.1 X.2.1 d_Ha_compress_293 (lv_at hl 2 rfl) ?_
                          refine lv_iadd X.1 X.2.1 d_Ha_compress_295 ?_
                          refine t_any (fun v583 => ?_)
                          refine lv_aload_n X.1 X.2.1 d_Ha_compress_296 rfl (lv_at hl 7 rfl) ?_
                          refine q_get X.1 X.2.1 X.2.2.1 i_Ha X.2.2.2.1 X.2.2.2.2 Y m_o e348 rfl 0 (by decide) (X.2.2.1 _ lk_Ha_7) (fun _ h9 => h9) rfl d_Ha_compress_297 ?_
                          refine lv_iload X.1 X.2.1 d_Ha_compress_300 (lv_at hl 1 rfl) ?_
                          refine q_iald X.1 X.2.1 X.2.2.2.2 Y 1 m_wd e349 rfl (vp_in_nI (by omega) (by omega)) d_Ha_compress_302 ?_
                          refine t_any (fun v584 => ?_)
                          refine lv_iadd X.1 X.2.1 d_Ha_compress_303 ?_
                          refine t_any (fun v585 => ?_)
                          refine lv_istore (lv' := [(8, .int v585), (7, .int v578), (6, .int (nI i)), (5, .int x361), (4, .int x360), (3, .int x359), (2, .int x358), (1, .int x357), (0, .ref o)]) X.1 X.2.1 d_Ha_compress_304 hl (by decide) rfl (fun ls hl => ?_)
                          refine lv_iload X.1 X.2.1 d_Ha_compress_306 (lv_at hl 4 rfl) ?_
                          refine lv_istore (lv' := [(5, .int x360), (8, .int v585), (7, .int v578), (6, .int (nI i)), (4, .int x360), (3, .int x359), (2, .int x358), (1, .int x357), (0, .ref o)]) X.1 X.2.1 d_Ha_compress_308 hl (by decide) rfl (fun ls hl => ?_)
                          refine lv_iload_n X.1 X.2.1 d_Ha_compress_310 rfl (lv_at hl 5 rfl) ?_
                          refine lv_istore (lv' := [(4, .int x359), (5, .int x360), (8, .int v585), (7, .int v578), (6, .int (nI i)), (3, .int x359), (2, .int x358), (1, .int x357), (0, .ref o)]) X.1 X.2.1 d_Ha_compress_311 hl (by decide) rfl (fun ls hl => ?_)
                          refine lv_iload_n X.1 X.2.1 d_Ha_compress_313 rfl (lv_at hl 6 rfl) ?_
                          refine lv_bipush (v := (nI 30)) X.1 X.2.1 d_Ha_compress_314 (by decide) ?_
                          refine lv_ishl X.1 X.2.1 d_Ha_compress_316 ?_
                          refine t_any (fun v586 => ?_)
                          refine lv_iload_n X.1 X.2.1 d_Ha_compress_317 rfl (lv_at hl 6 rfl) ?_
                          refine lv_iconst (v := (nI 2)) X.1 X.2.1 d_Ha_compress_318 (by decide) ?_
                          obtain ⟨v587, ev587⟩ : ∃ z : Int32, ((x358 : Int32).toUInt32 >>> (((nI 2) : Int32).toUInt32 &&& Int32.toUInt32 31)).toInt32 = z := ⟨_, rfl⟩
                          refine lv_iushr (v := v587) X.1 X.2.1 d_Ha_compress_319 ev587 ?_
                          refine lv_ior X.1 X.2.1 d_Ha_compress_320 ?_
                          refine t_any (fun v588 => ?_)
                          refine lv_istore_n (lv' := [(3, .int v588), (4, .int x359), (5, .int x360), (8, .int v585), (7, .int v578), (6, .int (nI i)), (2, .int x358), (1, .int x357), (0, .ref o)]) X.1 X.2.1 d_Ha_compress_321 rfl hl (by decide) rfl (fun ls hl => ?_)
                          refine lv_iload_n X.1 X.2.1 d_Ha_compress_322 rfl (lv_at hl 7 rfl) ?_
                          refine lv_istore_n (lv' := [(2, .int x357), (3, .int v588), (4, .int x359), (5, .int x360), (8, .int v585), (7, .int v578), (6, .int (nI i)), (1, .int x357), (0, .ref o)]) X.1 X.2.1 d_Ha_compress_323 rfl hl (by decide) rfl (fun ls hl => ?_)
                          refine lv_iload X.1 X.2.1 d_Ha_compress_324 (lv_at hl 4 rfl) ?_
                          refine lv_istore_n (lv' := [(1, .int v585), (2, .int x357), (3, .int v588), (4, .int x359), (5, .int x360), (8, .int v585), (7, .int v578), (6, .int (nI i)), (0, .ref o)]) X.1 X.2.1 d_Ha_compress_326 rfl hl (by decide) rfl (fun ls hl => ?_)
                          refine lv_iinc (v := (nI (i + 1))) (lv' := [(6, .int (nI (i + 1))), (1, .int v585), (2, .int x357), (3, .int v588), (4, .int x359), (5, .int x360), (8, .int v585), (7, .int v578), (0, .ref o)]) X.1 X.2.1 d_Ha_compress_327 hl (k := 7) rfl (nI_add _ 1) (by decide) rfl (fun ls hl => ?_)
                          refine lv_goto (tgt := 190) X.1 X.2.1 d_Ha_compress_330 (by decide) ?_
                          exact ih345  (i + 1)  (v585) (x357) (v588) (x359) (x360) g350 g353 f346 _ _ _ (by omega) (by omega) (by omega)  e348 e349 e351 e352 e354 e355 e356 hF347 Y (lv_sub hl [0, 5, 4, 3, 2, 1, 8] rfl)
                      · skip
                        rw [nI_leI (by omega) (by omega)] at c558
                        refine lv_iload_n X.1 X.2.1 d_Ha_compress_229 rfl (lv_at hl 4 rfl) ?_
                        refine lv_iload_n X.1 X.2.1 d_Ha_compress_230 rfl (lv_at hl 3 rfl) ?_
                        refine lv_ixor X.1 X.2.1 d_Ha_compress_231 ?_
                        refine t_any (fun v589 => ?_)
                        refine lv_iload X.1 X.2.1 d_Ha_compress_232 (lv_at hl 2 rfl) ?_
                        refine lv_ixor X.1 X.2.1 d_Ha_compress_234 ?_
                        refine t_any (fun v590 => ?_)
                        refine lv_ldc (v := (1859775393)) X.1 X.2.1 X.2.2.2.1 (X.2.2.1 _ cn_Ha_58) d_Ha_compress_235 ?_
                        refine t_eq (y := nI 1859775393) (by decide) ?_
                        refine lv_iadd X.1 X.2.1 d_Ha_compress_237 ?_
                        refine t_any (fun v591 => ?_)
                        refine lv_istore (lv' := [(7, .int v591), (6, .int (nI i)), (5, .int x361), (4, .int x360), (3, .int x359), (2, .int x358), (1, .int x357), (0, .ref o)]) X.1 X.2.1 d_Ha_compress_238 hl (by decide) rfl (fun ls hl => ?_)
                        refine lv_goto (tgt := 282) X.1 X.2.1 d_Ha_compress_240 (by decide) ?_
                        refine lv_iload_n X.1 X.2.1 d_Ha_compress_282 rfl (lv_at hl 6 rfl) ?_
                        refine lv_iconst (v := (nI 5)) X.1 X.2.1 d_Ha_compress_283 (by decide) ?_
                        refine lv_ishl X.1 X.2.1 d_Ha_compress_284 ?_
                        refine t_any (fun v592 => ?_)
                        refine lv_iload_n X.1 X.2.1 d_Ha_compress_285 rfl (lv_at hl 6 rfl) ?_
                        refine lv_bipush (v := (nI 27)) X.1 X.2.1 d_Ha_compress_286 (by decide) ?_
                        obtain ⟨v593, ev593⟩ : ∃ z : Int32, ((x357 : Int32).toUInt32 >>> (((nI 27) : Int32).toUInt32 &&& Int32.toUInt32 31)).toInt32 = z := ⟨_, rfl⟩
                        refine lv_iushr (v := v593) X.1 X.2.1 d_Ha_compress_288 ev593 ?_
                        refine lv_ior X.1 X.2.1 d_Ha_compress_289 ?_
                        refine t_any (fun v594 => ?_)
                        refine lv_iload X.1 X.2.1 d_Ha_compress_290 (lv_at hl 0 rfl) ?_
                        refine lv_iadd X.1 X.2.1 d_Ha_compress_292 ?_
                        refine t_any (fun v595 => ?_)
                        refine lv_iload X.1 X.2.1 d_Ha_compress_293 (lv_at hl 2 rfl) ?_
                        refine lv_iadd X.1 X.2.1 d_Ha_compress_295 ?_
                        refine t_any (fun v596 => ?_)
                        refine lv_aload_n X.1 X.2.1 d_Ha_compress_296 rfl (lv_at hl 7 rfl) ?_
                        refine q_get X.1 X.2.1 X.2.2.1 i_Ha X.2.2.2.1 X.2.2.2.2 Y m_o e348 rfl 0 (by decide) (X.2.2.1 _ lk_Ha_7) (fun _ h9 => h9) rfl d_Ha_compress_297 ?_
                        refine lv_iload X.1 X.2.1 d_Ha_compress_300 (lv_at hl 1 rfl) ?_
                        refine q_iald X.1 X.2.1 X.2.2.2.2 Y 1 m_wd e349 rfl (vp_in_nI (by omega) (by omega)) d_Ha_compress_302 ?_
                        refine t_any (fun v597 => ?_)
                        refine lv_iadd X.1 X.2.1 d_Ha_compress_303 ?_
                        refine t_any (fun v598 => ?_)
                        refine lv_istore (lv' := [(8, .int v598), (7, .int v591), (6, .int (nI i)), (5, .int x361), (4, .int x360), (3, .int x359), (2, .int x358), (1, .int x357), (0, .ref o)]) X.1 X.2.1 d_Ha_compress_304 hl (by decide) rfl (fun ls hl => ?_)
                        refine lv_iload X.1 X.2.1 d_Ha_compress_306 (lv_at hl 4 rfl) ?_
                        refine lv_istore (lv' := [(5, .int x360), (8, .int v598), (7, .int v591), (6, .int (nI i)), (4, .int x360), (3, .int x359), (2, .int x358), (1, .int x357), (0, .ref o)]) X.1 X.2.1 d_Ha_compress_308 hl (by decide) rfl (fun ls hl => ?_)
                        refine lv_iload_n X.1 X.2.1 d_Ha_compress_310 rfl (lv_at hl 5 rfl) ?_
                        refine lv_istore (lv' := [(4, .int x359), (5, .int x360), (8, .int v598), (7, .int v591), (6, .int (nI i)), (3, .int x359), (2, .int x358), (1, .int x357), (0, .ref o)]) X.1 X.2.1 d_Ha_compress_311 hl (by decide) rfl (fun ls hl => ?_)
                        refine lv_iload_n X.1 X.2.1 d_Ha_compress_313 rfl (lv_at hl 6 rfl) ?_
                        refine lv_bipush (v := (nI 30)) X.1 X.2.1 d_Ha_compress_314 (by decide) ?_
                        refine lv_ishl X.1 X.2.1 d_Ha_compress_316 ?_
                        refine t_any (fun v599 => ?_)
                        refine lv_iload_n X.1 X.2.1 d_Ha_compress_317 rfl (lv_at hl 6 rfl) ?_
                        refine lv_iconst (v := (nI 2)) X.1 X.2.1 d_Ha_compress_318 (by decide) ?_
                        obtain ⟨v600, ev600⟩ : ∃ z : Int32, ((x358 : Int32).toUInt32 >>> (((nI 2) : Int32).toUInt32 &&& Int32.toUInt32 31)).toInt32 = z := ⟨_, rfl⟩
                        refine lv_iushr (v := v600) X.1 X.2.1 d_Ha_compress_319 ev600 ?_
                        refine lv_ior X.1 X.2.1 d_Ha_compress_320 ?_
                        refine t_any (fun v601 => ?_)
                        refine lv_istore_n (lv' := [(3, .int v601), (4, .int x359), (5, .int x360), (8, .int v598), (7, .int v591), (6, .int (nI i)), (2, .int x358), (1, .int x357), (0, .ref o)]) X.1 X.2.1 d_Ha_compress_321 rfl hl (by decide) rfl (fun ls hl => ?_)
                        refine lv_iload_n X.1 X.2.1 d_Ha_compress_322 rfl (lv_at hl 7 rfl) ?_
                        refine lv_istore_n (lv' := [(2, .int x357), (3, .int v601), (4, .int x359), (5, .int x360), (8, .int v598), (7, .int v591), (6, .int (nI i)), (1, .int x357), (0, .ref o)]) X.1 X.2.1 d_Ha_compress_323 rfl hl (by decide) rfl (fun ls hl => ?_)
                        refine lv_iload X.1 X.2.1 d_Ha_compress_324 (lv_at hl 4 rfl) ?_
                        refine lv_istore_n (lv' := [(1, .int v598), (2, .int x357), (3, .int v601), (4, .int x359), (5, .int x360), (8, .int v598), (7, .int v591), (6, .int (nI i)), (0, .ref o)]) X.1 X.2.1 d_Ha_compress_326 rfl hl (by decide) rfl (fun ls hl => ?_)
                        refine lv_iinc (v := (nI (i + 1))) (lv' := [(6, .int (nI (i + 1))), (1, .int v598), (2, .int x357), (3, .int v601), (4, .int x359), (5, .int x360), (8, .int v598), (7, .int v591), (0, .ref o)]) X.1 X.2.1 d_Ha_compress_327 hl (k := 7) rfl (nI_add _ 1) (by decide) rfl (fun ls hl => ?_)
                        refine lv_goto (tgt := 190) X.1 X.2.1 d_Ha_compress_330 (by decide) ?_
                        exact ih345  (i + 1)  (v598) (x357) (v601) (x359) (x360) g350 g353 f346 _ _ _ (by omega) (by omega) (by omega)  e348 e349 e351 e352 e354 e355 e356 hF347 Y (lv_sub hl [0, 5, 4, 3, 2, 1, 8] rfl)
                    · skip
                      rw [nI_leI (by omega) (by omega)] at c557
                      refine lv_iload_n X.1 X.2.1 d_Ha_compress_204 rfl (lv_at hl 4 rfl) ?_
                      refine lv_iload_n X.1 X.2.1 d_Ha_compress_205 rfl (lv_at hl 3 rfl) ?_
                      refine lv_iand X.1 X.2.1 d_Ha_compress_206 ?_
                      refine t_any (fun v602 => ?_)
                      refine lv_iload_n X.1 X.2.1 d_Ha_compress_207 rfl (lv_at hl 4 rfl) ?_
                      refine lv_iconst (v := (-1)) X.1 X.2.1 d_Ha_compress_208 (by decide) ?_
                      refine lv_ixor X.1 X.2.1 d_Ha_compress_209 ?_
                      refine t_any (fun v603 => ?_)
                      refine lv_iload X.1 X.2.1 d_Ha_compress_210 (lv_at hl 2 rfl) ?_
                      refine lv_iand X.1 X.2.1 d_Ha_compress_212 ?_
                      refine t_any (fun v604 => ?_)
                      refine lv_ior X.1 X.2.1 d_Ha_compress_213 ?_
                      refine t_any (fun v605 => ?_)
                      refine lv_ldc (v := (1518500249)) X.1 X.2.1 X.2.2.2.1 (X.2.2.1 _ cn_Ha_57) d_Ha_compress_214 ?_
                      refine t_eq (y := nI 1518500249) (by decide) ?_
                      refine lv_iadd X.1 X.2.1 d_Ha_compress_216 ?_
                      refine t_any (fun v606 => ?_)
                      refine lv_istore (lv' := [(7, .int v606), (6, .int (nI i)), (5, .int x361), (4, .int x360), (3, .int x359), (2, .int x358), (1, .int x357), (0, .ref o)]) X.1 X.2.1 d_Ha_compress_217 hl (by decide) rfl (fun ls hl => ?_)
                      refine lv_goto (tgt := 282) X.1 X.2.1 d_Ha_compress_219 (by decide) ?_
                      refine lv_iload_n X.1 X.2.1 d_Ha_compress_282 rfl (lv_at hl 6 rfl) ?_
                      refine lv_iconst (v := (nI 5)) X.1 X.2.1 d_Ha_compress_283 (by decide) ?_
                      refine lv_ishl X.1 X.2.1 d_Ha_compress_284 ?_
                      refine t_any (fun v607 => ?_)
                      refine lv_iload_n X.1 X.2.1 d_Ha_compress_285 rfl (lv_at hl 6 rfl) ?_
                      refine lv_bipush (v := (nI 27)) X.1 X.2.1 d_Ha_compress_286 (by decide) ?_
                      obtain ⟨v608, ev608⟩ : ∃ z : Int32, ((x357 : Int32).toUInt32 >>> (((nI 27) : Int32).toUInt32 &&& Int32.toUInt32 31)).toInt32 = z := ⟨_, rfl⟩
                      refine lv_iushr (v := v608) X.1 X.2.1 d_Ha_compress_288 ev608 ?_
                      refine lv_ior X.1 X.2.1 d_Ha_compress_289 ?_
                      refine t_any (fun v609 => ?_)
                      refine lv_iload X.1 X.2.1 d_Ha_compress_290 (lv_at hl 0 rfl) ?_
                      refine lv_iadd X.1 X.2.1 d_Ha_compress_292 ?_
                      refine t_any (fun v610 => ?_)
                      refine lv_iload X.1 X.2.1 d_Ha_compress_293 (lv_at hl 2 rfl) ?_
                      refine lv_iadd X.1 X.2.1 d_Ha_compress_295 ?_
                      refine t_any (fun v611 => ?_)
                      refine lv_aload_n X.1 X.2.1 d_Ha_compress_296 rfl (lv_at hl 7 rfl) ?_
                      refine q_get X.1 X.2.1 X.2.2.1 i_Ha X.2.2.2.1 X.2.2.2.2 Y m_o e348 rfl 0 (by decide) (X.2.2.1 _ lk_Ha_7) (fun _ h9 => h9) rfl d_Ha_compress_297 ?_
                      refine lv_iload X.1 X.2.1 d_Ha_compress_300 (lv_at hl 1 rfl) ?_
                      refine q_iald X.1 X.2.1 X.2.2.2.2 Y 1 m_wd e349 rfl (vp_in_nI (by omega) (by omega)) d_Ha_compress_302 ?_
                      refine t_any (fun v612 => ?_)
                      refine lv_iadd X.1 X.2.1 d_Ha_compress_303 ?_
                      refine t_any (fun v613 => ?_)
                      refine lv_istore (lv' := [(8, .int v613), (7, .int v606), (6, .int (nI i)), (5, .int x361), (4, .int x360), (3, .int x359), (2, .int x358), (1, .int x357), (0, .ref o)]) X.1 X.2.1 d_Ha_compress_304 hl (by decide) rfl (fun ls hl => ?_)
                      refine lv_iload X.1 X.2.1 d_Ha_compress_306 (lv_at hl 4 rfl) ?_
                      refine lv_istore (lv' := [(5, .int x360), (8, .int v613), (7, .int v606), (6, .int (nI i)), (4, .int x360), (3, .int x359), (2, .int x358), (1, .int x357), (0, .ref o)]) X.1 X.2.1 d_Ha_compress_308 hl (by decide) rfl (fun ls hl => ?_)
                      refine lv_iload_n X.1 X.2.1 d_Ha_compress_310 rfl (lv_at hl 5 rfl) ?_
                      refine lv_istore (lv' := [(4, .int x359), (5, .int x360), (8, .int v613), (7, .int v606), (6, .int (nI i)), (3, .int x359), (2, .int x358), (1, .int x357), (0, .ref o)]) X.1 X.2.1 d_Ha_compress_311 hl (by decide) rfl (fun ls hl => ?_)
                      refine lv_iload_n X.1 X.2.1 d_Ha_compress_313 rfl (lv_at hl 6 rfl) ?_
                      refine lv_bipush (v := (nI 30)) X.1 X.2.1 d_Ha_compress_314 (by decide) ?_
                      refine lv_ishl X.1 X.2.1 d_Ha_compress_316 ?_
                      refine t_any (fun v614 => ?_)
                      refine lv_iload_n X.1 X.2.1 d_Ha_compress_317 rfl (lv_at hl 6 rfl) ?_
                      refine lv_iconst (v := (nI 2)) X.1 X.2.1 d_Ha_compress_318 (by decide) ?_
                      obtain ⟨v615, ev615⟩ : ∃ z : Int32, ((x358 : Int32).toUInt32 >>> (((nI 2) : Int32).toUInt32 &&& Int32.toUInt32 31)).toInt32 = z := ⟨_, rfl⟩
                      refine lv_iushr (v := v615) X.1 X.2.1 d_Ha_compress_319 ev615 ?_
                      refine lv_ior X.1 X.2.1 d_Ha_compress_320 ?_
                      refine t_any (fun v616 => ?_)
                      refine lv_istore_n (lv' := [(3, .int v616), (4, .int x359), (5, .int x360), (8, .int v613), (7, .int v606), (6, .int (nI i)), (2, .int x358), (1, .int x357), (0, .ref o)]) X.1 X.2.1 d_Ha_compress_321 rfl hl (by decide) rfl (fun ls hl => ?_)
                      refine lv_iload_n X.1 X.2.1 d_Ha_compress_322 rfl (lv_at hl 7 rfl) ?_
                      refine lv_istore_n (lv' := [(2, .int x357), (3, .int v616), (4, .int x359), (5, .int x360), (8, .int v613), (7, .int v606), (6, .int (nI i)), (1, .int x357), (0, .ref o)]) X.1 X.2.1 d_Ha_compress_323 rfl hl (by decide) rfl (fun ls hl => ?_)
                      refine lv_iload X.1 X.2.1 d_Ha_compress_324 (lv_at hl 4 rfl) ?_
                      refine lv_istore_n (lv' := [(1, .int v613), (2, .int x357), (3, .int v616), (4, .int x359), (5, .int x360), (8, .int v613), (7, .int v606), (6, .int (nI i)), (0, .ref o)]) X.1 X.2.1 d_Ha_compress_326 rfl hl (by decide) rfl (fun ls hl => ?_)
                      refine lv_iinc (v := (nI (i + 1))) (lv' := [(6, .int (nI (i + 1))), (1, .int v613), (2, .int x357), (3, .int v616), (4, .int x359), (5, .int x360), (8, .int v613), (7, .int v606), (0, .ref o)]) X.1 X.2.1 d_Ha_compress_327 hl (k := 7) rfl (nI_add _ 1) (by decide) rfl (fun ls hl => ?_)
                      refine lv_goto (tgt := 190) X.1 X.2.1 d_Ha_compress_330 (by decide) ?_
                      exact ih345  (i + 1)  (v613) (x357) (v616) (x359) (x360) g350 g353 f346 _ _ _ (by omega) (by omega) (by omega)  e348 e349 e351 e352 e354 e355 e356 hF347 Y (lv_sub hl [0, 5, 4, 3, 2, 1, 8] rfl)
              exact lp343 (80) (0)  (v338) (v339) (v340) (v341) (v342) g26 g29 f22 _ _ _ (by omega) (by omega) (by omega)  e24 e25 e27 e28 e30 e31 e32 hF23 Y (lv_sub hl [0, 1, 2, 3, 4, 5, 6] rfl)
            · skip
              rw [nI_leI (by omega) (by omega)] at c337
              refine lv_aload_n X.1 X.2.1 d_Ha_compress_91 rfl (lv_at hl 1 rfl) ?_
              refine q_get X.1 X.2.1 X.2.2.1 i_Ha X.2.2.2.1 X.2.2.2.2 Y m_o e24 rfl 0 (by decide) (X.2.2.1 _ lk_Ha_7) (fun _ h9 => h9) rfl d_Ha_compress_92 ?_
              refine lv_iload_n X.1 X.2.1 d_Ha_compress_95 rfl (lv_at hl 0 rfl) ?_
              refine lv_iconst (v := (nI 3)) X.1 X.2.1 d_Ha_compress_96 (by decide) ?_
              refine lv_isub X.1 X.2.1 d_Ha_compress_97 ?_
              refine t_eq (y := nI (i - (3))) (pk_sub (by omega)) ?_
              refine q_iald X.1 X.2.1 X.2.2.2.2 Y 1 m_wd e25 rfl (vp_in_nI (by omega) (by omega)) d_Ha_compress_98 ?_
              refine t_any (fun v617 => ?_)
              refine lv_aload_n X.1 X.2.1 d_Ha_compress_99 rfl (lv_at hl 1 rfl) ?_
              refine q_get X.1 X.2.1 X.2.2.1 i_Ha X.2.2.2.1 X.2.2.2.2 Y m_o e24 rfl 0 (by decide) (X.2.2.1 _ lk_Ha_7) (fun _ h9 => h9) rfl d_Ha_compress_100 ?_
              refine lv_iload_n X.1 X.2.1 d_Ha_compress_103 rfl (lv_at hl 0 rfl) ?_
              refine lv_bipush (v := (nI 8)) X.1 X.2.1 d_Ha_compress_104 (by decide) ?_
              refine lv_isub X.1 X.2.1 d_Ha_compress_106 ?_
              refine t_eq (y := nI (i - (8))) (pk_sub (by omega)) ?_
              refine q_iald X.1 X.2.1 X.2.2.2.2 Y 1 m_wd e25 rfl (vp_in_nI (by omega) (by omega)) d_Ha_compress_107 ?_
              refine t_any (fun v618 => ?_)
              refine lv_ixor X.1 X.2.1 d_Ha_compress_108 ?_
              refine t_any (fun v619 => ?_)
              refine lv_aload_n X.1 X.2.1 d_Ha_compress_109 rfl (lv_at hl 1 rfl) ?_
              refine q_get X.1 X.2.1 X.2.2.1 i_Ha X.2.2.2.1 X.2.2.2.2 Y m_o e24 rfl 0 (by decide) (X.2.2.1 _ lk_Ha_7) (fun _ h9 => h9) rfl d_Ha_compress_110 ?_
              refine lv_iload_n X.1 X.2.1 d_Ha_compress_113 rfl (lv_at hl 0 rfl) ?_
              refine lv_bipush (v := (nI 14)) X.1 X.2.1 d_Ha_compress_114 (by decide) ?_
              refine lv_isub X.1 X.2.1 d_Ha_compress_116 ?_
              refine t_eq (y := nI (i - (14))) (pk_sub (by omega)) ?_
              refine q_iald X.1 X.2.1 X.2.2.2.2 Y 1 m_wd e25 rfl (vp_in_nI (by omega) (by omega)) d_Ha_compress_117 ?_
              refine t_any (fun v620 => ?_)
              refine lv_ixor X.1 X.2.1 d_Ha_compress_118 ?_
              refine t_any (fun v621 => ?_)
              refine lv_aload_n X.1 X.2.1 d_Ha_compress_119 rfl (lv_at hl 1 rfl) ?_
              refine q_get X.1 X.2.1 X.2.2.1 i_Ha X.2.2.2.1 X.2.2.2.2 Y m_o e24 rfl 0 (by decide) (X.2.2.1 _ lk_Ha_7) (fun _ h9 => h9) rfl d_Ha_compress_120 ?_
              refine lv_iload_n X.1 X.2.1 d_Ha_compress_123 rfl (lv_at hl 0 rfl) ?_
              refine lv_bipush (v := (nI 16)) X.1 X.2.1 d_Ha_compress_124 (by decide) ?_
              refine lv_isub X.1 X.2.1 d_Ha_compress_126 ?_
              refine t_eq (y := nI (i - (16))) (pk_sub (by omega)) ?_
              refine q_iald X.1 X.2.1 X.2.2.2.2 Y 1 m_wd e25 rfl (vp_in_nI (by omega) (by omega)) d_Ha_compress_127 ?_
              refine t_any (fun v622 => ?_)
              refine lv_ixor X.1 X.2.1 d_Ha_compress_128 ?_
              refine t_any (fun v623 => ?_)
              refine lv_istore_n (lv' := [(2, .int v623), (1, .int (nI i)), (0, .ref o)]) X.1 X.2.1 d_Ha_compress_129 rfl hl (by decide) rfl (fun ls hl => ?_)
              refine lv_aload_n X.1 X.2.1 d_Ha_compress_130 rfl (lv_at hl 2 rfl) ?_
              refine q_get X.1 X.2.1 X.2.2.1 i_Ha X.2.2.2.1 X.2.2.2.2 Y m_o e24 rfl 0 (by decide) (X.2.2.1 _ lk_Ha_7) (fun _ h9 => h9) rfl d_Ha_compress_131 ?_
              refine lv_iload_n X.1 X.2.1 d_Ha_compress_134 rfl (lv_at hl 1 rfl) ?_
              refine lv_iload_n X.1 X.2.1 d_Ha_compress_135 rfl (lv_at hl 0 rfl) ?_
              refine lv_iconst (v := (nI 1)) X.1 X.2.1 d_Ha_compress_136 (by decide) ?_
              refine lv_ishl X.1 X.2.1 d_Ha_compress_137 ?_
              refine t_any (fun v624 => ?_)
              refine lv_iload_n X.1 X.2.1 d_Ha_compress_138 rfl (lv_at hl 0 rfl) ?_
              refine lv_bipush (v := (nI 31)) X.1 X.2.1 d_Ha_compress_139 (by decide) ?_
              obtain ⟨v625, ev625⟩ : ∃ z : Int32, ((v623 : Int32).toUInt32 >>> (((nI 31) : Int32).toUInt32 &&& Int32.toUInt32 31)).toInt32 = z := ⟨_, rfl⟩
              refine lv_iushr (v := v625) X.1 X.2.1 d_Ha_compress_141 ev625 ?_
              refine lv_ior X.1 X.2.1 d_Ha_compress_142 ?_
              refine t_any (fun v626 => ?_)
              refine q_iast X.1 X.2.1 X.2.2.2.2 Y 1 m_wd e25 rfl (vp_in_nI (by omega) (by omega)) d_Ha_compress_143 (fun H locs Y => ?_)
              generalize (upd g26 ((nI i)).toNatClampNeg v626) = g627 at Y
              have e630 : (va_up f22 wd (.inl (E.2.1, 80, .inl g627))) wd = .inl (E.2.1, 80, .inl g627) := q_up
              have e631 : (va_up f22 wd (.inl (E.2.1, 80, .inl g627))) o = .inr (6, [.ref wd, .ref bl, .ref sta, .ref inn, .ref out, .int (nI fl), .int tot, .ref mac]) := (q_ne (q_tag e24 e25 (show (6 : Nat) ≠ 1000 by decide))).trans e24
              have e632 : (va_up f22 wd (.inl (E.2.1, 80, .inl g627))) bl = .inl (E.1, 64, .inl g_bl) := (q_ne ap_wd_bl.symm).trans e27
              have e633 : (va_up f22 wd (.inl (E.2.1, 80, .inl g627))) sta = .inl (E.2.1, 5, .inl g29) := (q_ne ap_wd_sta.symm).trans e28
              have e634 : (va_up f22 wd (.inl (E.2.1, 80, .inl g627))) inn = .inl (E.2.1, 5, .inl g_inn) := (q_ne ap_wd_inn.symm).trans e30
              have e635 : (va_up f22 wd (.inl (E.2.1, 80, .inl g627))) out = .inl (E.2.1, 5, .inl g_out) := (q_ne ap_wd_out.symm).trans e31
              have e636 : (va_up f22 wd (.inl (E.2.1, 80, .inl g627))) mac = .inl (E.1, 20, .inl g_mac) := (q_ne ap_wd_mac.symm).trans e32
              have hF637 : ∀ x, x ≠ wd → x ≠ sta → (va_up f22 wd (.inl (E.2.1, 80, .inl g627))) x = f x := fun x h0 h1 => (q_ne h0).trans (hF23 x h0 h1)
              have Y : pH D cCl (pA L sz) s.heap L (va_up f22 wd (.inl (E.2.1, 80, .inl g627))) H locs := Y
              generalize (va_up f22 wd (.inl (E.2.1, 80, .inl g627))) = f629 at Y e630 e631 e632 e633 e634 e635 e636 hF637
              refine lv_iinc (v := (nI (i + 1))) (lv' := [(1, .int (nI (i + 1))), (2, .int v623), (0, .ref o)]) X.1 X.2.1 d_Ha_compress_144 hl (k := 1) rfl (nI_add _ 1) (by decide) rfl (fun ls hl => ?_)
              refine lv_goto (tgt := 85) X.1 X.2.1 d_Ha_compress_147 (by decide) ?_
              exact ih21  (i + 1)   g627 g29 f629 _ _ _ (by omega) (by omega) (by omega)  e631 e630 e632 e633 e634 e635 e636 hF637 Y (lv_sub hl [0, 2] rfl)
        exact lp19 (80) (16)   g8 g11 f4 _ _ _ (by omega) (by omega) (by omega)  e6 e7 e9 e10 e12 e13 e14 hF5 Y (lv_sub hl [0, 1] rfl)
      · skip
        rw [nI_leI (by omega) (by omega)] at c18
        refine lv_aload_n X.1 X.2.1 d_Ha_compress_8 rfl (lv_at hl 1 rfl) ?_
        refine q_get X.1 X.2.1 X.2.2.1 i_Ha X.2.2.2.1 X.2.2.2.2 Y m_o e6 rfl 0 (by decide) (X.2.2.1 _ lk_Ha_7) (fun _ h9 => h9) rfl d_Ha_compress_9 ?_
        refine lv_iload_n X.1 X.2.1 d_Ha_compress_12 rfl (lv_at hl 0 rfl) ?_
        refine lv_aload_n X.1 X.2.1 d_Ha_compress_13 rfl (lv_at hl 1 rfl) ?_
        refine q_get X.1 X.2.1 X.2.2.1 i_Ha X.2.2.2.1 X.2.2.2.2 Y m_o e6 rfl 1 (by decide) (X.2.2.1 _ lk_Ha_13) (fun _ h9 => h9) rfl d_Ha_compress_14 ?_
        refine lv_iconst (v := (nI 4)) X.1 X.2.1 d_Ha_compress_17 (by decide) ?_
        refine lv_iload_n X.1 X.2.1 d_Ha_compress_18 rfl (lv_at hl 0 rfl) ?_
        refine lv_imul X.1 X.2.1 d_Ha_compress_19 ?_
        refine t_eq (y := nI ((4) * (i))) (pk_mul _ _) ?_
        refine q_bald X.1 X.2.1 X.2.2.2.2 Y 0 m_bl e9 rfl (vp_in_nI (by omega) (by omega)) d_Ha_compress_20 ?_
        refine t_any (fun v638 => ?_)
        refine lv_bipush (v := (nI 24)) X.1 X.2.1 d_Ha_compress_21 (by decide) ?_
        refine lv_ishl X.1 X.2.1 d_Ha_compress_23 ?_
        refine t_any (fun v639 => ?_)
        refine lv_aload_n X.1 X.2.1 d_Ha_compress_24 rfl (lv_at hl 1 rfl) ?_
        refine q_get X.1 X.2.1 X.2.2.1 i_Ha X.2.2.2.1 X.2.2.2.2 Y m_o e6 rfl 1 (by decide) (X.2.2.1 _ lk_Ha_13) (fun _ h9 => h9) rfl d_Ha_compress_25 ?_
        refine lv_iconst (v := (nI 4)) X.1 X.2.1 d_Ha_compress_28 (by decide) ?_
        refine lv_iload_n X.1 X.2.1 d_Ha_compress_29 rfl (lv_at hl 0 rfl) ?_
        refine lv_imul X.1 X.2.1 d_Ha_compress_30 ?_
        refine t_eq (y := nI ((4) * (i))) (pk_mul _ _) ?_
        refine lv_iconst (v := (nI 1)) X.1 X.2.1 d_Ha_compress_31 (by decide) ?_
        refine lv_iadd X.1 X.2.1 d_Ha_compress_32 ?_
        refine t_eq (y := nI ((4) * (i) + 1)) (nI_add _ _) ?_
        refine q_bald X.1 X.2.1 X.2.2.2.2 Y 0 m_bl e9 rfl (vp_in_nI (by omega) (by omega)) d_Ha_compress_33 ?_
        refine t_any (fun v640 => ?_)
        refine lv_sipush (v := (nI 255)) X.1 X.2.1 d_Ha_compress_34 (by decide) ?_
        refine lv_iand X.1 X.2.1 d_Ha_compress_37 ?_
        obtain ⟨j641, hj641, ej641⟩ := pk_andE v640 (m := nI 255) 8 (by decide)
        refine t_eq ej641 ?_
        have hj641 : j641 < 256 := hj641
        refine lv_bipush (v := (nI 16)) X.1 X.2.1 d_Ha_compress_38 (by decide) ?_
        refine lv_ishl X.1 X.2.1 d_Ha_compress_40 ?_
        refine t_any (fun v642 => ?_)
        refine lv_ior X.1 X.2.1 d_Ha_compress_41 ?_
        refine t_any (fun v643 => ?_)
        refine lv_aload_n X.1 X.2.1 d_Ha_compress_42 rfl (lv_at hl 1 rfl) ?_
        refine q_get X.1 X.2.1 X.2.2.1 i_Ha X.2.2.2.1 X.2.2.2.2 Y m_o e6 rfl 1 (by decide) (X.2.2.1 _ lk_Ha_13) (fun _ h9 => h9) rfl d_Ha_compress_43 ?_
        refine lv_iconst (v := (nI 4)) X.1 X.2.1 d_Ha_compress_46 (by decide) ?_
        refine lv_iload_n X.1 X.2.1 d_Ha_compress_47 rfl (lv_at hl 0 rfl) ?_
        refine lv_imul X.1 X.2.1 d_Ha_compress_48 ?_
        refine t_eq (y := nI ((4) * (i))) (pk_mul _ _) ?_
        refine lv_iconst (v := (nI 2)) X.1 X.2.1 d_Ha_compress_49 (by decide) ?_
        refine lv_iadd X.1 X.2.1 d_Ha_compress_50 ?_
        refine t_eq (y := nI ((4) * (i) + 2)) (nI_add _ _) ?_
        refine q_bald X.1 X.2.1 X.2.2.2.2 Y 0 m_bl e9 rfl (vp_in_nI (by omega) (by omega)) d_Ha_compress_51 ?_
        refine t_any (fun v644 => ?_)
        refine lv_sipush (v := (nI 255)) X.1 X.2.1 d_Ha_compress_52 (by decide) ?_
        refine lv_iand X.1 X.2.1 d_Ha_compress_55 ?_
        obtain ⟨j645, hj645, ej645⟩ := pk_andE v644 (m := nI 255) 8 (by decide)
        refine t_eq ej645 ?_
        have hj645 : j645 < 256 := hj645
        refine lv_bipush (v := (nI 8)) X.1 X.2.1 d_Ha_compress_56 (by decide) ?_
        refine lv_ishl X.1 X.2.1 d_Ha_compress_58 ?_
        refine t_any (fun v646 => ?_)
        refine lv_ior X.1 X.2.1 d_Ha_compress_59 ?_
        refine t_any (fun v647 => ?_)
        refine lv_aload_n X.1 X.2.1 d_Ha_compress_60 rfl (lv_at hl 1 rfl) ?_
        refine q_get X.1 X.2.1 X.2.2.1 i_Ha X.2.2.2.1 X.2.2.2.2 Y m_o e6 rfl 1 (by decide) (X.2.2.1 _ lk_Ha_13) (fun _ h9 => h9) rfl d_Ha_compress_61 ?_
        refine lv_iconst (v := (nI 4)) X.1 X.2.1 d_Ha_compress_64 (by decide) ?_
        refine lv_iload_n X.1 X.2.1 d_Ha_compress_65 rfl (lv_at hl 0 rfl) ?_
        refine lv_imul X.1 X.2.1 d_Ha_compress_66 ?_
        refine t_eq (y := nI ((4) * (i))) (pk_mul _ _) ?_
        refine lv_iconst (v := (nI 3)) X.1 X.2.1 d_Ha_compress_67 (by decide) ?_
        refine lv_iadd X.1 X.2.1 d_Ha_compress_68 ?_
        refine t_eq (y := nI ((4) * (i) + 3)) (nI_add _ _) ?_
        refine q_bald X.1 X.2.1 X.2.2.2.2 Y 0 m_bl e9 rfl (vp_in_nI (by omega) (by omega)) d_Ha_compress_69 ?_
        refine t_any (fun v648 => ?_)
        refine lv_sipush (v := (nI 255)) X.1 X.2.1 d_Ha_compress_70 (by decide) ?_
        refine lv_iand X.1 X.2.1 d_Ha_compress_73 ?_
        obtain ⟨j649, hj649, ej649⟩ := pk_andE v648 (m := nI 255) 8 (by decide)
        refine t_eq ej649 ?_
        have hj649 : j649 < 256 := hj649
        refine lv_ior X.1 X.2.1 d_Ha_compress_74 ?_
        refine t_any (fun v650 => ?_)
        refine q_iast X.1 X.2.1 X.2.2.2.2 Y 1 m_wd e7 rfl (vp_in_nI (by omega) (by omega)) d_Ha_compress_75 (fun H locs Y => ?_)
        generalize (upd g8 ((nI i)).toNatClampNeg v650) = g651 at Y
        have e654 : (va_up f4 wd (.inl (E.2.1, 80, .inl g651))) wd = .inl (E.2.1, 80, .inl g651) := q_up
        have e655 : (va_up f4 wd (.inl (E.2.1, 80, .inl g651))) o = .inr (6, [.ref wd, .ref bl, .ref sta, .ref inn, .ref out, .int (nI fl), .int tot, .ref mac]) := (q_ne (q_tag e6 e7 (show (6 : Nat) ≠ 1000 by decide))).trans e6
        have e656 : (va_up f4 wd (.inl (E.2.1, 80, .inl g651))) bl = .inl (E.1, 64, .inl g_bl) := (q_ne ap_wd_bl.symm).trans e9
        have e657 : (va_up f4 wd (.inl (E.2.1, 80, .inl g651))) sta = .inl (E.2.1, 5, .inl g11) := (q_ne ap_wd_sta.symm).trans e10
        have e658 : (va_up f4 wd (.inl (E.2.1, 80, .inl g651))) inn = .inl (E.2.1, 5, .inl g_inn) := (q_ne ap_wd_inn.symm).trans e12
        have e659 : (va_up f4 wd (.inl (E.2.1, 80, .inl g651))) out = .inl (E.2.1, 5, .inl g_out) := (q_ne ap_wd_out.symm).trans e13
        have e660 : (va_up f4 wd (.inl (E.2.1, 80, .inl g651))) mac = .inl (E.1, 20, .inl g_mac) := (q_ne ap_wd_mac.symm).trans e14
        have hF661 : ∀ x, x ≠ wd → x ≠ sta → (va_up f4 wd (.inl (E.2.1, 80, .inl g651))) x = f x := fun x h0 h1 => (q_ne h0).trans (hF5 x h0 h1)
        have Y : pH D cCl (pA L sz) s.heap L (va_up f4 wd (.inl (E.2.1, 80, .inl g651))) H locs := Y
        generalize (va_up f4 wd (.inl (E.2.1, 80, .inl g651))) = f653 at Y e654 e655 e656 e657 e658 e659 e660 hF661
        refine lv_iinc (v := (nI (i + 1))) (lv' := [(1, .int (nI (i + 1))), (0, .ref o)]) X.1 X.2.1 d_Ha_compress_76 hl (k := 0) rfl (nI_add _ 1) (by decide) rfl (fun ls hl => ?_)
        refine lv_goto (tgt := 2) X.1 X.2.1 d_Ha_compress_79 (by decide) ?_
        exact False.elim (by omega)
    | succ n2 ih3 =>
      intro i g8 g11 f4 H locs ls hm17 hc15 hc16  e6 e7 e9 e10 e12 e13 e14 hF5 Y hl
      refine lv_iload_n X.1 X.2.1 d_Ha_compress_2 rfl (lv_at hl 0 rfl) ?_
      refine lv_bipush (v := (nI 16)) X.1 X.2.1 d_Ha_compress_3 (by decide) ?_
      refine lv_icmp_ge (tgt := 82) X.1 X.2.1 d_Ha_compress_5 (by decide) (fun c662 => ?_) (fun c662 => ?_)
      · skip
        rw [nI_leI (by omega) (by omega)] at c662
        refine lv_bipush (v := (nI 16)) X.1 X.2.1 d_Ha_compress_82 (by decide) ?_
        refine lv_istore_n (lv' := [(1, .int (nI 16)), (0, .ref o)]) X.1 X.2.1 d_Ha_compress_84 rfl hl (by decide) rfl (fun ls hl => ?_)
        have lp663 : ∀ (n664 i : Nat) (g670 : Nat → Int32) (g673 : Nat → Int32) (f666 : pF) (H : Heap) (locs : List Loc) (ls : Array Slot), 80 - i ≤ n664 → (16 ≤ i) → (i ≤ 80) → f666 o = .inr (6, [.ref wd, .ref bl, .ref sta, .ref inn, .ref out, .int (nI fl), .int tot, .ref mac]) → f666 wd = .inl (E.2.1, 80, .inl g670) → f666 bl = .inl (E.1, 64, .inl g_bl) → f666 sta = .inl (E.2.1, 5, .inl g673) → f666 inn = .inl (E.2.1, 5, .inl g_inn) → f666 out = .inl (E.2.1, 5, .inl g_out) → f666 mac = .inl (E.1, 20, .inl g_mac) → (∀ x, x ≠ wd → x ≠ sta → f666 x = f x) → pH D cCl (pA L sz) s.heap L f666 H locs → lv_has ls 9 [(1, .int (nI i)), (0, .ref o)] → W p l e (mR 0 0) s m AV below meth c H locs 0 0 QQ (F0 m 85 ls []) := by
          intro n664
          induction n664 with
          | zero =>
            intro i g670 g673 f666 H locs ls hm679 hc677 hc678  e668 e669 e671 e672 e674 e675 e676 hF667 Y hl
            refine lv_iload_n X.1 X.2.1 d_Ha_compress_85 rfl (lv_at hl 0 rfl) ?_
            refine lv_bipush (v := (nI 80)) X.1 X.2.1 d_Ha_compress_86 (by decide) ?_
            refine lv_icmp_ge (tgt := 150) X.1 X.2.1 d_Ha_compress_88 (by decide) (fun c680 => ?_) (fun c680 => ?_)
            · skip
              rw [nI_leI (by omega) (by omega)] at c680
              refine lv_aload_n X.1 X.2.1 d_Ha_compress_150 rfl (lv_at hl 1 rfl) ?_
              refine q_get X.1 X.2.1 X.2.2.1 i_Ha X.2.2.2.1 X.2.2.2.2 Y m_o e668 rfl 2 (by decide) (X.2.2.1 _ lk_Ha_17) (fun _ h9 => h9) rfl d_Ha_compress_151 ?_
              refine lv_iconst (v := (nI 0)) X.1 X.2.1 d_Ha_compress_154 (by decide) ?_
              refine q_iald X.1 X.2.1 X.2.2.2.2 Y 1 m_sta e672 rfl (vp_in_nI (by omega) (by omega)) d_Ha_compress_155 ?_
              refine t_any (fun v681 => ?_)
              refine lv_istore_n (lv' := [(1, .int v681), (0, .ref o)]) X.1 X.2.1 d_Ha_compress_156 rfl hl (by decide) rfl (fun ls hl => ?_)
              refine lv_aload_n X.1 X.2.1 d_Ha_compress_157 rfl (lv_at hl 1 rfl) ?_
              refine q_get X.1 X.2.1 X.2.2.1 i_Ha X.2.2.2.1 X.2.2.2.2 Y m_o e668 rfl 2 (by decide) (X.2.2.1 _ lk_Ha_17) (fun _ h9 => h9) rfl d_Ha_compress_158 ?_
              refine lv_iconst (v := (nI 1)) X.1 X.2.1 d_Ha_compress_161 (by decide) ?_
              refine q_iald X.1 X.2.1 X.2.2.2.2 Y 1 m_sta e672 rfl (vp_in_nI (by omega) (by omega)) d_Ha_compress_162 ?_
              refine t_any (fun v682 => ?_)
              refine lv_istore_n (lv' := [(2, .int v682), (1, .int v681), (0, .ref o)]) X.1 X.2.1 d_Ha_compress_163 rfl hl (by decide) rfl (fun ls hl => ?_)
              refine lv_aload_n X.1 X.2.1 d_Ha_compress_164 rfl (lv_at hl 2 rfl) ?_
              refine q_get X.1 X.2.1 X.2.2.1 i_Ha X.2.2.2.1 X.2.2.2.2 Y m_o e668 rfl 2 (by decide) (X.2.2.1 _ lk_Ha_17) (fun _ h9 => h9) rfl d_Ha_compress_165 ?_
              refine lv_iconst (v := (nI 2)) X.1 X.2.1 d_Ha_compress_168 (by decide) ?_
              refine q_iald X.1 X.2.1 X.2.2.2.2 Y 1 m_sta e672 rfl (vp_in_nI (by omega) (by omega)) d_Ha_compress_169 ?_
              refine t_any (fun v683 => ?_)
              refine lv_istore_n (lv' := [(3, .int v683), (2, .int v682), (1, .int v681), (0, .ref o)]) X.1 X.2.1 d_Ha_compress_170 rfl hl (by decide) rfl (fun ls hl => ?_)
              refine lv_aload_n X.1 X.2.1 d_Ha_compress_171 rfl (lv_at hl 3 rfl) ?_
              refine q_get X.1 X.2.1 X.2.2.1 i_Ha X.2.2.2.1 X.2.2.2.2 Y m_o e668 rfl 2 (by decide) (X.2.2.1 _ lk_Ha_17) (fun _ h9 => h9) rfl d_Ha_compress_172 ?_
              refine lv_iconst (v := (nI 3)) X.1 X.2.1 d_Ha_compress_175 (by decide) ?_
              refine q_iald X.1 X.2.1 X.2.2.2.2 Y 1 m_sta e672 rfl (vp_in_nI (by omega) (by omega)) d_Ha_compress_176 ?_
              refine t_any (fun v684 => ?_)
              refine lv_istore (lv' := [(4, .int v684), (3, .int v683), (2, .int v682), (1, .int v681), (0, .ref o)]) X.1 X.2.1 d_Ha_compress_177 hl (by decide) rfl (fun ls hl => ?_)
              refine lv_aload_n X.1 X.2.1 d_Ha_compress_179 rfl (lv_at hl 4 rfl) ?_
              refine q_get X.1 X.2.1 X.2.2.1 i_Ha X.2.2.2.1 X.2.2.2.2 Y m_o e668 rfl 2 (by decide) (X.2.2.1 _ lk_Ha_17) (fun _ h9 => h9) rfl d_Ha_compress_180 ?_
              refine lv_iconst (v := (nI 4)) X.1 X.2.1 d_Ha_compress_183 (by decide) ?_
              refine q_iald X.1 X.2.1 X.2.2.2.2 Y 1 m_sta e672 rfl (vp_in_nI (by omega) (by omega)) d_Ha_compress_184 ?_
              refine t_any (fun v685 => ?_)
              refine lv_istore (lv' := [(5, .int v685), (4, .int v684), (3, .int v683), (2, .int v682), (1, .int v681), (0, .ref o)]) X.1 X.2.1 d_Ha_compress_185 hl (by decide) rfl (fun ls hl => ?_)
              refine lv_iconst (v := (nI 0)) X.1 X.2.1 d_Ha_compress_187 (by decide) ?_
              refine lv_istore (lv' := [(6, .int (nI 0)), (5, .int v685), (4, .int v684), (3, .int v683), (2, .int v682), (1, .int v681), (0, .ref o)]) X.1 X.2.1 d_Ha_compress_188 hl (by decide) rfl (fun ls hl => ?_)
              have lp686 : ∀ (n687 i : Nat) (x700 : Int32) (x701 : Int32) (x702 : Int32) (x703 : Int32) (x704 : Int32) (g693 : Nat → Int32) (g696 : Nat → Int32) (f689 : pF) (H : Heap) (locs : List Loc) (ls : Array Slot), 80 - i ≤ n687 → (0 ≤ i) → (i ≤ 80) → f689 o = .inr (6, [.ref wd, .ref bl, .ref sta, .ref inn, .ref out, .int (nI fl), .int tot, .ref mac]) → f689 wd = .inl (E.2.1, 80, .inl g693) → f689 bl = .inl (E.1, 64, .inl g_bl) → f689 sta = .inl (E.2.1, 5, .inl g696) → f689 inn = .inl (E.2.1, 5, .inl g_inn) → f689 out = .inl (E.2.1, 5, .inl g_out) → f689 mac = .inl (E.1, 20, .inl g_mac) → (∀ x, x ≠ wd → x ≠ sta → f689 x = f x) → pH D cCl (pA L sz) s.heap L f689 H locs → lv_has ls 9 [(6, .int (nI i)), (5, .int x704), (4, .int x703), (3, .int x702), (2, .int x701), (1, .int x700), (0, .ref o)] → W p l e (mR 0 0) s m AV below meth c H locs 0 0 QQ (F0 m 190 ls []) := by
                intro n687
                induction n687 with
                | zero =>
                  intro i x700 x701 x702 x703 x704 g693 g696 f689 H locs ls hm707 hc705 hc706  e691 e692 e694 e695 e697 e698 e699 hF690 Y hl
                  refine lv_iload X.1 X.2.1 d_Ha_compress_190 (lv_at hl 0 rfl) ?_
                  refine lv_bipush (v := (nI 80)) X.1 X.2.1 d_Ha_compress_192 (by decide) ?_
                  refine lv_icmp_ge (tgt := 333) X.1 X.2.1 d_Ha_compress_194 (by decide) (fun c708 => ?_) (fun c708 => ?_)
                  · skip
                    rw [nI_leI (by omega) (by omega)] at c708
                    refine lv_aload_n X.1 X.2.1 d_Ha_compress_333 rfl (lv_at hl 6 rfl) ?_
                    refine q_get X.1 X.2.1 X.2.2.1 i_Ha X.2.2.2.1 X.2.2.2.2 Y m_o e691 rfl 2 (by decide) (X.2.2.1 _ lk_Ha_17) (fun _ h9 => h9) rfl d_Ha_compress_334 ?_
                    refine lv_iconst (v := (nI 0)) X.1 X.2.1 d_Ha_compress_337 (by decide) ?_
                    refine lv_dup2_11 X.1 X.2.1 d_Ha_compress_338 rfl rfl ?_
                    refine q_iald X.1 X.2.1 X.2.2.2.2 Y 1 m_sta e695 rfl (vp_in_nI (by omega) (by omega)) d_Ha_compress_339 ?_
                    refine t_any (fun v709 => ?_)
                    refine lv_iload_n X.1 X.2.1 d_Ha_compress_340 rfl (lv_at hl 5 rfl) ?_
                    refine lv_iadd X.1 X.2.1 d_Ha_compress_341 ?_
                    refine t_any (fun v710 => ?_)
                    refine q_iast X.1 X.2.1 X.2.2.2.2 Y 1 m_sta e695 rfl (vp_in_nI (by omega) (by omega)) d_Ha_compress_342 (fun H locs Y => ?_)
                    generalize (upd g696 ((nI 0)).toNatClampNeg v710) = g711 at Y
                    have e714 : (va_up f689 sta (.inl (E.2.1, 5, .inl g711))) sta = .inl (E.2.1, 5, .inl g711) := q_up
                    have e715 : (va_up f689 sta (.inl (E.2.1, 5, .inl g711))) o = .inr (6, [.ref wd, .ref bl, .ref sta, .ref inn, .ref out, .int (nI fl), .int tot, .ref mac]) := (q_ne (q_tag e691 e695 (show (6 : Nat) ≠ 1000 by decide))).trans e691
                    have e716 : (va_up f689 sta (.inl (E.2.1, 5, .inl g711))) wd = .inl (E.2.1, 80, .inl g693) := (q_ne ap_wd_sta).trans e692
                    have e717 : (va_up f689 sta (.inl (E.2.1, 5, .inl g711))) bl = .inl (E.1, 64, .inl g_bl) := (q_ne ap_bl_sta).trans e694
                    have e718 : (va_up f689 sta (.inl (E.2.1, 5, .inl g711))) inn = .inl (E.2.1, 5, .inl g_inn) := (q_ne ap_sta_inn.symm).trans e697
                    have e719 : (va_up f689 sta (.inl (E.2.1, 5, .inl g711))) out = .inl (E.2.1, 5, .inl g_out) := (q_ne ap_sta_out.symm).trans e698
                    have e720 : (va_up f689 sta (.inl (E.2.1, 5, .inl g711))) mac = .inl (E.1, 20, .inl g_mac) := (q_ne ap_sta_mac.symm).trans e699
                    have hF721 : ∀ x, x ≠ wd → x ≠ sta → (va_up f689 sta (.inl (E.2.1, 5, .inl g711))) x = f x := fun x h0 h1 => (q_ne h1).trans (hF690 x h0 h1)
                    have Y : pH D cCl (pA L sz) s.heap L (va_up f689 sta (.inl (E.2.1, 5, .inl g711))) H locs := Y
                    generalize (va_up f689 sta (.inl (E.2.1, 5, .inl g711))) = f713 at Y e714 e715 e716 e717 e718 e719 e720 hF721
                    refine lv_aload_n X.1 X.2.1 d_Ha_compress_343 rfl (lv_at hl 6 rfl) ?_
                    refine q_get X.1 X.2.1 X.2.2.1 i_Ha X.2.2.2.1 X.2.2.2.2 Y m_o e715 rfl 2 (by decide) (X.2.2.1 _ lk_Ha_17) (fun _ h9 => h9) rfl d_Ha_compress_344 ?_
                    refine lv_iconst (v := (nI 1)) X.1 X.2.1 d_Ha_compress_347 (by decide) ?_
                    refine lv_dup2_11 X.1 X.2.1 d_Ha_compress_348 rfl rfl ?_
                    refine q_iald X.1 X.2.1 X.2.2.2.2 Y 1 m_sta e714 rfl (vp_in_nI (by omega) (by omega)) d_Ha_compress_349 ?_
                    refine t_any (fun v722 => ?_)
                    refine lv_iload_n X.1 X.2.1 d_Ha_compress_350 rfl (lv_at hl 4 rfl) ?_
                    refine lv_iadd X.1 X.2.1 d_Ha_compress_351 ?_
                    refine t_any (fun v723 => ?_)
                    refine q_iast X.1 X.2.1 X.2.2.2.2 Y 1 m_sta e714 rfl (vp_in_nI (by omega) (by omega)) d_Ha_compress_352 (fun H locs Y => ?_)
                    generalize (upd g711 ((nI 1)).toNatClampNeg v723) = g724 at Y
                    have e727 : (va_up f713 sta (.inl (E.2.1, 5, .inl g724))) sta = .inl (E.2.1, 5, .inl g724) := q_up
                    have e728 : (va_up f713 sta (.inl (E.2.1, 5, .inl g724))) o = .inr (6, [.ref wd, .ref bl, .ref sta, .ref inn, .ref out, .int (nI fl), .int tot, .ref mac]) := (q_ne (q_tag e715 e714 (show (6 : Nat) ≠ 1000 by decide))).trans e715
                    have e729 : (va_up f713 sta (.inl (E.2.1, 5, .inl g724))) wd = .inl (E.2.1, 80, .inl g693) := (q_ne ap_wd_sta).trans e716
                    have e730 : (va_up f713 sta (.inl (E.2.1, 5, .inl g724))) bl = .inl (E.1, 64, .inl g_bl) := (q_ne ap_bl_sta).trans e717
                    have e731 : (va_up f713 sta (.inl (E.2.1, 5, .inl g724))) inn = .inl (E.2.1, 5, .inl g_inn) := (q_ne ap_sta_inn.symm).trans e718
                    have e732 : (va_up f713 sta (.inl (E.2.1, 5, .inl g724))) out = .inl (E.2.1, 5, .inl g_out) := (q_ne ap_sta_out.symm).trans e719
                    have e733 : (va_up f713 sta (.inl (E.2.1, 5, .inl g724))) mac = .inl (E.1, 20, .inl g_mac) := (q_ne ap_sta_mac.symm).trans e720
                    have hF734 : ∀ x, x ≠ wd → x ≠ sta → (va_up f713 sta (.inl (E.2.1, 5, .inl g724))) x = f x := fun x h0 h1 => (q_ne h1).trans (hF721 x h0 h1)
                    have Y : pH D cCl (pA L sz) s.heap L (va_up f713 sta (.inl (E.2.1, 5, .inl g724))) H locs := Y
                    generalize (va_up f713 sta (.inl (E.2.1, 5, .inl g724))) = f726 at Y e727 e728 e729 e730 e731 e732 e733 hF734
                    refine lv_aload_n X.1 X.2.1 d_Ha_compress_353 rfl (lv_at hl 6 rfl) ?_
                    refine q_get X.1 X.2.1 X.2.2.1 i_Ha X.2.2.2.1 X.2.2.2.2 Y m_o e728 rfl 2 (by decide) (X.2.2.1 _ lk_Ha_17) (fun _ h9 => h9) rfl d_Ha_compress_354 ?_
                    refine lv_iconst (v := (nI 2)) X.1 X.2.1 d_Ha_compress_357 (by decide) ?_
                    refine lv_dup2_11 X.1 X.2.1 d_Ha_compress_358 rfl rfl ?_
                    refine q_iald X.1 X.2.1 X.2.2.2.2 Y 1 m_sta e727 rfl (vp_in_nI (by omega) (by omega)) d_Ha_compress_359 ?_
                    refine t_any (fun v735 => ?_)
                    refine lv_iload_n X.1 X.2.1 d_Ha_compress_360 rfl (lv_at hl 3 rfl) ?_
                    refine lv_iadd X.1 X.2.1 d_Ha_compress_361 ?_
                    refine t_any (fun v736 => ?_)
                    refine q_iast X.1 X.2.1 X.2.2.2.2 Y 1 m_sta e727 rfl (vp_in_nI (by omega) (by omega)) d_Ha_compress_362 (fun H locs Y => ?_)
                    generalize (upd g724 ((nI 2)).toNatClampNeg v736) = g737 at Y
                    have e740 : (va_up f726 sta (.inl (E.2.1, 5, .inl g737))) sta = .inl (E.2.1, 5, .inl g737) := q_up
                    have e741 : (va_up f726 sta (.inl (E.2.1, 5, .inl g737))) o = .inr (6, [.ref wd, .ref bl, .ref sta, .ref inn, .ref out, .int (nI fl), .int tot, .ref mac]) := (q_ne (q_tag e728 e727 (show (6 : Nat) ≠ 1000 by decide))).trans e728
                    have e742 : (va_up f726 sta (.inl (E.2.1, 5, .inl g737))) wd = .inl (E.2.1, 80, .inl g693) := (q_ne ap_wd_sta).trans e729
                    have e743 : (va_up f726 sta (.inl (E.2.1, 5, .inl g737))) bl = .inl (E.1, 64, .inl g_bl) := (q_ne ap_bl_sta).trans e730
                    have e744 : (va_up f726 sta (.inl (E.2.1, 5, .inl g737))) inn = .inl (E.2.1, 5, .inl g_inn) := (q_ne ap_sta_inn.symm).trans e731
                    have e745 : (va_up f726 sta (.inl (E.2.1, 5, .inl g737))) out = .inl (E.2.1, 5, .inl g_out) := (q_ne ap_sta_out.symm).trans e732
                    have e746 : (va_up f726 sta (.inl (E.2.1, 5, .inl g737))) mac = .inl (E.1, 20, .inl g_mac) := (q_ne ap_sta_mac.symm).trans e733
                    have hF747 : ∀ x, x ≠ wd → x ≠ sta → (va_up f726 sta (.inl (E.2.1, 5, .inl g737))) x = f x := fun x h0 h1 => (q_ne h1).trans (hF734 x h0 h1)
                    have Y : pH D cCl (pA L sz) s.heap L (va_up f726 sta (.inl (E.2.1, 5, .inl g737))) H locs := Y
                    generalize (va_up f726 sta (.inl (E.2.1, 5, .inl g737))) = f739 at Y e740 e741 e742 e743 e744 e745 e746 hF747
                    refine lv_aload_n X.1 X.2.1 d_Ha_compress_363 rfl (lv_at hl 6 rfl) ?_
                    refine q_get X.1 X.2.1 X.2.2.1 i_Ha X.2.2.2.1 X.2.2.2.2 Y m_o e741 rfl 2 (by decide) (X.2.2.1 _ lk_Ha_17) (fun _ h9 => h9) rfl d_Ha_compress_364 ?_
                    refine lv_iconst (v := (nI 3)) X.1 X.2.1 d_Ha_compress_367 (by decide) ?_
                    refine lv_dup2_11 X.1 X.2.1 d_Ha_compress_368 rfl rfl ?_
                    refine q_iald X.1 X.2.1 X.2.2.2.2 Y 1 m_sta e740 rfl (vp_in_nI (by omega) (by omega)) d_Ha_compress_369 ?_
                    refine t_any (fun v748 => ?_)
                    refine lv_iload X.1 X.2.1 d_Ha_compress_370 (lv_at hl 2 rfl) ?_
                    refine lv_iadd X.1 X.2.1 d_Ha_compress_372 ?_
                    refine t_any (fun v749 => ?_)
                    refine q_iast X.1 X.2.1 X.2.2.2.2 Y 1 m_sta e740 rfl (vp_in_nI (by omega) (by omega)) d_Ha_compress_373 (fun H locs Y => ?_)
                    generalize (upd g737 ((nI 3)).toNatClampNeg v749) = g750 at Y
                    have e753 : (va_up f739 sta (.inl (E.2.1, 5, .inl g750))) sta = .inl (E.2.1, 5, .inl g750) := q_up
                    have e754 : (va_up f739 sta (.inl (E.2.1, 5, .inl g750))) o = .inr (6, [.ref wd, .ref bl, .ref sta, .ref inn, .ref out, .int (nI fl), .int tot, .ref mac]) := (q_ne (q_tag e741 e740 (show (6 : Nat) ≠ 1000 by decide))).trans e741
                    have e755 : (va_up f739 sta (.inl (E.2.1, 5, .inl g750))) wd = .inl (E.2.1, 80, .inl g693) := (q_ne ap_wd_sta).trans e742
                    have e756 : (va_up f739 sta (.inl (E.2.1, 5, .inl g750))) bl = .inl (E.1, 64, .inl g_bl) := (q_ne ap_bl_sta).trans e743
                    have e757 : (va_up f739 sta (.inl (E.2.1, 5, .inl g750))) inn = .inl (E.2.1, 5, .inl g_inn) := (q_ne ap_sta_inn.symm).trans e744
                    have e758 : (va_up f739 sta (.inl (E.2.1, 5, .inl g750))) out = .inl (E.2.1, 5, .inl g_out) := (q_ne ap_sta_out.symm).trans e745
                    have e759 : (va_up f739 sta (.inl (E.2.1, 5, .inl g750))) mac = .inl (E.1, 20, .inl g_mac) := (q_ne ap_sta_mac.symm).trans e746
                    have hF760 : ∀ x, x ≠ wd → x ≠ sta → (va_up f739 sta (.inl (E.2.1, 5, .inl g750))) x = f x := fun x h0 h1 => (q_ne h1).trans (hF747 x h0 h1)
                    have Y : pH D cCl (pA L sz) s.heap L (va_up f739 sta (.inl (E.2.1, 5, .inl g750))) H locs := Y
                    generalize (va_up f739 sta (.inl (E.2.1, 5, .inl g750))) = f752 at Y e753 e754 e755 e756 e757 e758 e759 hF760
                    refine lv_aload_n X.1 X.2.1 d_Ha_compress_374 rfl (lv_at hl 6 rfl) ?_
                    refine q_get X.1 X.2.1 X.2.2.1 i_Ha X.2.2.2.1 X.2.2.2.2 Y m_o e754 rfl 2 (by decide) (X.2.2.1 _ lk_Ha_17) (fun _ h9 => h9) rfl d_Ha_compress_375 ?_
                    refine lv_iconst (v := (nI 4)) X.1 X.2.1 d_Ha_compress_378 (by decide) ?_
                    refine lv_dup2_11 X.1 X.2.1 d_Ha_compress_379 rfl rfl ?_
                    refine q_iald X.1 X.2.1 X.2.2.2.2 Y 1 m_sta e753 rfl (vp_in_nI (by omega) (by omega)) d_Ha_compress_380 ?_
                    refine t_any (fun v761 => ?_)
                    refine lv_iload X.1 X.2.1 d_Ha_compress_381 (lv_at hl 1 rfl) ?_
                    refine lv_iadd X.1 X.2.1 d_Ha_compress_383 ?_
                    refine t_any (fun v762 => ?_)
                    refine q_iast X.1 X.2.1 X.2.2.2.2 Y 1 m_sta e753 rfl (vp_in_nI (by omega) (by omega)) d_Ha_compress_384 (fun H locs Y => ?_)
                    generalize (upd g750 ((nI 4)).toNatClampNeg v762) = g763 at Y
                    have e766 : (va_up f752 sta (.inl (E.2.1, 5, .inl g763))) sta = .inl (E.2.1, 5, .inl g763) := q_up
                    have e767 : (va_up f752 sta (.inl (E.2.1, 5, .inl g763))) o = .inr (6, [.ref wd, .ref bl, .ref sta, .ref inn, .ref out, .int (nI fl), .int tot, .ref mac]) := (q_ne (q_tag e754 e753 (show (6 : Nat) ≠ 1000 by decide))).trans e754
                    have e768 : (va_up f752 sta (.inl (E.2.1, 5, .inl g763))) wd = .inl (E.2.1, 80, .inl g693) := (q_ne ap_wd_sta).trans e755
                    have e769 : (va_up f752 sta (.inl (E.2.1, 5, .inl g763))) bl = .inl (E.1, 64, .inl g_bl) := (q_ne ap_bl_sta).trans e756
                    have e770 : (va_up f752 sta (.inl (E.2.1, 5, .inl g763))) inn = .inl (E.2.1, 5, .inl g_inn) := (q_ne ap_sta_inn.symm).trans e757
                    have e771 : (va_up f752 sta (.inl (E.2.1, 5, .inl g763))) out = .inl (E.2.1, 5, .inl g_out) := (q_ne ap_sta_out.symm).trans e758
                    have e772 : (va_up f752 sta (.inl (E.2.1, 5, .inl g763))) mac = .inl (E.1, 20, .inl g_mac) := (q_ne ap_sta_mac.symm).trans e759
                    have hF773 : ∀ x, x ≠ wd → x ≠ sta → (va_up f752 sta (.inl (E.2.1, 5, .inl g763))) x = f x := fun x h0 h1 => (q_ne h1).trans (hF760 x h0 h1)
                    have Y : pH D cCl (pA L sz) s.heap L (va_up f752 sta (.inl (E.2.1, 5, .inl g763))) H locs := Y
                    generalize (va_up f752 sta (.inl (E.2.1, 5, .inl g763))) = f765 at Y e766 e767 e768 e769 e770 e771 e772 hF773
                    exact c_retv hQQ X Y hr hlk ⟨rfl, hF773, g693, g763, e768, e766⟩ d_Ha_compress_385
                  · skip
                    rw [nI_leI (by omega) (by omega)] at c708
                    refine lv_iload X.1 X.2.1 d_Ha_compress_197 (lv_at hl 0 rfl) ?_
                    refine lv_bipush (v := (nI 20)) X.1 X.2.1 d_Ha_compress_199 (by decide) ?_
                    refine lv_icmp_ge (tgt := 222) X.1 X.2.1 d_Ha_compress_201 (by decide) (fun c774 => ?_) (fun c774 => ?_)
                    · skip
                      rw [nI_leI (by omega) (by omega)] at c774
                      refine lv_iload X.1 X.2.1 d_Ha_compress_222 (lv_at hl 0 rfl) ?_
                      refine lv_bipush (v := (nI 40)) X.1 X.2.1 d_Ha_compress_224 (by decide) ?_
                      refine lv_icmp_ge (tgt := 243) X.1 X.2.1 d_Ha_compress_226 (by decide) (fun c775 => ?_) (fun c775 => ?_)
                      · skip
                        rw [nI_leI (by omega) (by omega)] at c775
                        refine lv_iload X.1 X.2.1 d_Ha_compress_243 (lv_at hl 0 rfl) ?_
                        refine lv_bipush (v := (nI 60)) X.1 X.2.1 d_Ha_compress_245 (by decide) ?_
                        refine lv_icmp_ge (tgt := 271) X.1 X.2.1 d_Ha_compress_247 (by decide) (fun c776 => ?_) (fun c776 => ?_)
                        · skip
                          rw [nI_leI (by omega) (by omega)] at c776
                          refine lv_iload_n X.1 X.2.1 d_Ha_compress_271 rfl (lv_at hl 4 rfl) ?_
                          refine lv_iload_n X.1 X.2.1 d_Ha_compress_272 rfl (lv_at hl 3 rfl) ?_
                          refine lv_ixor X.1 X.2.1 d_Ha_compress_273 ?_
                          refine t_any (fun v777 => ?_)
                          refine lv_iload X.1 X.2.1 d_Ha_compress_274 (lv_at hl 2 rfl) ?_
                          refine lv_ixor X.1 X.2.1 d_Ha_compress_276 ?_
                          refine t_any (fun v778 => ?_)
                          refine lv_ldc (v := (-899497514)) X.1 X.2.1 X.2.2.2.1 (X.2.2.1 _ cn_Ha_60) d_Ha_compress_277 ?_
                          refine lv_iadd X.1 X.2.1 d_Ha_compress_279 ?_
                          refine t_any (fun v779 => ?_)
                          refine lv_istore (lv' := [(7, .int v779), (6, .int (nI i)), (5, .int x704), (4, .int x703), (3, .int x702), (2, .int x701), (1, .int x700), (0, .ref o)]) X.1 X.2.1 d_Ha_compress_280 hl (by decide) rfl (fun ls hl => ?_)
                          refine lv_iload_n X.1 X.2.1 d_Ha_compress_282 rfl (lv_at hl 6 rfl) ?_
                          refine lv_iconst (v := (nI 5)) X.1 X.2.1 d_Ha_compress_283 (by decide) ?_
                          refine lv_ishl X.1 X.2.1 d_Ha_compress_284 ?_
                          refine t_any (fun v780 => ?_)
                          refine lv_iload_n X.1 X.2.1 d_Ha_compress_285 rfl (lv_at hl 6 rfl) ?_
                          refine lv_bipush (v := (nI 27)) X.1 X.2.1 d_Ha_compress_286 (by decide) ?_
                          obtain ⟨v781, ev781⟩ : ∃ z : Int32, ((x700 : Int32).toUInt32 >>> (((nI 27) : Int32).toUInt32 &&& Int32.toUInt32 31)).toInt32 = z := ⟨_, rfl⟩
                          refine lv_iushr (v := v781) X.1 X.2.1 d_Ha_compress_288 ev781 ?_
                          refine lv_ior X.1 X.2.1 d_Ha_compress_289 ?_
                          refine t_any (fun v782 => ?_)
                          refine lv_iload X.1 X.2.1 d_Ha_compress_290 (lv_at hl 0 rfl) ?_
                          refine lv_iadd X.1 X.2.1 d_Ha_compress_292 ?_
                          refine t_any (fun v783 => ?_)
                          refine lv_iload X.1 X.2.1 d_Ha_compress_293 (lv_at hl 2 rfl) ?_
                          refine lv_iadd X.1 X.2.1 d_Ha_compress_295 ?_
                          refine t_any (fun v784 => ?_)
                          refine lv_aload_n X.1 X.2.1 d_Ha_compress_296 rfl (lv_at hl 7 rfl) ?_
                          refine q_get X.1 X.2.1 X.2.2.1 i_Ha X.2.2.2.1 X.2.2.2.2 Y m_o e691 rfl 0 (by decide) (X.2.2.1 _ lk_Ha_7) (fun _ h9 => h9) rfl d_Ha_compress_297 ?_
                          refine lv_iload X.1 X.2.1 d_Ha_compress_300 (lv_at hl 1 rfl) ?_
                          refine q_iald X.1 X.2.1 X.2.2.2.2 Y 1 m_wd e692 rfl (vp_in_nI (by omega) (by omega)) d_Ha_compress_302 ?_
                          refine t_any (fun v785 => ?_)
                          refine lv_iadd X.1 X.2.1 d_Ha_compress_303 ?_
                          refine t_any (fun v786 => ?_)
                          refine lv_istore (lv' := [(8, .int v786), (7, .int v779), (6, .int (nI i)), (5, .int x704), (4, .int x703), (3, .int x702), (2, .int x701), (1, .int x700), (0, .ref o)]) X.1 X.2.1 d_Ha_compress_304 hl (by decide) rfl (fun ls hl => ?_)
                          refine lv_iload X.1 X.2.1 d_Ha_compress_306 (lv_at hl 4 rfl) ?_
                          refine lv_istore (lv' := [(5, .int x703), (8, .int v786), (7, .int v779), (6, .int (nI i)), (4, .int x703), (3, .int x702), (2, .int x701), (1, .int x700), (0, .ref o)]) X.1 X.2.1 d_Ha_compress_308 hl (by decide) rfl (fun ls hl => ?_)
                          refine lv_iload_n X.1 X.2.1 d_Ha_compress_310 rfl (lv_at hl 5 rfl) ?_
                          refine lv_istore (lv' := [(4, .int x702), (5, .int x703), (8, .int v786), (7, .int v779), (6, .int (nI i)), (3, .int x702), (2, .int x701), (1, .int x700), (0, .ref o)]) X.1 X.2.1 d_Ha_compress_311 hl (by decide) rfl (fun ls hl => ?_)
                          refine lv_iload_n X.1 X.2.1 d_Ha_compress_313 rfl (lv_at hl 6 rfl) ?_
                          refine lv_bipush (v := (nI 30)) X.1 X.2.1 d_Ha_compress_314 (by decide) ?_
                          refine lv_ishl X.1 X.2.1 d_Ha_compress_316 ?_
                          refine t_any (fun v787 => ?_)
                          refine lv_iload_n X.1 X.2.1 d_Ha_compress_317 rfl (lv_at hl 6 rfl) ?_
                          refine lv_iconst (v := (nI 2)) X.1 X.2.1 d_Ha_compress_318 (by decide) ?_
                          obtain ⟨v788, ev788⟩ : ∃ z : Int32, ((x701 : Int32).toUInt32 >>> (((nI 2) : Int32).toUInt32 &&& Int32.toUInt32 31)).toInt32 = z := ⟨_, rfl⟩
                          refine lv_iushr (v := v788) X.1 X.2.1 d_Ha_compress_319 ev788 ?_
                          refine lv_ior X.1 X.2.1 d_Ha_compress_320 ?_
                          refine t_any (fun v789 => ?_)
                          refine lv_istore_n (lv' := [(3, .int v789), (4, .int x702), (5, .int x703), (8, .int v786), (7, .int v779), (6, .int (nI i)), (2, .int x701), (1, .int x700), (0, .ref o)]) X.1 X.2.1 d_Ha_compress_321 rfl hl (by decide) rfl (fun ls hl => ?_)
                          refine lv_iload_n X.1 X.2.1 d_Ha_compress_322 rfl (lv_at hl 7 rfl) ?_
                          refine lv_istore_n (lv' := [(2, .int x700), (3, .int v789), (4, .int x702), (5, .int x703), (8, .int v786), (7, .int v779), (6, .int (nI i)), (1, .int x700), (0, .ref o)]) X.1 X.2.1 d_Ha_compress_323 rfl hl (by decide) rfl (fun ls hl => ?_)
                          refine lv_iload X.1 X.2.1 d_Ha_compress_324 (lv_at hl 4 rfl) ?_
                          refine lv_istore_n (lv' := [(1, .int v786), (2, .int x700), (3, .int v789), (4, .int x702), (5, .int x703), (8, .int v786), (7, .int v779), (6, .int (nI i)), (0, .ref o)]) X.1 X.2.1 d_Ha_compress_326 rfl hl (by decide) rfl (fun ls hl => ?_)
                          refine lv_iinc (v := (nI (i + 1))) (lv' := [(6, .int (nI (i + 1))), (1, .int v786), (2, .int x700), (3, .int v789), (4, .int x702), (5, .int x703), (8, .int v786), (7, .int v779), (0, .ref o)]) X.1 X.2.1 d_Ha_compress_327 hl (k := 7) rfl (nI_add _ 1) (by decide) rfl (fun ls hl => ?_)
                          refine lv_goto (tgt := 190) X.1 X.2.1 d_Ha_compress_330 (by decide) ?_
                          exact False.elim (by omega)
                        · skip
                          rw [nI_leI (by omega) (by omega)] at c776
                          refine lv_iload_n X.1 X.2.1 d_Ha_compress_250 rfl (lv_at hl 4 rfl) ?_
                          refine lv_iload_n X.1 X.2.1 d_Ha_compress_251 rfl (lv_at hl 3 rfl) ?_
                          refine lv_iand X.1 X.2.1 d_Ha_compress_252 ?_
                          refine t_any (fun v790 => ?_)
                          refine lv_iload_n X.1 X.2.1 d_Ha_compress_253 rfl (lv_at hl 4 rfl) ?_
                          refine lv_iload X.1 X.2.1 d_Ha_compress_254 (lv_at hl 2 rfl) ?_
                          refine lv_iand X.1 X.2.1 d_Ha_compress_256 ?_
                          refine t_any (fun v791 => ?_)
                          refine lv_ior X.1 X.2.1 d_Ha_compress_257 ?_
                          refine t_any (fun v792 => ?_)
                          refine lv_iload_n X.1 X.2.1 d_Ha_compress_258 rfl (lv_at hl 3 rfl) ?_
                          refine lv_iload X.1 X.2.1 d_Ha_compress_259 (lv_at hl 2 rfl) ?_
                          refine lv_iand X.1 X.2.1 d_Ha_compress_261 ?_
                          refine t_any (fun v793 => ?_)
                          refine lv_ior X.1 X.2.1 d_Ha_compress_262 ?_
                          refine t_any (fun v794 => ?_)
                          refine lv_ldc (v := (-1894007588)) X.1 X.2.1 X.2.2.2.1 (X.2.2.1 _ cn_Ha_59) d_Ha_compress_263 ?_
                          refine lv_iadd X.1 X.2.1 d_Ha_compress_265 ?_
                          refine t_any (fun v795 => ?_)
                          refine lv_istore (lv' := [(7, .int v795), (6, .int (nI i)), (5, .int x704), (4, .int x703), (3, .int x702), (2, .int x701), (1, .int x700), (0, .ref o)]) X.1 X.2.1 d_Ha_compress_266 hl (by decide) rfl (fun ls hl => ?_)
                          refine lv_goto (tgt := 282) X.1 X.2.1 d_Ha_compress_268 (by decide) ?_
                          refine lv_iload_n X.1 X.2.1 d_Ha_compress_282 rfl (lv_at hl 6 rfl) ?_
                          refine lv_iconst (v := (nI 5)) X.1 X.2.1 d_Ha_compress_283 (by decide) ?_
                          refine lv_ishl X.1 X.2.1 d_Ha_compress_284 ?_
                          refine t_any (fun v796 => ?_)
                          refine lv_iload_n X.1 X.2.1 d_Ha_compress_285 rfl (lv_at hl 6 rfl) ?_
                          refine lv_bipush (v := (nI 27)) X.1 X.2.1 d_Ha_compress_286 (by decide) ?_
                          obtain ⟨v797, ev797⟩ : ∃ z : Int32, ((x700 : Int32).toUInt32 >>> (((nI 27) : Int32).toUInt32 &&& Int32.toUInt32 31)).toInt32 = z := ⟨_, rfl⟩
                          refine lv_iushr (v := v797) X.1 X.2.1 d_Ha_compress_288 ev797 ?_
                          refine lv_ior X.1 X.2.1 d_Ha_compress_289 ?_
                          refine t_any (fun v798 => ?_)
                          refine lv_iload X.1 X.2.1 d_Ha_compress_290 (lv_at hl 0 rfl) ?_
                          refine lv_iadd X.1 X.2.1 d_Ha_compress_292 ?_
                          refine t_any (fun v799 => ?_)
                          refine lv_iload X.1 X.2.1 d_Ha_compress_293 (lv_at hl 2 rfl) ?_
                          refine lv_iadd X.1 X.2.1 d_Ha_compress_295 ?_
                          refine t_any (fun v800 => ?_)
                          refine lv_aload_n X.1 X.2.1 d_Ha_compress_296 rfl (lv_at hl 7 rfl) ?_
                          refine q_get X.1 X.2.1 X.2.2.1 i_Ha X.2.2.2.1 X.2.2.2.2 Y m_o e691 rfl 0 (by decide) (X.2.2.1 _ lk_Ha_7) (fun _ h9 => h9) rfl d_Ha_compress_297 ?_
                          refine lv_iload X.1 X.2.1 d_Ha_compress_300 (lv_at hl 1 rfl) ?_
                          refine q_iald X.1 X.2.1 X.2.2.2.2 Y 1 m_wd e692 rfl (vp_in_nI (by omega) (by omega)) d_Ha_compress_302 ?_
                          refine t_any (fun v801 => ?_)
                          refine lv_iadd X.1 X.2.1 d_Ha_compress_303 ?_
                          refine t_any (fun v802 => ?_)
                          refine lv_istore (lv' := [(8, .int v802), (7, .int v795), (6, .int (nI i)), (5, .int x704), (4, .int x703), (3, .int x702), (2, .int x701), (1, .int x700), (0, .ref o)]) X.1 X.2.1 d_Ha_compress_304 hl (by decide) rfl (fun ls hl => ?_)
                          refine lv_iload X.1 X.2.1 d_Ha_compress_306 (lv_at hl 4 rfl) ?_
                          refine lv_istore (lv' := [(5, .int x703), (8, .int v802), (7, .int v795), (6, .int (nI i)), (4, .int x703), (3, .int x702), (2, .int x701), (1, .int x700), (0, .ref o)]) X.1 X.2.1 d_Ha_compress_308 hl (by decide) rfl (fun ls hl => ?_)
                          refine lv_iload_n X.1 X.2.1 d_Ha_compress_310 rfl (lv_at hl 5 rfl) ?_
                          refine lv_istore (lv' := [(4, .int x702), (5, .int x703), (8, .int v802), (7, .int v795), (6, .int (nI i)), (3, .int x702), (2, .int x701), (1, .int x700), (0, .ref o)]) X.1 X.2.1 d_Ha_compress_311 hl (by decide) rfl (fun ls hl => ?_)
                          refine lv_iload_n X.1 X.2.1 d_Ha_compress_313 rfl (lv_at hl 6 rfl) ?_
                          refine lv_bipush (v := (nI 30)) X.1 X.2.1 d_Ha_compress_314 (by decide) ?_
                          refine lv_ishl X.1 X.2.1 d_Ha_compress_316 ?_
                          refine t_any (fun v803 => ?_)
                          refine lv_iload_n X.1 X.2.1 d_Ha_compress_317 rfl (lv_at hl 6 rfl) ?_
                          refine lv_iconst (v := (nI 2)) X.1 X.2.1 d_Ha_compress_318 (by decide) ?_
                          obtain ⟨v804, ev804⟩ : ∃ z : Int32, ((x701 : Int32).toUInt32 >>> (((nI 2) : Int32).toUInt32 &&& Int32.toUInt32 31)).toInt32 = z := ⟨_, rfl⟩
                          refine lv_iushr (v := v804) X.1 X.2.1 d_Ha_compress_319 ev804 ?_
                          refine lv_ior X.1 X.2.1 d_Ha_compress_320 ?_
                          refine t_any (fun v805 => ?_)
                          refine lv_istore_n (lv' := [(3, .int v805), (4, .int x702), (5, .int x703), (8, .int v802), (7, .int v795), (6, .int (nI i)), (2, .int x701), (1, .int x700), (0, .ref o)]) X.1 X.2.1 d_Ha_compress_321 rfl hl (by decide) rfl (fun ls hl => ?_)
                          refine lv_iload_n X.1 X.2.1 d_Ha_compress_322 rfl (lv_at hl 7 rfl) ?_
                          refine lv_istore_n (lv' := [(2, .int x700), (3, .int v805), (4, .int x702), (5, .int x703), (8, .int v802), (7, .int v795), (6, .int (nI i)), (1, .int x700), (0, .ref o)]) X.1 X.2.1 d_Ha_compress_323 rfl hl (by decide) rfl (fun ls hl => ?_)
                          refine lv_iload X.1 X.2.1 d_Ha_compress_324 (lv_at hl 4 rfl) ?_
                          refine lv_istore_n (lv' := [(1, .int v802), (2, .int x700), (3, .int v805), (4, .int x702), (5, .int x703), (8, .int v802), (7, .int v795), (6, .int (nI i)), (0, .ref o)]) X.1 X.2.1 d_Ha_compress_326 rfl hl (by decide) rfl (fun ls hl => ?_)
                          refine lv_iinc (v := (nI (i + 1))) (lv' := [(6, .int (nI (i + 1))), (1, .int v802), (2, .int x700), (3, .int v805), (4, .int x702), (5, .int x703), (8, .int v802), (7, .int v795), (0, .ref o)]) X.1 X.2.1 d_Ha_compress_327 hl (k := 7) rfl (nI_add _ 1) (by decide) rfl (fun ls hl => ?_)
                          refine lv_goto (tgt := 190) X.1 X.2.1 d_Ha_compress_330 (by decide) ?_
                          exact False.elim (by omega)
                      · skip
                        rw [nI_leI (by omega) (by omega)] at c775
                        refine lv_iload_n X.1 X.2.1 d_Ha_compress_229 rfl (lv_at hl 4 rfl) ?_
                        refine lv_iload_n X.1 X.2.1 d_Ha_compress_230 rfl (lv_at hl 3 rfl) ?_
                        refine lv_ixor X.1 X.2.1 d_Ha_compress_231 ?_
                        refine t_any (fun v806 => ?_)
                        refine lv_iload X.1 X.2.1 d_Ha_compress_232 (lv_at hl 2 rfl) ?_
                        refine lv_ixor X.1 X.2.1 d_Ha_compress_234 ?_
                        refine t_any (fun v807 => ?_)
                        refine lv_ldc (v := (1859775393)) X.1 X.2.1 X.2.2.2.1 (X.2.2.1 _ cn_Ha_58) d_Ha_compress_235 ?_
                        refine t_eq (y := nI 1859775393) (by decide) ?_
                        refine lv_iadd X.1 X.2.1 d_Ha_compress_237 ?_
                        refine t_any (fun v808 => ?_)
                        refine lv_istore (lv' := [(7, .int v808), (6, .int (nI i)), (5, .int x704), (4, .int x703), (3, .int x702), (2, .int x701), (1, .int x700), (0, .ref o)]) X.1 X.2.1 d_Ha_compress_238 hl (by decide) rfl (fun ls hl => ?_)
                        refine lv_goto (tgt := 282) X.1 X.2.1 d_Ha_compress_240 (by decide) ?_
                        refine lv_iload_n X.1 X.2.1 d_Ha_compress_282 rfl (lv_at hl 6 rfl) ?_
                        refine lv_iconst (v := (nI 5)) X.1 X.2.1 d_Ha_compress_283 (by decide) ?_
                        refine lv_ishl X.1 X.2.1 d_Ha_compress_284 ?_
                        refine t_any (fun v809 => ?_)
                        refine lv_iload_n X.1 X.2.1 d_Ha_compress_285 rfl (lv_at hl 6 rfl) ?_
                        refine lv_bipush (v := (nI 27)) X.1 X.2.1 d_Ha_compress_286 (by decide) ?_
                        obtain ⟨v810, ev810⟩ : ∃ z : Int32, ((x700 : Int32).toUInt32 >>> (((nI 27) : Int32).toUInt32 &&& Int32.toUInt32 31)).toInt32 = z := ⟨_, rfl⟩
                        refine lv_iushr (v := v810) X.1 X.2.1 d_Ha_compress_288 ev810 ?_
                        refine lv_ior X.1 X.2.1 d_Ha_compress_289 ?_
                        refine t_any (fun v811 => ?_)
                        refine lv_iload X.1 X.2.1 d_Ha_compress_290 (lv_at hl 0 rfl) ?_
                        refine lv_iadd X.1 X.2.1 d_Ha_compress_292 ?_
                        refine t_any (fun v812 => ?_)
                        refine lv_iload X.1 X.2.1 d_Ha_compress_293 (lv_at hl 2 rfl) ?_
                        refine lv_iadd X.1 X.2.1 d_Ha_compress_295 ?_
                        refine t_any (fun v813 => ?_)
                        refine lv_aload_n X.1 X.2.1 d_Ha_compress_296 rfl (lv_at hl 7 rfl) ?_
                        refine q_get X.1 X.2.1 X.2.2.1 i_Ha X.2.2.2.1 X.2.2.2.2 Y m_o e691 rfl 0 (by decide) (X.2.2.1 _ lk_Ha_7) (fun _ h9 => h9) rfl d_Ha_compress_297 ?_
                        refine lv_iload X.1 X.2.1 d_Ha_compress_300 (lv_at hl 1 rfl) ?_
                        refine q_iald X.1 X.2.1 X.2.2.2.2 Y 1 m_wd e692 rfl (vp_in_nI (by omega) (by omega)) d_Ha_compress_302 ?_
                        refine t_any (fun v814 => ?_)
                        refine lv_iadd X.1 X.2.1 d_Ha_compress_303 ?_
                        refine t_any (fun v815 => ?_)
                        refine lv_istore (lv' := [(8, .int v815), (7, .int v808), (6, .int (nI i)), (5, .int x704), (4, .int x703), (3, .int x702), (2, .int x701), (1, .int x700), (0, .ref o)]) X.1 X.2.1 d_Ha_compress_304 hl (by decide) rfl (fun ls hl => ?_)
                        refine lv_iload X.1 X.2.1 d_Ha_compress_306 (lv_at hl 4 rfl) ?_
                        refine lv_istore (lv' := [(5, .int x703), (8, .int v815), (7, .int v808), (6, .int (nI i)), (4, .int x703), (3, .int x702), (2, .int x701), (1, .int x700), (0, .ref o)]) X.1 X.2.1 d_Ha_compress_308 hl (by decide) rfl (fun ls hl => ?_)
                        refine lv_iload_n X.1 X.2.1 d_Ha_compress_310 rfl (lv_at hl 5 rfl) ?_
                        refine lv_istore (lv' := [(4, .int x702), (5, .int x703), (8, .int v815), (7, .int v808), (6, .int (nI i)), (3, .int x702), (2, .int x701), (1, .int x700), (0, .ref o)]) X.1 X.2.1 d_Ha_compress_311 hl (by decide) rfl (fun ls hl => ?_)
                        refine lv_iload_n X.1 X.2.1 d_Ha_compress_313 rfl (lv_at hl 6 rfl) ?_
                        refine lv_bipush (v := (nI 30)) X.1 X.2.1 d_Ha_compress_314 (by decide) ?_
                        refine lv_ishl X.1 X.2.1 d_Ha_compress_316 ?_
                        refine t_any (fun v816 => ?_)
                        refine lv_iload_n X.1 X.2.1 d_Ha_compress_317 rfl (lv_at hl 6 rfl) ?_
                        refine lv_iconst (v := (nI 2)) X.1 X.2.1 d_Ha_compress_318 (by decide) ?_
                        obtain ⟨v817, ev817⟩ : ∃ z : Int32, ((x701 : Int32).toUInt32 >>> (((nI 2) : Int32).toUInt32 &&& Int32.toUInt32 31)).toInt32 = z := ⟨_, rfl⟩
                        refine lv_iushr (v := v817) X.1 X.2.1 d_Ha_compress_319 ev817 ?_
                        refine lv_ior X.1 X.2.1 d_Ha_compress_320 ?_
                        refine t_any (fun v818 => ?_)
                        refine lv_istore_n (lv' := [(3, .int v818), (4, .int x702), (5, .int x703), (8, .int v815), (7, .int v808), (6, .int (nI i)), (2, .int x701), (1, .int x700), (0, .ref o)]) X.1 X.2.1 d_Ha_compress_321 rfl hl (by decide) rfl (fun ls hl => ?_)
                        refine lv_iload_n X.1 X.2.1 d_Ha_compress_322 rfl (lv_at hl 7 rfl) ?_
                        refine lv_istore_n (lv' := [(2, .int x700), (3, .int v818), (4, .int x702), (5, .int x703), (8, .int v815), (7, .int v808), (6, .int (nI i)), (1, .int x700), (0, .ref o)]) X.1 X.2.1 d_Ha_compress_323 rfl hl (by decide) rfl (fun ls hl => ?_)
                        refine lv_iload X.1 X.2.1 d_Ha_compress_324 (lv_at hl 4 rfl) ?_
                        refine lv_istore_n (lv' := [(1, .int v815), (2, .int x700), (3, .int v818), (4, .int x702), (5, .int x703), (8, .int v815), (7, .int v808), (6, .int (nI i)), (0, .ref o)]) X.1 X.2.1 d_Ha_compress_326 rfl hl (by decide) rfl (fun ls hl => ?_)
                        refine lv_iinc (v := (nI (i + 1))) (lv' := [(6, .int (nI (i + 1))), (1, .int v815), (2, .int x700), (3, .int v818), (4, .int x702), (5, .int x703), (8, .int v815), (7, .int v808), (0, .ref o)]) X.1 X.2.1 d_Ha_compress_327 hl (k := 7) rfl (nI_add _ 1) (by decide) rfl (fun ls hl => ?_)
                        refine lv_goto (tgt := 190) X.1 X.2.1 d_Ha_compress_330 (by decide) ?_
                        exact False.elim (by omega)
                    · skip
                      rw [nI_leI (by omega) (by omega)] at c774
                      refine lv_iload_n X.1 X.2.1 d_Ha_compress_204 rfl (lv_at hl 4 rfl) ?_
                      refine lv_iload_n X.1 X.2.1 d_Ha_compress_205 rfl (lv_at hl 3 rfl) ?_
                      refine lv_iand X.1 X.2.1 d_Ha_compress_206 ?_
                      refine t_any (fun v819 => ?_)
                      refine lv_iload_n X.1 X.2.1 d_Ha_compress_207 rfl (lv_at hl 4 rfl) ?_
                      refine lv_iconst (v := (-1)) X.1 X.2.1 d_Ha_compress_208 (by decide) ?_
                      refine lv_ixor X.1 X.2.1 d_Ha_compress_209 ?_
                      refine t_any (fun v820 => ?_)
                      refine lv_iload X.1 X.2.1 d_Ha_compress_210 (lv_at hl 2 rfl) ?_
                      refine lv_iand X.1 X.2.1 d_Ha_compress_212 ?_
                      refine t_any (fun v821 => ?_)
                      refine lv_ior X.1 X.2.1 d_Ha_compress_213 ?_
                      refine t_any (fun v822 => ?_)
                      refine lv_ldc (v := (1518500249)) X.1 X.2.1 X.2.2.2.1 (X.2.2.1 _ cn_Ha_57) d_Ha_compress_214 ?_
                      refine t_eq (y := nI 1518500249) (by decide) ?_
                      refine lv_iadd X.1 X.2.1 d_Ha_compress_216 ?_
                      refine t_any (fun v823 => ?_)
                      refine lv_istore (lv' := [(7, .int v823), (6, .int (nI i)), (5, .int x704), (4, .int x703), (3, .int x702), (2, .int x701), (1, .int x700), (0, .ref o)]) X.1 X.2.1 d_Ha_compress_217 hl (by decide) rfl (fun ls hl => ?_)
                      refine lv_goto (tgt := 282) X.1 X.2.1 d_Ha_compress_219 (by decide) ?_
                      refine lv_iload_n X.1 X.2.1 d_Ha_compress_282 rfl (lv_at hl 6 rfl) ?_
                      refine lv_iconst (v := (nI 5)) X.1 X.2.1 d_Ha_compress_283 (by decide) ?_
                      refine lv_ishl X.1 X.2.1 d_Ha_compress_284 ?_
                      refine t_any (fun v824 => ?_)
                      refine lv_iload_n X.1 X.2.1 d_Ha_compress_285 rfl (lv_at hl 6 rfl) ?_
                      refine lv_bipush (v := (nI 27)) X.1 X.2.1 d_Ha_compress_286 (by decide) ?_
                      obtain ⟨v825, ev825⟩ : ∃ z : Int32, ((x700 : Int32).toUInt32 >>> (((nI 27) : Int32).toUInt32 &&& Int32.toUInt32 31)).toInt32 = z := ⟨_, rfl⟩
                      refine lv_iushr (v := v825) X.1 X.2.1 d_Ha_compress_288 ev825 ?_
                      refine lv_ior X.1 X.2.1 d_Ha_compress_289 ?_
                      refine t_any (fun v826 => ?_)
                      refine lv_iload X.1 X.2.1 d_Ha_compress_290 (lv_at hl 0 rfl) ?_
                      refine lv_iadd X.1 X.2.1 d_Ha_compress_292 ?_
                      refine t_any (fun v827 => ?_)
                      refine lv_iload X.1 X.2.1 d_Ha_compress_293 (lv_at hl 2 rfl) ?_
                      refine lv_iadd X.1 X.2.1 d_Ha_compress_295 ?_
                      refine t_any (fun v828 => ?_)
                      refine lv_aload_n X.1 X.2.1 d_Ha_compress_296 rfl (lv_at hl 7 rfl) ?_
                      refine q_get X.1 X.2.1 X.2.2.1 i_Ha X.2.2.2.1 X.2.2.2.2 Y m_o e691 rfl 0 (by decide) (X.2.2.1 _ lk_Ha_7) (fun _ h9 => h9) rfl d_Ha_compress_297 ?_
                      refine lv_iload X.1 X.2.1 d_Ha_compress_300 (lv_at hl 1 rfl) ?_
                      refine q_iald X.1 X.2.1 X.2.2.2.2 Y 1 m_wd e692 rfl (vp_in_nI (by omega) (by omega)) d_Ha_compress_302 ?_
                      refine t_any (fun v829 => ?_)
                      refine lv_iadd X.1 X.2.1 d_Ha_compress_303 ?_
                      refine t_any (fun v830 => ?_)
                      refine lv_istore (lv' := [(8, .int v830), (7, .int v823), (6, .int (nI i)), (5, .int x704), (4, .int x703), (3, .int x702), (2, .int x701), (1, .int x700), (0, .ref o)]) X.1 X.2.1 d_Ha_compress_304 hl (by decide) rfl (fun ls hl => ?_)
                      refine lv_iload X.1 X.2.1 d_Ha_compress_306 (lv_at hl 4 rfl) ?_
                      refine lv_istore (lv' := [(5, .int x703), (8, .int v830), (7, .int v823), (6, .int (nI i)), (4, .int x703), (3, .int x702), (2, .int x701), (1, .int x700), (0, .ref o)]) X.1 X.2.1 d_Ha_compress_308 hl (by decide) rfl (fun ls hl => ?_)
                      refine lv_iload_n X.1 X.2.1 d_Ha_compress_310 rfl (lv_at hl 5 rfl) ?_
                      refine lv_istore (lv' := [(4, .int x702), (5, .int x703), (8, .int v830), (7, .int v823), (6, .int (nI i)), (3, .int x702), (2, .int x701), (1, .int x700), (0, .ref o)]) X.1 X.2.1 d_Ha_compress_311 hl (by decide) rfl (fun ls hl => ?_)
                      refine lv_iload_n X.1 X.2.1 d_Ha_compress_313 rfl (lv_at hl 6 rfl) ?_
                      refine lv_bipush (v := (nI 30)) X.1 X.2.1 d_Ha_compress_314 (by decide) ?_
                      refine lv_ishl X.1 X.2.1 d_Ha_compress_316 ?_
                      refine t_any (fun v831 => ?_)
                      refine lv_iload_n X.1 X.2.1 d_Ha_compress_317 rfl (lv_at hl 6 rfl) ?_
                      refine lv_iconst (v := (nI 2)) X.1 X.2.1 d_Ha_compress_318 (by decide) ?_
                      obtain ⟨v832, ev832⟩ : ∃ z : Int32, ((x701 : Int32).toUInt32 >>> (((nI 2) : Int32).toUInt32 &&& Int32.toUInt32 31)).toInt32 = z := ⟨_, rfl⟩
                      refine lv_iushr (v := v832) X.1 X.2.1 d_Ha_compress_319 ev832 ?_
                      refine lv_ior X.1 X.2.1 d_Ha_compress_320 ?_
                      refine t_any (fun v833 => ?_)
                      refine lv_istore_n (lv' := [(3, .int v833), (4, .int x702), (5, .int x703), (8, .int v830), (7, .int v823), (6, .int (nI i)), (2, .int x701), (1, .int x700), (0, .ref o)]) X.1 X.2.1 d_Ha_compress_321 rfl hl (by decide) rfl (fun ls hl => ?_)
                      refine lv_iload_n X.1 X.2.1 d_Ha_compress_322 rfl (lv_at hl 7 rfl) ?_
                      refine lv_istore_n (lv' := [(2, .int x700), (3, .int v833), (4, .int x702), (5, .int x703), (8, .int v830), (7, .int v823), (6, .int (nI i)), (1, .int x700), (0, .ref o)]) X.1 X.2.1 d_Ha_compress_323 rfl hl (by decide) rfl (fun ls hl => ?_)
                      refine lv_iload X.1 X.2.1 d_Ha_compress_324 (lv_at hl 4 rfl) ?_
                      refine lv_istore_n (lv' := [(1, .int v830), (2, .int x700), (3, .int v833), (4, .int x702), (5, .int x703), (8, .int v830), (7, .int v823), (6, .int (nI i)), (0, .ref o)]) X.1 X.2.1 d_Ha_compress_326 rfl hl (by decide) rfl (fun ls hl => ?_)
                      refine lv_iinc (v := (nI (i + 1))) (lv' := [(6, .int (nI (i + 1))), (1, .int v830), (2, .int x700), (3, .int v833), (4, .int x702), (5, .int x703), (8, .int v830), (7, .int v823), (0, .ref o)]) X.1 X.2.1 d_Ha_compress_327 hl (k := 7) rfl (nI_add _ 1) (by decide) rfl (fun ls hl => ?_)
                      refine lv_goto (tgt := 190) X.1 X.2.1 d_Ha_compress_330 (by decide) ?_
                      exact False.elim (by omega)
                | succ n687 ih688 =>
                  intro i x700 x701 x702 x703 x704 g693 g696 f689 H locs ls hm707 hc705 hc706  e691 e692 e694 e695 e697 e698 e699 hF690 Y hl
                  refine lv_iload X.1 X.2.1 d_Ha_compress_190 (lv_at hl 0 rfl) ?_
                  refine lv_bipush (v := (nI 80)) X.1 X.2.1 d_Ha_compress_192 (by decide) ?_
                  refine lv_icmp_ge (tgt := 333) X.1 X.2.1 d_Ha_compress_194 (by decide) (fun c834 => ?_) (fun c834 => ?_)
                  · skip
                    rw [nI_leI (by omega) (by omega)] at c834
                    refine lv_aload_n X.1 X.2.1 d_Ha_compress_333 rfl (lv_at hl 6 rfl) ?_
                    refine q_get X.1 X.2.1 X.2.2.1 i_Ha X.2.2.2.1 X.2.2.2.2 Y m_o e691 rfl 2 (by decide) (X.2.2.1 _ lk_Ha_17) (fun _ h9 => h9) rfl d_Ha_compress_334 ?_
                    refine lv_iconst (v := (nI 0)) X.1 X.2.1 d_Ha_compress_337 (by decide) ?_
                    refine lv_dup2_11 X.1 X.2.1 d_Ha_compress_338 rfl rfl ?_
                    refine q_iald X.1 X.2.1 X.2.2.2.2 Y 1 m_sta e695 rfl (vp_in_nI (by omega) (by omega)) d_Ha_compress_339 ?_
                    refine t_any (fun v835 => ?_)
                    refine lv_iload_n X.1 X.2.1 d_Ha_compress_340 rfl (lv_at hl 5 rfl) ?_
                    refine lv_iadd X.1 X.2.1 d_Ha_compress_341 ?_
                    refine t_any (fun v836 => ?_)
                    refine q_iast X.1 X.2.1 X.2.2.2.2 Y 1 m_sta e695 rfl (vp_in_nI (by omega) (by omega)) d_Ha_compress_342 (fun H locs Y => ?_)
                    generalize (upd g696 ((nI 0)).toNatClampNeg v836) = g837 at Y
                    have e840 : (va_up f689 sta (.inl (E.2.1, 5, .inl g837))) sta = .inl (E.2.1, 5, .inl g837) := q_up
                    have e841 : (va_up f689 sta (.inl (E.2.1, 5, .inl g837))) o = .inr (6, [.ref wd, .ref bl, .ref sta, .ref inn, .ref out, .int (nI fl), .int tot, .ref mac]) := (q_ne (q_tag e691 e695 (show (6 : Nat) ≠ 1000 by decide))).trans e691
                    have e842 : (va_up f689 sta (.inl (E.2.1, 5, .inl g837))) wd = .inl (E.2.1, 80, .inl g693) := (q_ne ap_wd_sta).trans e692
                    have e843 : (va_up f689 sta (.inl (E.2.1, 5, .inl g837))) bl = .inl (E.1, 64, .inl g_bl) := (q_ne ap_bl_sta).trans e694
                    have e844 : (va_up f689 sta (.inl (E.2.1, 5, .inl g837))) inn = .inl (E.2.1, 5, .inl g_inn) := (q_ne ap_sta_inn.symm).trans e697
                    have e845 : (va_up f689 sta (.inl (E.2.1, 5, .inl g837))) out = .inl (E.2.1, 5, .inl g_out) := (q_ne ap_sta_out.symm).trans e698
                    have e846 : (va_up f689 sta (.inl (E.2.1, 5, .inl g837))) mac = .inl (E.1, 20, .inl g_mac) := (q_ne ap_sta_mac.symm).trans e699
                    have hF847 : ∀ x, x ≠ wd → x ≠ sta → (va_up f689 sta (.inl (E.2.1, 5, .inl g837))) x = f x := fun x h0 h1 => (q_ne h1).trans (hF690 x h0 h1)
                    have Y : pH D cCl (pA L sz) s.heap L (va_up f689 sta (.inl (E.2.1, 5, .inl g837))) H locs := Y
                    generalize (va_up f689 sta (.inl (E.2.1, 5, .inl g837))) = f839 at Y e840 e841 e842 e843 e844 e845 e846 hF847
                    refine lv_aload_n X.1 X.2.1 d_Ha_compress_343 rfl (lv_at hl 6 rfl) ?_
                    refine q_get X.1 X.2.1 X.2.2.1 i_Ha X.2.2.2.1 X.2.2.2.2 Y m_o e841 rfl 2 (by decide) (X.2.2.1 _ lk_Ha_17) (fun _ h9 => h9) rfl d_Ha_compress_344 ?_
                    refine lv_iconst (v := (nI 1)) X.1 X.2.1 d_Ha_compress_347 (by decide) ?_
                    refine lv_dup2_11 X.1 X.2.1 d_Ha_compress_348 rfl rfl ?_
                    refine q_iald X.1 X.2.1 X.2.2.2.2 Y 1 m_sta e840 rfl (vp_in_nI (by omega) (by omega)) d_Ha_compress_349 ?_
                    refine t_any (fun v848 => ?_)
                    refine lv_iload_n X.1 X.2.1 d_Ha_compress_350 rfl (lv_at hl 4 rfl) ?_
                    refine lv_iadd X.1 X.2.1 d_Ha_compress_351 ?_
                    refine t_any (fun v849 => ?_)
                    refine q_iast X.1 X.2.1 X.2.2.2.2 Y 1 m_sta e840 rfl (vp_in_nI (by omega) (by omega)) d_Ha_compress_352 (fun H locs Y => ?_)
                    generalize (upd g837 ((nI 1)).toNatClampNeg v849) = g850 at Y
                    have e853 : (va_up f839 sta (.inl (E.2.1, 5, .inl g850))) sta = .inl (E.2.1, 5, .inl g850) := q_up
                    have e854 : (va_up f839 sta (.inl (E.2.1, 5, .inl g850))) o = .inr (6, [.ref wd, .ref bl, .ref sta, .ref inn, .ref out, .int (nI fl), .int tot, .ref mac]) := (q_ne (q_tag e841 e840 (show (6 : Nat) ≠ 1000 by decide))).trans e841
                    have e855 : (va_up f839 sta (.inl (E.2.1, 5, .inl g850))) wd = .inl (E.2.1, 80, .inl g693) := (q_ne ap_wd_sta).trans e842
                    have e856 : (va_up f839 sta (.inl (E.2.1, 5, .inl g850))) bl = .inl (E.1, 64, .inl g_bl) := (q_ne ap_bl_sta).trans e843
                    have e857 : (va_up f839 sta (.inl (E.2.1, 5, .inl g850))) inn = .inl (E.2.1, 5, .inl g_inn) := (q_ne ap_sta_inn.symm).trans e844
                    have e858 : (va_up f839 sta (.inl (E.2.1, 5, .inl g850))) out = .inl (E.2.1, 5, .inl g_out) := (q_ne ap_sta_out.symm).trans e845
                    have e859 : (va_up f839 sta (.inl (E.2.1, 5, .inl g850))) mac = .inl (E.1, 20, .inl g_mac) := (q_ne ap_sta_mac.symm).trans e846
                    have hF860 : ∀ x, x ≠ wd → x ≠ sta → (va_up f839 sta (.inl (E.2.1, 5, .inl g850))) x = f x := fun x h0 h1 => (q_ne h1).trans (hF847 x h0 h1)
                    have Y : pH D cCl (pA L sz) s.heap L (va_up f839 sta (.inl (E.2.1, 5, .inl g850))) H locs := Y
                    generalize (va_up f839 sta (.inl (E.2.1, 5, .inl g850))) = f852 at Y e853 e854 e855 e856 e857 e858 e859 hF860
                    refine lv_aload_n X.1 X.2.1 d_Ha_compress_353 rfl (lv_at hl 6 rfl) ?_
                    refine q_get X.1 X.2.1 X.2.2.1 i_Ha X.2.2.2.1 X.2.2.2.2 Y m_o e854 rfl 2 (by decide) (X.2.2.1 _ lk_Ha_17) (fun _ h9 => h9) rfl d_Ha_compress_354 ?_
                    refine lv_iconst (v := (nI 2)) X.1 X.2.1 d_Ha_compress_357 (by decide) ?_
                    refine lv_dup2_11 X.1 X.2.1 d_Ha_compress_358 rfl rfl ?_
                    refine q_iald X.1 X.2.1 X.2.2.2.2 Y 1 m_sta e853 rfl (vp_in_nI (by omega) (by omega)) d_Ha_compress_359 ?_
                    refine t_any (fun v861 => ?_)
                    refine lv_iload_n X.1 X.2.1 d_Ha_compress_360 rfl (lv_at hl 3 rfl) ?_
                    refine lv_iadd X.1 X.2.1 d_Ha_compress_361 ?_
                    refine t_any (fun v862 => ?_)
                    refine q_iast X.1 X.2.1 X.2.2.2.2 Y 1 m_sta e853 rfl (vp_in_nI (by omega) (by omega)) d_Ha_compress_362 (fun H locs Y => ?_)
                    generalize (upd g850 ((nI 2)).toNatClampNeg v862) = g863 at Y
                    have e866 : (va_up f852 sta (.inl (E.2.1, 5, .inl g863))) sta = .inl (E.2.1, 5, .inl g863) := q_up
                    have e867 : (va_up f852 sta (.inl (E.2.1, 5, .inl g863))) o = .inr (6, [.ref wd, .ref bl, .ref sta, .ref inn, .ref out, .int (nI fl), .int tot, .ref mac]) := (q_ne (q_tag e854 e853 (show (6 : Nat) ≠ 1000 by decide))).trans e854
                    have e868 : (va_up f852 sta (.inl (E.2.1, 5, .inl g863))) wd = .inl (E.2.1, 80, .inl g693) := (q_ne ap_wd_sta).trans e855
                    have e869 : (va_up f852 sta (.inl (E.2.1, 5, .inl g863))) bl = .inl (E.1, 64, .inl g_bl) := (q_ne ap_bl_sta).trans e856
                    have e870 : (va_up f852 sta (.inl (E.2.1, 5, .inl g863))) inn = .inl (E.2.1, 5, .inl g_inn) := (q_ne ap_sta_inn.symm).trans e857
                    have e871 : (va_up f852 sta (.inl (E.2.1, 5, .inl g863))) out = .inl (E.2.1, 5, .inl g_out) := (q_ne ap_sta_out.symm).trans e858
                    have e872 : (va_up f852 sta (.inl (E.2.1, 5, .inl g863))) mac = .inl (E.1, 20, .inl g_mac) := (q_ne ap_sta_mac.symm).trans e859
                    have hF873 : ∀ x, x ≠ wd → x ≠ sta → (va_up f852 sta (.inl (E.2.1, 5, .inl g863))) x = f x := fun x h0 h1 => (q_ne h1).trans (hF860 x h0 h1)
                    have Y : pH D cCl (pA L sz) s.heap L (va_up f852 sta (.inl (E.2.1, 5, .inl g863))) H locs := Y
                    generalize (va_up f852 sta (.inl (E.2.1, 5, .inl g863))) = f865 at Y e866 e867 e868 e869 e870 e871 e872 hF873
                    refine lv_aload_n X.1 X.2.1 d_Ha_compress_363 rfl (lv_at hl 6 rfl) ?_
                    refine q_get X.1 X.2.1 X.2.2.1 i_Ha X.2.2.2.1 X.2.2.2.2 Y m_o e867 rfl 2 (by decide) (X.2.2.1 _ lk_Ha_17) (fun _ h9 => h9) rfl d_Ha_compress_364 ?_
                    refine lv_iconst (v := (nI 3)) X.1 X.2.1 d_Ha_compress_367 (by decide) ?_
                    refine lv_dup2_11 X.1 X.2.1 d_Ha_compress_368 rfl rfl ?_
                    refine q_iald X.1 X.2.1 X.2.2.2.2 Y 1 m_sta e866 rfl (vp_in_nI (by omega) (by omega)) d_Ha_compress_369 ?_
                    refine t_any (fun v874 => ?_)
                    refine lv_iload X.1 X.2.1 d_Ha_compress_370 (lv_at hl 2 rfl) ?_
                    refine lv_iadd X.1 X.2.1 d_Ha_compress_372 ?_
                    refine t_any (fun v875 => ?_)
                    refine q_iast X.1 X.2.1 X.2.2.2.2 Y 1 m_sta e866 rfl (vp_in_nI (by omega) (by omega)) d_Ha_compress_373 (fun H locs Y => ?_)
                    generalize (upd g863 ((nI 3)).toNatClampNeg v875) = g876 at Y
                    have e879 : (va_up f865 sta (.inl (E.2.1, 5, .inl g876))) sta = .inl (E.2.1, 5, .inl g876) := q_up
                    have e880 : (va_up f865 sta (.inl (E.2.1, 5, .inl g876))) o = .inr (6, [.ref wd, .ref bl, .ref sta, .ref inn, .ref out, .int (nI fl), .int tot, .ref mac]) := (q_ne (q_tag e867 e866 (show (6 : Nat) ≠ 1000 by decide))).trans e867
                    have e881 : (va_up f865 sta (.inl (E.2.1, 5, .inl g876))) wd = .inl (E.2.1, 80, .inl g693) := (q_ne ap_wd_sta).trans e868
                    have e882 : (va_up f865 sta (.inl (E.2.1, 5, .inl g876))) bl = .inl (E.1, 64, .inl g_bl) := (q_ne ap_bl_sta).trans e869
                    have e883 : (va_up f865 sta (.inl (E.2.1, 5, .inl g876))) inn = .inl (E.2.1, 5, .inl g_inn) := (q_ne ap_sta_inn.symm).trans e870
                    have e884 : (va_up f865 sta (.inl (E.2.1, 5, .inl g876))) out = .inl (E.2.1, 5, .inl g_out) := (q_ne ap_sta_out.symm).trans e871
                    have e885 : (va_up f865 sta (.inl (E.2.1, 5, .inl g876))) mac = .inl (E.1, 20, .inl g_mac) := (q_ne ap_sta_mac.symm).trans e872
                    have hF886 : ∀ x, x ≠ wd → x ≠ sta → (va_up f865 sta (.inl (E.2.1, 5, .inl g876))) x = f x := fun x h0 h1 => (q_ne h1).trans (hF873 x h0 h1)
                    have Y : pH D cCl (pA L sz) s.heap L (va_up f865 sta (.inl (E.2.1, 5, .inl g876))) H locs := Y
                    generalize (va_up f865 sta (.inl (E.2.1, 5, .inl g876))) = f878 at Y e879 e880 e881 e882 e883 e884 e885 hF886
                    refine lv_aload_n X.1 X.2.1 d_Ha_compress_374 rfl (lv_at hl 6 rfl) ?_
                    refine q_get X.1 X.2.1 X.2.2.1 i_Ha X.2.2.2.1 X.2.2.2.2 Y m_o e880 rfl 2 (by decide) (X.2.2.1 _ lk_Ha_17) (fun _ h9 => h9) rfl d_Ha_compress_375 ?_
                    refine lv_iconst (v := (nI 4)) X.1 X.2.1 d_Ha_compress_378 (by decide) ?_
                    refine lv_dup2_11 X.1 X.2.1 d_Ha_compress_379 rfl rfl ?_
                    refine q_iald X.1 X.2.1 X.2.2.2.2 Y 1 m_sta e879 rfl (vp_in_nI (by omega) (by omega)) d_Ha_compress_380 ?_
                    refine t_any (fun v887 => ?_)
                    refine lv_iload X.1 X.2.1 d_Ha_compress_381 (lv_at hl 1 rfl) ?_
                    refine lv_iadd X.1 X.2.1 d_Ha_compress_383 ?_
                    refine t_any (fun v888 => ?_)
                    refine q_iast X.1 X.2.1 X.2.2.2.2 Y 1 m_sta e879 rfl (vp_in_nI (by omega) (by omega)) d_Ha_compress_384 (fun H locs Y => ?_)
                    generalize (upd g876 ((nI 4)).toNatClampNeg v888) = g889 at Y
                    have e892 : (va_up f878 sta (.inl (E.2.1, 5, .inl g889))) sta = .inl (E.2.1, 5, .inl g889) := q_up
                    have e893 : (va_up f878 sta (.inl (E.2.1, 5, .inl g889))) o = .inr (6, [.ref wd, .ref bl, .ref sta, .ref inn, .ref out, .int (nI fl), .int tot, .ref mac]) := (q_ne (q_tag e880 e879 (show (6 : Nat) ≠ 1000 by decide))).trans e880
                    have e894 : (va_up f878 sta (.inl (E.2.1, 5, .inl g889))) wd = .inl (E.2.1, 80, .inl g693) := (q_ne ap_wd_sta).trans e881
                    have e895 : (va_up f878 sta (.inl (E.2.1, 5, .inl g889))) bl = .inl (E.1, 64, .inl g_bl) := (q_ne ap_bl_sta).trans e882
                    have e896 : (va_up f878 sta (.inl (E.2.1, 5, .inl g889))) inn = .inl (E.2.1, 5, .inl g_inn) := (q_ne ap_sta_inn.symm).trans e883
                    have e897 : (va_up f878 sta (.inl (E.2.1, 5, .inl g889))) out = .inl (E.2.1, 5, .inl g_out) := (q_ne ap_sta_out.symm).trans e884
                    have e898 : (va_up f878 sta (.inl (E.2.1, 5, .inl g889))) mac = .inl (E.1, 20, .inl g_mac) := (q_ne ap_sta_mac.symm).trans e885
                    have hF899 : ∀ x, x ≠ wd → x ≠ sta → (va_up f878 sta (.inl (E.2.1, 5, .inl g889))) x = f x := fun x h0 h1 => (q_ne h1).trans (hF886 x h0 h1)
                    have Y : pH D cCl (pA L sz) s.heap L (va_up f878 sta (.inl (E.2.1, 5, .inl g889))) H locs := Y
                    generalize (va_up f878 sta (.inl (E.2.1, 5, .inl g889))) = f891 at Y e892 e893 e894 e895 e896 e897 e898 hF899
                    exact c_retv hQQ X Y hr hlk ⟨rfl, hF899, g693, g889, e894, e892⟩ d_Ha_compress_385
                  · skip
                    rw [nI_leI (by omega) (by omega)] at c834
                    refine lv_iload X.1 X.2.1 d_Ha_compress_197 (lv_at hl 0 rfl) ?_
                    refine lv_bipush (v := (nI 20)) X.1 X.2.1 d_Ha_compress_199 (by decide) ?_
                    refine lv_icmp_ge (tgt := 222) X.1 X.2.1 d_Ha_compress_201 (by decide) (fun c900 => ?_) (fun c900 => ?_)
                    · skip
                      rw [nI_leI (by omega) (by omega)] at c900
                      refine lv_iload X.1 X.2.1 d_Ha_compress_222 (lv_at hl 0 rfl) ?_
                      refine lv_bipush (v := (nI 40)) X.1 X.2.1 d_Ha_compress_224 (by decide) ?_
                      refine lv_icmp_ge (tgt := 243) X.1 X.2.1 d_Ha_compress_226 (by decide) (fun c901 => ?_) (fun c901 => ?_)
                      · skip
                        rw [nI_leI (by omega) (by omega)] at c901
                        refine lv_iload X.1 X.2.1 d_Ha_compress_243 (lv_at hl 0 rfl) ?_
                        refine lv_bipush (v := (nI 60)) X.1 X.2.1 d_Ha_compress_245 (by decide) ?_
                        refine lv_icmp_ge (tgt := 271) X.1 X.2.1 d_Ha_compress_247 (by decide) (fun c902 => ?_) (fun c902 => ?_)
                        · skip
                          rw [nI_leI (by omega) (by omega)] at c902
                          refine lv_iload_n X.1 X.2.1 d_Ha_compress_271 rfl (lv_at hl 4 rfl) ?_
                          refine lv_iload_n X.1 X.2.1 d_Ha_compress_272 rfl (lv_at hl 3 rfl) ?_
                          refine lv_ixor X.1 X.2.1 d_Ha_compress_273 ?_
                          refine t_any (fun v903 => ?_)
                          refine lv_iload X.1 X.2.1 d_Ha_compress_274 (lv_at hl 2 rfl) ?_
                          refine lv_ixor X.1 X.2.1 d_Ha_compress_276 ?_
                          refine t_any (fun v904 => ?_)
                          refine lv_ldc (v := (-899497514)) X.1 X.2.1 X.2.2.2.1 (X.2.2.1 _ cn_Ha_60) d_Ha_compress_277 ?_
                          refine lv_iadd X.1 X.2.1 d_Ha_compress_279 ?_
                          refine t_any (fun v905 => ?_)
                          refine lv_istore (lv' := [(7, .int v905), (6, .int (nI i)), (5, .int x704), (4, .int x703), (3, .int x702), (2, .int x701), (1, .int x700), (0, .ref o)]) X.1 X.2.1 d_Ha_compress_280 hl (by decide) rfl (fun ls hl => ?_)
                          refine lv_iload_n X.1 X.2.1 d_Ha_compress_282 rfl (lv_at hl 6 rfl) ?_
                          refine lv_iconst (v := (nI 5)) X.1 X.2.1 d_Ha_compress_283 (by decide) ?_
                          refine lv_ishl X.1 X.2.1 d_Ha_compress_284 ?_
                          refine t_any (fun v906 => ?_)
                          refine lv_iload_n X.1 X.2.1 d_Ha_compress_285 rfl (lv_at hl 6 rfl) ?_
                          refine lv_bipush (v := (nI 27)) X.1 X.2.1 d_Ha_compress_286 (by decide) ?_
                          obtain ⟨v907, ev907⟩ : ∃ z : Int32, ((x700 : Int32).toUInt32 >>> (((nI 27) : Int32).toUInt32 &&& Int32.toUInt32 31)).toInt32 = z := ⟨_, rfl⟩
                          refine lv_iushr (v := v907) X.1 X.2.1 d_Ha_compress_288 ev907 ?_
                          refine lv_ior X.1 X.2.1 d_Ha_compress_289 ?_
                          refine t_any (fun v908 => ?_)
                          refine lv_iload X.1 X.2.1 d_Ha_compress_290 (lv_at hl 0 rfl) ?_
                          refine lv_iadd X.1 X.2.1 d_Ha_compress_292 ?_
                          refine t_any (fun v909 => ?_)
                          refine lv_iload X.1 X.2.1 d_Ha_compress_293 (lv_at hl 2 rfl) ?_
                          refine lv_iadd X.1 X.2.1 d_Ha_compress_295 ?_
                          refine t_any (fun v910 => ?_)
                          refine lv_aload_n X.1 X.2.1 d_Ha_compress_296 rfl (lv_at hl 7 rfl) ?_
                          refine q_get X.1 X.2.1 X.2.2.1 i_Ha X.2.2.2.1 X.2.2.2.2 Y m_o e691 rfl 0 (by decide) (X.2.2.1 _ lk_Ha_7) (fun _ h9 => h9) rfl d_Ha_compress_297 ?_
                          refine lv_iload X.1 X.2.1 d_Ha_compress_300 (lv_at hl 1 rfl) ?_
                          refine q_iald X.1 X.2.1 X.2.2.2.2 Y 1 m_wd e692 rfl (vp_in_nI (by omega) (by omega)) d_Ha_compress_302 ?_
                          refine t_any (fun v911 => ?_)
                          refine lv_iadd X.1 X.2.1 d_Ha_compress_303 ?_
                          refine t_any (fun v912 => ?_)
                          refine lv_istore (lv' := [(8, .int v912), (7, .int v905), (6, .int (nI i)), (5, .int x704), (4, .int x703), (3, .int x702), (2, .int x701), (1, .int x700), (0, .ref o)]) X.1 X.2.1 d_Ha_compress_304 hl (by decide) rfl (fun ls hl => ?_)
                          refine lv_iload X.1 X.2.1 d_Ha_compress_306 (lv_at hl 4 rfl) ?_
                          refine lv_istore (lv' := [(5, .int x703), (8, .int v912), (7, .int v905), (6, .int (nI i)), (4, .int x703), (3, .int x702), (2, .int x701), (1, .int x700), (0, .ref o)]) X.1 X.2.1 d_Ha_compress_308 hl (by decide) rfl (fun ls hl => ?_)
                          refine lv_iload_n X.1 X.2.1 d_Ha_compress_310 rfl (lv_at hl 5 rfl) ?_
                          refine lv_istore (lv' := [(4, .int x702), (5, .int x703), (8, .int v912), (7, .int v905), (6, .int (nI i)), (3, .int x702), (2, .int x701), (1, .int x700), (0, .ref o)]) X.1 X.2.1 d_Ha_compress_311 hl (by decide) rfl (fun ls hl => ?_)
                          refine lv_iload_n X.1 X.2.1 d_Ha_compress_313 rfl (lv_at hl 6 rfl) ?_
                          refine lv_bipush (v := (nI 30)) X.1 X.2.1 d_Ha_compress_314 (by decide) ?_
                          refine lv_ishl X.1 X.2.1 d_Ha_compress_316 ?_
                          refine t_any (fun v913 => ?_)
                          refine lv_iload_n X.1 X.2.1 d_Ha_compress_317 rfl (lv_at hl 6 rfl) ?_
                          refine lv_iconst (v := (nI 2)) X.1 X.2.1 d_Ha_compress_318 (by decide) ?_
                          obtain ⟨v914, ev914⟩ : ∃ z : Int32, ((x701 : Int32).toUInt32 >>> (((nI 2) : Int32).toUInt32 &&& Int32.toUInt32 31)).toInt32 = z := ⟨_, rfl⟩
                          refine lv_iushr (v := v914) X.1 X.2.1 d_Ha_compress_319 ev914 ?_
                          refine lv_ior X.1 X.2.1 d_Ha_compress_320 ?_
                          refine t_any (fun v915 => ?_)
                          refine lv_istore_n (lv' := [(3, .int v915), (4, .int x702), (5, .int x703), (8, .int v912), (7, .int v905), (6, .int (nI i)), (2, .int x701), (1, .int x700), (0, .ref o)]) X.1 X.2.1 d_Ha_compress_321 rfl hl (by decide) rfl (fun ls hl => ?_)
                          refine lv_iload_n X.1 X.2.1 d_Ha_compress_322 rfl (lv_at hl 7 rfl) ?_
                          refine lv_istore_n (lv' := [(2, .int x700), (3, .int v915), (4, .int x702), (5, .int x703), (8, .int v912), (7, .int v905), (6, .int (nI i)), (1, .int x700), (0, .ref o)]) X.1 X.2.1 d_Ha_compress_323 rfl hl (by decide) rfl (fun ls hl => ?_)
                          refine lv_iload X.1 X.2.1 d_Ha_compress_324 (lv_at hl 4 rfl) ?_
                          refine lv_istore_n (lv' := [(1, .int v912), (2, .int x700), (3, .int v915), (4, .int x702), (5, .int x703), (8, .int v912), (7, .int v905), (6, .int (nI i)), (0, .ref o)]) X.1 X.2.1 d_Ha_compress_326 rfl hl (by decide) rfl (fun ls hl => ?_)
                          refine lv_iinc (v := (nI (i + 1))) (lv' := [(6, .int (nI (i + 1))), (1, .int v912), (2, .int x700), (3, .int v915), (4, .int x702), (5, .int x703), (8, .int v912), (7, .int v905), (0, .ref o)]) X.1 X.2.1 d_Ha_compress_327 hl (k := 7) rfl (nI_add _ 1) (by decide) rfl (fun ls hl => ?_)
                          refine lv_goto (tgt := 190) X.1 X.2.1 d_Ha_compress_330 (by decide) ?_
                          exact ih688  (i + 1)  (v912) (x700) (v915) (x702) (x703) g693 g696 f689 _ _ _ (by omega) (by omega) (by omega)  e691 e692 e694 e695 e697 e698 e699 hF690 Y (lv_sub hl [0, 5, 4, 3, 2, 1, 8] rfl)
                        · skip
                          rw [nI_leI (by omega) (by omega)] at c902
                          refine lv_iload_n X.1 X.2.1 d_Ha_compress_250 rfl (lv_at hl 4 rfl) ?_
                          refine lv_iload_n X.1 X.2.1 d_Ha_compress_251 rfl (lv_at hl 3 rfl) ?_
                          refine lv_iand X.1 X.2.1 d_Ha_compress_252 ?_
                          refine t_any (fun v916 => ?_)
                          refine lv_iload_n X.1 X.2.1 d_Ha_compress_253 rfl (lv_at hl 4 rfl) ?_
                          refine lv_iload X.1 X.2.1 d_Ha_compress_254 (lv_at hl 2 rfl) ?_
                          refine lv_iand X.1 X.2.1 d_Ha_compress_256 ?_
                          refine t_any (fun v917 => ?_)
                          refine lv_ior X.1 X.2.1 d_Ha_compress_257 ?_
                          refine t_any (fun v918 => ?_)
                          refine lv_iload_n X.1 X.2.1 d_Ha_compress_258 rfl (lv_at hl 3 rfl) ?_
                          refine lv_iload X.1 X.2.1 d_Ha_compress_259 (lv_at hl 2 rfl) ?_
                          refine lv_iand X.1 X.2.1 d_Ha_compress_261 ?_
                          refine t_any (fun v919 => ?_)
                          refine lv_ior X.1 X.2.1 d_Ha_compress_262 ?_
                          refine t_any (fun v920 => ?_)
                          refine lv_ldc (v := (-1894007588)) X.1 X.2.1 X.2.2.2.1 (X.2.2.1 _ cn_Ha_59) d_Ha_compress_263 ?_
                          refine lv_iadd X.1 X.2.1 d_Ha_compress_265 ?_
                          refine t_any (fun v921 => ?_)
                          refine lv_istore (lv' := [(7, .int v921), (6, .int (nI i)), (5, .int x704), (4, .int x703), (3, .int x702), (2, .int x701), (1, .int x700), (0, .ref o)]) X.1 X.2.1 d_Ha_compress_266 hl (by decide) rfl (fun ls hl => ?_)
                          refine lv_goto (tgt := 282) X.1 X.2.1 d_Ha_compress_268 (by decide) ?_
                          refine lv_iload_n X.1 X.2.1 d_Ha_compress_282 rfl (lv_at hl 6 rfl) ?_
                          refine lv_iconst (v := (nI 5)) X.1 X.2.1 d_Ha_compress_283 (by decide) ?_
                          refine lv_ishl X.1 X.2.1 d_Ha_compress_284 ?_
                          refine t_any (fun v922 => ?_)
                          refine lv_iload_n X.1 X.2.1 d_Ha_compress_285 rfl (lv_at hl 6 rfl) ?_
                          refine lv_bipush (v := (nI 27)) X.1 X.2.1 d_Ha_compress_286 (by decide) ?_
                          obtain ⟨v923, ev923⟩ : ∃ z : Int32, ((x700 : Int32).toUInt32 >>> (((nI 27) : Int32).toUInt32 &&& Int32.toUInt32 31)).toInt32 = z := ⟨_, rfl⟩
                          refine lv_iushr (v := v923) X.1 X.2.1 d_Ha_compress_288 ev923 ?_
                          refine lv_ior X.1 X.2.1 d_Ha_compress_289 ?_
                          refine t_any (fun v924 => ?_)
                          refine lv_iload X.1 X.2.1 d_Ha_compress_290 (lv_at hl 0 rfl) ?_
                          refine lv_iadd X.1 X.2.1 d_Ha_compress_292 ?_
                          refine t_any (fun v925 => ?_)
                          refine lv_iload X.1 X.2.1 d_Ha_compress_293 (lv_at hl 2 rfl) ?_
                          refine lv_iadd X.1 X.2.1 d_Ha_compress_295 ?_
                          refine t_any (fun v926 => ?_)
                          refine lv_aload_n X.1 X.2.1 d_Ha_compress_296 rfl (lv_at hl 7 rfl) ?_
                          refine q_get X.1 X.2.1 X.2.2.1 i_Ha X.2.2.2.1 X.2.2.2.2 Y m_o e691 rfl 0 (by decide) (X.2.2.1 _ lk_Ha_7) (fun _ h9 => h9) rfl d_Ha_compress_297 ?_
                          refine lv_iload X.1 X.2.1 d_Ha_compress_300 (lv_at hl 1 rfl) ?_
                          refine q_iald X.1 X.2.1 X.2.2.2.2 Y 1 m_wd e692 rfl (vp_in_nI (by omega) (by omega)) d_Ha_compress_302 ?_
                          refine t_any (fun v927 => ?_)
                          refine lv_iadd X.1 X.2.1 d_Ha_compress_303 ?_
                          refine t_any (fun v928 => ?_)
                          refine lv_istore (lv' := [(8, .int v928), (7, .int v921), (6, .int (nI i)), (5, .int x704), (4, .int x703), (3, .int x702), (2, .int x701), (1, .int x700), (0, .ref o)]) X.1 X.2.1 d_Ha_compress_304 hl (by decide) rfl (fun ls hl => ?_)
                          refine lv_iload X.1 X.2.1 d_Ha_compress_306 (lv_at hl 4 rfl) ?_
                          refine lv_istore (lv' := [(5, .int x703), (8, .int v928), (7, .int v921), (6, .int (nI i)), (4, .int x703), (3, .int x702), (2, .int x701), (1, .int x700), (0, .ref o)]) X.1 X.2.1 d_Ha_compress_308 hl (by decide) rfl (fun ls hl => ?_)
                          refine lv_iload_n X.1 X.2.1 d_Ha_compress_310 rfl (lv_at hl 5 rfl) ?_
                          refine lv_istore (lv' := [(4, .int x702), (5, .int x703), (8, .int v928), (7, .int v921), (6, .int (nI i)), (3, .int x702), (2, .int x701), (1, .int x700), (0, .ref o)]) X.1 X.2.1 d_Ha_compress_311 hl (by decide) rfl (fun ls hl => ?_)
                          refine lv_iload_n X.1 X.2.1 d_Ha_compress_313 rfl (lv_at hl 6 rfl) ?_
                          refine lv_bipush (v := (nI 30)) X.1 X.2.1 d_Ha_compress_314 (by decide) ?_
                          refine lv_ishl X.1 X.2.1 d_Ha_compress_316 ?_
                          refine t_any (fun v929 => ?_)
                          refine lv_iload_n X.1 X.2.1 d_Ha_compress_317 rfl (lv_at hl 6 rfl) ?_
                          refine lv_iconst (v := (nI 2)) X.1 X.2.1 d_Ha_compress_318 (by decide) ?_
                          obtain ⟨v930, ev930⟩ : ∃ z : Int32, ((x701 : Int32).toUInt32 >>> (((nI 2) : Int32).toUInt32 &&& Int32.toUInt32 31)).toInt32 = z := ⟨_, rfl⟩
                          refine lv_iushr (v := v930) X.1 X.2.1 d_Ha_compress_319 ev930 ?_
                          refine lv_ior X.1 X.2.1 d_Ha_compress_320 ?_
                          refine t_any (fun v931 => ?_)
                          refine lv_istore_n (lv' := [(3, .int v931), (4, .int x702), (5, .int x703), (8, .int v928), (7, .int v921), (6, .int (nI i)), (2, .int x701), (1, .int x700), (0, .ref o)]) X.1 X.2.1 d_Ha_compress_321 rfl hl (by decide) rfl (fun ls hl => ?_)
                          refine lv_iload_n X.1 X.2.1 d_Ha_compress_322 rfl (lv_at hl 7 rfl) ?_
                          refine lv_istore_n (lv' := [(2, .int x700), (3, .int v931), (4, .int x702), (5, .int x703), (8, .int v928), (7, .int v921), (6, .int (nI i)), (1, .int x700), (0, .ref o)]) X.1 X.2.1 d_Ha_compress_323 rfl hl (by decide) rfl (fun ls hl => ?_)
                          refine lv_iload X.1 X.2.1 d_Ha_compress_324 (lv_at hl 4 rfl) ?_
                          refine lv_istore_n (lv' := [(1, .int v928), (2, .int x700), (3, .int v931), (4, .int x702), (5, .int x703), (8, .int v928), (7, .int v921), (6, .int (nI i)), (0, .ref o)]) X.1 X.2.1 d_Ha_compress_326 rfl hl (by decide) rfl (fun ls hl => ?_)
                          refine lv_iinc (v := (nI (i + 1))) (lv' := [(6, .int (nI (i + 1))), (1, .int v928), (2, .int x700), (3, .int v931), (4, .int x702), (5, .int x703), (8, .int v928), (7, .int v921), (0, .ref o)]) X.1 X.2.1 d_Ha_compress_327 hl (k := 7) rfl (nI_add _ 1) (by decide) rfl (fun ls hl => ?_)
                          refine lv_goto (tgt := 190) X.1 X.2.1 d_Ha_compress_330 (by decide) ?_
                          exact ih688  (i + 1)  (v928) (x700) (v931) (x702) (x703) g693 g696 f689 _ _ _ (by omega) (by omega) (by omega)  e691 e692 e694 e695 e697 e698 e699 hF690 Y (lv_sub hl [0, 5, 4, 3, 2, 1, 8] rfl)
                      · skip
                        rw [nI_leI (by omega) (by omega)] at c901
                        refine lv_iload_n X.1 X.2.1 d_Ha_compress_229 rfl (lv_at hl 4 rfl) ?_
                        refine lv_iload_n X.1 X.2.1 d_Ha_compress_230 rfl (lv_at hl 3 rfl) ?_
                        refine lv_ixor X.1 X.2.1 d_Ha_compress_231 ?_
                        refine t_any (fun v932 => ?_)
                        refine lv_iload X.1 X.2.1 d_Ha_compress_232 (lv_at hl 2 rfl) ?_
                        refine lv_ixor X.1 X.2.1 d_Ha_compress_234 ?_
                        refine t_any (fun v933 => ?_)
                        refine lv_ldc (v := (1859775393)) X.1 X.2.1 X.2.2.2.1 (X.2.2.1 _ cn_Ha_58) d_Ha_compress_235 ?_
                        refine t_eq (y := nI 1859775393) (by decide) ?_
                        refine lv_iadd X.1 X.2.1 d_Ha_compress_237 ?_
                        refine t_any (fun v934 => ?_)
                        refine lv_istore (lv' := [(7, .int v934), (6, .int (nI i)), (5, .int x704), (4, .int x703), (3, .int x702), (2, .int x701), (1, .int x700), (0, .ref o)]) X.1 X.2.1 d_Ha_compress_238 hl (by decide) rfl (fun ls hl => ?_)
                        refine lv_goto (tgt := 282) X.1 X.2.1 d_Ha_compress_240 (by decide) ?_
                        refine lv_iload_n X.1 X.2.1 d_Ha_compress_282 rfl (lv_at hl 6 rfl) ?_
                        refine lv_iconst (v := (nI 5)) X.1 X.2.1 d_Ha_compress_283 (by decide) ?_
                        refine lv_ishl X.1 X.2.1 d_Ha_compress_284 ?_
                        refine t_any (fun v935 => ?_)
                        refine lv_iload_n X.1 X.2.1 d_Ha_compress_285 rfl (lv_at hl 6 rfl) ?_
                        refine lv_bipush (v := (nI 27)) X.1 X.2.1 d_Ha_compress_286 (by decide) ?_
                        obtain ⟨v936, ev936⟩ : ∃ z : Int32, ((x700 : Int32).toUInt32 >>> (((nI 27) : Int32).toUInt32 &&& Int32.toUInt32 31)).toInt32 = z := ⟨_, rfl⟩
                        refine lv_iushr (v := v936) X.1 X.2.1 d_Ha_compress_288 ev936 ?_
                        refine lv_ior X.1 X.2.1 d_Ha_compress_289 ?_
                        refine t_any (fun v937 => ?_)
                        refine lv_iload X.1 X.2.1 d_Ha_compress_290 (lv_at hl 0 rfl) ?_
                        refine lv_iadd X.1 X.2.1 d_Ha_compress_292 ?_
                        refine t_any (fun v938 => ?_)
                        refine lv_iload X.1 X.2.1 d_Ha_compress_293 (lv_at hl 2 rfl) ?_
                        refine lv_iadd X.1 X.2.1 d_Ha_compress_295 ?_
                        refine t_any (fun v939 => ?_)
                        refine lv_aload_n X.1 X.2.1 d_Ha_compress_296 rfl (lv_at hl 7 rfl) ?_
                        refine q_get X.1 X.2.1 X.2.2.1 i_Ha X.2.2.2.1 X.2.2.2.2 Y m_o e691 rfl 0 (by decide) (X.2.2.1 _ lk_Ha_7) (fun _ h9 => h9) rfl d_Ha_compress_297 ?_
                        refine lv_iload X.1 X.2.1 d_Ha_compress_300 (lv_at hl 1 rfl) ?_
                        refine q_iald X.1 X.2.1 X.2.2.2.2 Y 1 m_wd e692 rfl (vp_in_nI (by omega) (by omega)) d_Ha_compress_302 ?_
                        refine t_any (fun v940 => ?_)
                        refine lv_iadd X.1 X.2.1 d_Ha_compress_303 ?_
                        refine t_any (fun v941 => ?_)
                        refine lv_istore (lv' := [(8, .int v941), (7, .int v934), (6, .int (nI i)), (5, .int x704), (4, .int x703), (3, .int x702), (2, .int x701), (1, .int x700), (0, .ref o)]) X.1 X.2.1 d_Ha_compress_304 hl (by decide) rfl (fun ls hl => ?_)
                        refine lv_iload X.1 X.2.1 d_Ha_compress_306 (lv_at hl 4 rfl) ?_
                        refine lv_istore (lv' := [(5, .int x703), (8, .int v941), (7, .int v934), (6, .int (nI i)), (4, .int x703), (3, .int x702), (2, .int x701), (1, .int x700), (0, .ref o)]) X.1 X.2.1 d_Ha_compress_308 hl (by decide) rfl (fun ls hl => ?_)
                        refine lv_iload_n X.1 X.2.1 d_Ha_compress_310 rfl (lv_at hl 5 rfl) ?_
                        refine lv_istore (lv' := [(4, .int x702), (5, .int x703), (8, .int v941), (7, .int v934), (6, .int (nI i)), (3, .int x702), (2, .int x701), (1, .int x700), (0, .ref o)]) X.1 X.2.1 d_Ha_compress_311 hl (by decide) rfl (fun ls hl => ?_)
                        refine lv_iload_n X.1 X.2.1 d_Ha_compress_313 rfl (lv_at hl 6 rfl) ?_
                        refine lv_bipush (v := (nI 30)) X.1 X.2.1 d_Ha_compress_314 (by decide) ?_
                        refine lv_ishl X.1 X.2.1 d_Ha_compress_316 ?_
                        refine t_any (fun v942 => ?_)
                        refine lv_iload_n X.1 X.2.1 d_Ha_compress_317 rfl (lv_at hl 6 rfl) ?_
                        refine lv_iconst (v := (nI 2)) X.1 X.2.1 d_Ha_compress_318 (by decide) ?_
                        obtain ⟨v943, ev943⟩ : ∃ z : Int32, ((x701 : Int32).toUInt32 >>> (((nI 2) : Int32).toUInt32 &&& Int32.toUInt32 31)).toInt32 = z := ⟨_, rfl⟩
                        refine lv_iushr (v := v943) X.1 X.2.1 d_Ha_compress_319 ev943 ?_
                        refine lv_ior X.1 X.2.1 d_Ha_compress_320 ?_
                        refine t_any (fun v944 => ?_)
                        refine lv_istore_n (lv' := [(3, .int v944), (4, .int x702), (5, .int x703), (8, .int v941), (7, .int v934), (6, .int (nI i)), (2, .int x701), (1, .int x700), (0, .ref o)]) X.1 X.2.1 d_Ha_compress_321 rfl hl (by decide) rfl (fun ls hl => ?_)
                        refine lv_iload_n X.1 X.2.1 d_Ha_compress_322 rfl (lv_at hl 7 rfl) ?_
                        refine lv_istore_n (lv' := [(2, .int x700), (3, .int v944), (4, .int x702), (5, .int x703), (8, .int v941), (7, .int v934), (6, .int (nI i)), (1, .int x700), (0, .ref o)]) X.1 X.2.1 d_Ha_compress_323 rfl hl (by decide) rfl (fun ls hl => ?_)
                        refine lv_iload X.1 X.2.1 d_Ha_compress_324 (lv_at hl 4 rfl) ?_
                        refine lv_istore_n (lv' := [(1, .int v941), (2, .int x700), (3, .int v944), (4, .int x702), (5, .int x703), (8, .int v941), (7, .int v934), (6, .int (nI i)), (0, .ref o)]) X.1 X.2.1 d_Ha_compress_326 rfl hl (by decide) rfl (fun ls hl => ?_)
                        refine lv_iinc (v := (nI (i + 1))) (lv' := [(6, .int (nI (i + 1))), (1, .int v941), (2, .int x700), (3, .int v944), (4, .int x702), (5, .int x703), (8, .int v941), (7, .int v934), (0, .ref o)]) X.1 X.2.1 d_Ha_compress_327 hl (k := 7) rfl (nI_add _ 1) (by decide) rfl (fun ls hl => ?_)
                        refine lv_goto (tgt := 190) X.1 X.2.1 d_Ha_compress_330 (by decide) ?_
                        exact ih688  (i + 1)  (v941) (x700) (v944) (x702) (x703) g693 g696 f689 _ _ _ (by omega) (by omega) (by omega)  e691 e692 e694 e695 e697 e698 e699 hF690 Y (lv_sub hl [0, 5, 4, 3, 2, 1, 8] rfl)
                    · skip
                      rw [nI_leI (by omega) (by omega)] at c900
                      refine lv_iload_n X.1 X.2.1 d_Ha_compress_204 rfl (lv_at hl 4 rfl) ?_
                      refine lv_iload_n X.1 X.2.1 d_Ha_compress_205 rfl (lv_at hl 3 rfl) ?_
                      refine lv_iand X.1 X.2.1 d_Ha_compress_206 ?_
                      refine t_any (fun v945 => ?_)
                      refine lv_iload_n X.1 X.2.1 d_Ha_compress_207 rfl (lv_at hl 4 rfl) ?_
                      refine lv_iconst (v := (-1)) X.1 X.2.1 d_Ha_compress_208 (by decide) ?_
                      refine lv_ixor X.1 X.2.1 d_Ha_compress_209 ?_
                      refine t_any (fun v946 => ?_)
                      refine lv_iload X.1 X.2.1 d_Ha_compress_210 (lv_at hl 2 rfl) ?_
                      refine lv_iand X.1 X.2.1 d_Ha_compress_212 ?_
                      refine t_any (fun v947 => ?_)
                      refine lv_ior X.1 X.2.1 d_Ha_compress_213 ?_
                      refine t_any (fun v948 => ?_)
                      refine lv_ldc (v := (1518500249)) X.1 X.2.1 X.2.2.2.1 (X.2.2.1 _ cn_Ha_57) d_Ha_compress_214 ?_
                      refine t_eq (y := nI 1518500249) (by decide) ?_
                      refine lv_iadd X.1 X.2.1 d_Ha_compress_216 ?_
                      refine t_any (fun v949 => ?_)
                      refine lv_istore (lv' := [(7, .int v949), (6, .int (nI i)), (5, .int x704), (4, .int x703), (3, .int x702), (2, .int x701), (1, .int x700), (0, .ref o)]) X.1 X.2.1 d_Ha_compress_217 hl (by decide) rfl (fun ls hl => ?_)
                      refine lv_goto (tgt := 282) X.1 X.2.1 d_Ha_compress_219 (by decide) ?_
                      refine lv_iload_n X.1 X.2.1 d_Ha_compress_282 rfl (lv_at hl 6 rfl) ?_
                      refine lv_iconst (v := (nI 5)) X.1 X.2.1 d_Ha_compress_283 (by decide) ?_
                      refine lv_ishl X.1 X.2.1 d_Ha_compress_284 ?_
                      refine t_any (fun v950 => ?_)
                      refine lv_iload_n X.1 X.2.1 d_Ha_compress_285 rfl (lv_at hl 6 rfl) ?_
                      refine lv_bipush (v := (nI 27)) X.1 X.2.1 d_Ha_compress_286 (by decide) ?_
                      obtain ⟨v951, ev951⟩ : ∃ z : Int32, ((x700 : Int32).toUInt32 >>> (((nI 27) : Int32).toUInt32 &&& Int32.toUInt32 31)).toInt32 = z := ⟨_, rfl⟩
                      refine lv_iushr (v := v951) X.1 X.2.1 d_Ha_compress_288 ev951 ?_
                      refine lv_ior X.1 X.2.1 d_Ha_compress_289 ?_
                      refine t_any (fun v952 => ?_)
                      refine lv_iload X.1 X.2.1 d_Ha_compress_290 (lv_at hl 0 rfl) ?_
                      refine lv_iadd X.1 X.2.1 d_Ha_compress_292 ?_
                      refine t_any (fun v953 => ?_)
                      refine lv_iload X.1 X.2.1 d_Ha_compress_293 (lv_at hl 2 rfl) ?_
                      refine lv_iadd X.1 X.2.1 d_Ha_compress_295 ?_
                      refine t_any (fun v954 => ?_)
                      refine lv_aload_n X.1 X.2.1 d_Ha_compress_296 rfl (lv_at hl 7 rfl) ?_
                      refine q_get X.1 X.2.1 X.2.2.1 i_Ha X.2.2.2.1 X.2.2.2.2 Y m_o e691 rfl 0 (by decide) (X.2.2.1 _ lk_Ha_7) (fun _ h9 => h9) rfl d_Ha_compress_297 ?_
                      refine lv_iload X.1 X.2.1 d_Ha_compress_300 (lv_at hl 1 rfl) ?_
                      refine q_iald X.1 X.2.1 X.2.2.2.2 Y 1 m_wd e692 rfl (vp_in_nI (by omega) (by omega)) d_Ha_compress_302 ?_
                      refine t_any (fun v955 => ?_)
                      refine lv_iadd X.1 X.2.1 d_Ha_compress_303 ?_
                      refine t_any (fun v956 => ?_)
                      refine lv_istore (lv' := [(8, .int v956), (7, .int v949), (6, .int (nI i)), (5, .int x704), (4, .int x703), (3, .int x702), (2, .int x701), (1, .int x700), (0, .ref o)]) X.1 X.2.1 d_Ha_compress_304 hl (by decide) rfl (fun ls hl => ?_)
                      refine lv_iload X.1 X.2.1 d_Ha_compress_306 (lv_at hl 4 rfl) ?_
                      refine lv_istore (lv' := [(5, .int x703), (8, .int v956), (7, .int v949), (6, .int (nI i)), (4, .int x703), (3, .int x702), (2, .int x701), (1, .int x700), (0, .ref o)]) X.1 X.2.1 d_Ha_compress_308 hl (by decide) rfl (fun ls hl => ?_)
                      refine lv_iload_n X.1 X.2.1 d_Ha_compress_310 rfl (lv_at hl 5 rfl) ?_
                      refine lv_istore (lv' := [(4, .int x702), (5, .int x703), (8, .int v956), (7, .int v949), (6, .int (nI i)), (3, .int x702), (2, .int x701), (1, .int x700), (0, .ref o)]) X.1 X.2.1 d_Ha_compress_311 hl (by decide) rfl (fun ls hl => ?_)
                      refine lv_iload_n X.1 X.2.1 d_Ha_compress_313 rfl (lv_at hl 6 rfl) ?_
                      refine lv_bipush (v := (nI 30)) X.1 X.2.1 d_Ha_compress_314 (by decide) ?_
                      refine lv_ishl X.1 X.2.1 d_Ha_compress_316 ?_
                      refine t_any (fun v957 => ?_)
                      refine lv_iload_n X.1 X.2.1 d_Ha_compress_317 rfl (lv_at hl 6 rfl) ?_
                      refine lv_iconst (v := (nI 2)) X.1 X.2.1 d_Ha_compress_318 (by decide) ?_
                      obtain ⟨v958, ev958⟩ : ∃ z : Int32, ((x701 : Int32).toUInt32 >>> (((nI 2) : Int32).toUInt32 &&& Int32.toUInt32 31)).toInt32 = z := ⟨_, rfl⟩
                      refine lv_iushr (v := v958) X.1 X.2.1 d_Ha_compress_319 ev958 ?_
                      refine lv_ior X.1 X.2.1 d_Ha_compress_320 ?_
                      refine t_any (fun v959 => ?_)
                      refine lv_istore_n (lv' := [(3, .int v959), (4, .int x702), (5, .int x703), (8, .int v956), (7, .int v949), (6, .int (nI i)), (2, .int x701), (1, .int x700), (0, .ref o)]) X.1 X.2.1 d_Ha_compress_321 rfl hl (by decide) rfl (fun ls hl => ?_)
                      refine lv_iload_n X.1 X.2.1 d_Ha_compress_322 rfl (lv_at hl 7 rfl) ?_
                      refine lv_istore_n (lv' := [(2, .int x700), (3, .int v959), (4, .int x702), (5, .int x703), (8, .int v956), (7, .int v949), (6, .int (nI i)), (1, .int x700), (0, .ref o)]) X.1 X.2.1 d_Ha_compress_323 rfl hl (by decide) rfl (fun ls hl => ?_)
                      refine lv_iload X.1 X.2.1 d_Ha_compress_324 (lv_at hl 4 rfl) ?_
                      refine lv_istore_n (lv' := [(1, .int v956), (2, .int x700), (3, .int v959), (4, .int x702), (5, .int x703), (8, .int v956), (7, .int v949), (6, .int (nI i)), (0, .ref o)]) X.1 X.2.1 d_Ha_compress_326 rfl hl (by decide) rfl (fun ls hl => ?_)
                      refine lv_iinc (v := (nI (i + 1))) (lv' := [(6, .int (nI (i + 1))), (1, .int v956), (2, .int x700), (3, .int v959), (4, .int x702), (5, .int x703), (8, .int v956), (7, .int v949), (0, .ref o)]) X.1 X.2.1 d_Ha_compress_327 hl (k := 7) rfl (nI_add _ 1) (by decide) rfl (fun ls hl => ?_)
                      refine lv_goto (tgt := 190) X.1 X.2.1 d_Ha_compress_330 (by decide) ?_
                      exact ih688  (i + 1)  (v956) (x700) (v959) (x702) (x703) g693 g696 f689 _ _ _ (by omega) (by omega) (by omega)  e691 e692 e694 e695 e697 e698 e699 hF690 Y (lv_sub hl [0, 5, 4, 3, 2, 1, 8] rfl)
              exact lp686 (80) (0)  (v681) (v682) (v683) (v684) (v685) g670 g673 f666 _ _ _ (by omega) (by omega) (by omega)  e668 e669 e671 e672 e674 e675 e676 hF667 Y (lv_sub hl [0, 1, 2, 3, 4, 5, 6] rfl)
            · skip
              rw [nI_leI (by omega) (by omega)] at c680
              refine lv_aload_n X.1 X.2.1 d_Ha_compress_91 rfl (lv_at hl 1 rfl) ?_
              refine q_get X.1 X.2.1 X.2.2.1 i_Ha X.2.2.2.1 X.2.2.2.2 Y m_o e668 rfl 0 (by decide) (X.2.2.1 _ lk_Ha_7) (fun _ h9 => h9) rfl d_Ha_compress_92 ?_
              refine lv_iload_n X.1 X.2.1 d_Ha_compress_95 rfl (lv_at hl 0 rfl) ?_
              refine lv_iconst (v := (nI 3)) X.1 X.2.1 d_Ha_compress_96 (by decide) ?_
              refine lv_isub X.1 X.2.1 d_Ha_compress_97 ?_
              refine t_eq (y := nI (i - (3))) (pk_sub (by omega)) ?_
              refine q_iald X.1 X.2.1 X.2.2.2.2 Y 1 m_wd e669 rfl (vp_in_nI (by omega) (by omega)) d_Ha_compress_98 ?_
              refine t_any (fun v960 => ?_)
              refine lv_aload_n X.1 X.2.1 d_Ha_compress_99 rfl (lv_at hl 1 rfl) ?_
              refine q_get X.1 X.2.1 X.2.2.1 i_Ha X.2.2.2.1 X.2.2.2.2 Y m_o e668 rfl 0 (by decide) (X.2.2.1 _ lk_Ha_7) (fun _ h9 => h9) rfl d_Ha_compress_100 ?_
              refine lv_iload_n X.1 X.2.1 d_Ha_compress_103 rfl (lv_at hl 0 rfl) ?_
              refine lv_bipush (v := (nI 8)) X.1 X.2.1 d_Ha_compress_104 (by decide) ?_
              refine lv_isub X.1 X.2.1 d_Ha_compress_106 ?_
              refine t_eq (y := nI (i - (8))) (pk_sub (by omega)) ?_
              refine q_iald X.1 X.2.1 X.2.2.2.2 Y 1 m_wd e669 rfl (vp_in_nI (by omega) (by omega)) d_Ha_compress_107 ?_
              refine t_any (fun v961 => ?_)
              refine lv_ixor X.1 X.2.1 d_Ha_compress_108 ?_
              refine t_any (fun v962 => ?_)
              refine lv_aload_n X.1 X.2.1 d_Ha_compress_109 rfl (lv_at hl 1 rfl) ?_
              refine q_get X.1 X.2.1 X.2.2.1 i_Ha X.2.2.2.1 X.2.2.2.2 Y m_o e668 rfl 0 (by decide) (X.2.2.1 _ lk_Ha_7) (fun _ h9 => h9) rfl d_Ha_compress_110 ?_
              refine lv_iload_n X.1 X.2.1 d_Ha_compress_113 rfl (lv_at hl 0 rfl) ?_
              refine lv_bipush (v := (nI 14)) X.1 X.2.1 d_Ha_compress_114 (by decide) ?_
              refine lv_isub X.1 X.2.1 d_Ha_compress_116 ?_
              refine t_eq (y := nI (i - (14))) (pk_sub (by omega)) ?_
              refine q_iald X.1 X.2.1 X.2.2.2.2 Y 1 m_wd e669 rfl (vp_in_nI (by omega) (by omega)) d_Ha_compress_117 ?_
              refine t_any (fun v963 => ?_)
              refine lv_ixor X.1 X.2.1 d_Ha_compress_118 ?_
              refine t_any (fun v964 => ?_)
              refine lv_aload_n X.1 X.2.1 d_Ha_compress_119 rfl (lv_at hl 1 rfl) ?_
              refine q_get X.1 X.2.1 X.2.2.1 i_Ha X.2.2.2.1 X.2.2.2.2 Y m_o e668 rfl 0 (by decide) (X.2.2.1 _ lk_Ha_7) (fun _ h9 => h9) rfl d_Ha_compress_120 ?_
              refine lv_iload_n X.1 X.2.1 d_Ha_compress_123 rfl (lv_at hl 0 rfl) ?_
              refine lv_bipush (v := (nI 16)) X.1 X.2.1 d_Ha_compress_124 (by decide) ?_
              refine lv_isub X.1 X.2.1 d_Ha_compress_126 ?_
              refine t_eq (y := nI (i - (16))) (pk_sub (by omega)) ?_
              refine q_iald X.1 X.2.1 X.2.2.2.2 Y 1 m_wd e669 rfl (vp_in_nI (by omega) (by omega)) d_Ha_compress_127 ?_
              refine t_any (fun v965 => ?_)
              refine lv_ixor X.1 X.2.1 d_Ha_compress_128 ?_
              refine t_any (fun v966 => ?_)
              refine lv_istore_n (lv' := [(2, .int v966), (1, .int (nI i)), (0, .ref o)]) X.1 X.2.1 d_Ha_compress_129 rfl hl (by decide) rfl (fun ls hl => ?_)
              refine lv_aload_n X.1 X.2.1 d_Ha_compress_130 rfl (lv_at hl 2 rfl) ?_
              refine q_get X.1 X.2.1 X.2.2.1 i_Ha X.2.2.2.1 X.2.2.2.2 Y m_o e668 rfl 0 (by decide) (X.2.2.1 _ lk_Ha_7) (fun _ h9 => h9) rfl d_Ha_compress_131 ?_
              refine lv_iload_n X.1 X.2.1 d_Ha_compress_134 rfl (lv_at hl 1 rfl) ?_
              refine lv_iload_n X.1 X.2.1 d_Ha_compress_135 rfl (lv_at hl 0 rfl) ?_
              refine lv_iconst (v := (nI 1)) X.1 X.2.1 d_Ha_compress_136 (by decide) ?_
              refine lv_ishl X.1 X.2.1 d_Ha_compress_137 ?_
              refine t_any (fun v967 => ?_)
              refine lv_iload_n X.1 X.2.1 d_Ha_compress_138 rfl (lv_at hl 0 rfl) ?_
              refine lv_bipush (v := (nI 31)) X.1 X.2.1 d_Ha_compress_139 (by decide) ?_
              obtain ⟨v968, ev968⟩ : ∃ z : Int32, ((v966 : Int32).toUInt32 >>> (((nI 31) : Int32).toUInt32 &&& Int32.toUInt32 31)).toInt32 = z := ⟨_, rfl⟩
              refine lv_iushr (v := v968) X.1 X.2.1 d_Ha_compress_141 ev968 ?_
              refine lv_ior X.1 X.2.1 d_Ha_compress_142 ?_
              refine t_any (fun v969 => ?_)
              refine q_iast X.1 X.2.1 X.2.2.2.2 Y 1 m_wd e669 rfl (vp_in_nI (by omega) (by omega)) d_Ha_compress_143 (fun H locs Y => ?_)
              generalize (upd g670 ((nI i)).toNatClampNeg v969) = g970 at Y
              have e973 : (va_up f666 wd (.inl (E.2.1, 80, .inl g970))) wd = .inl (E.2.1, 80, .inl g970) := q_up
              have e974 : (va_up f666 wd (.inl (E.2.1, 80, .inl g970))) o = .inr (6, [.ref wd, .ref bl, .ref sta, .ref inn, .ref out, .int (nI fl), .int tot, .ref mac]) := (q_ne (q_tag e668 e669 (show (6 : Nat) ≠ 1000 by decide))).trans e668
              have e975 : (va_up f666 wd (.inl (E.2.1, 80, .inl g970))) bl = .inl (E.1, 64, .inl g_bl) := (q_ne ap_wd_bl.symm).trans e671
              have e976 : (va_up f666 wd (.inl (E.2.1, 80, .inl g970))) sta = .inl (E.2.1, 5, .inl g673) := (q_ne ap_wd_sta.symm).trans e672
              have e977 : (va_up f666 wd (.inl (E.2.1, 80, .inl g970))) inn = .inl (E.2.1, 5, .inl g_inn) := (q_ne ap_wd_inn.symm).trans e674
              have e978 : (va_up f666 wd (.inl (E.2.1, 80, .inl g970))) out = .inl (E.2.1, 5, .inl g_out) := (q_ne ap_wd_out.symm).trans e675
              have e979 : (va_up f666 wd (.inl (E.2.1, 80, .inl g970))) mac = .inl (E.1, 20, .inl g_mac) := (q_ne ap_wd_mac.symm).trans e676
              have hF980 : ∀ x, x ≠ wd → x ≠ sta → (va_up f666 wd (.inl (E.2.1, 80, .inl g970))) x = f x := fun x h0 h1 => (q_ne h0).trans (hF667 x h0 h1)
              have Y : pH D cCl (pA L sz) s.heap L (va_up f666 wd (.inl (E.2.1, 80, .inl g970))) H locs := Y
              generalize (va_up f666 wd (.inl (E.2.1, 80, .inl g970))) = f972 at Y e973 e974 e975 e976 e977 e978 e979 hF980
              refine lv_iinc (v := (nI (i + 1))) (lv' := [(1, .int (nI (i + 1))), (2, .int v966), (0, .ref o)]) X.1 X.2.1 d_Ha_compress_144 hl (k := 1) rfl (nI_add _ 1) (by decide) rfl (fun ls hl => ?_)
              refine lv_goto (tgt := 85) X.1 X.2.1 d_Ha_compress_147 (by decide) ?_
              exact False.elim (by omega)
          | succ n664 ih665 =>
            intro i g670 g673 f666 H locs ls hm679 hc677 hc678  e668 e669 e671 e672 e674 e675 e676 hF667 Y hl
            refine lv_iload_n X.1 X.2.1 d_Ha_compress_85 rfl (lv_at hl 0 rfl) ?_
            refine lv_bipush (v := (nI 80)) X.1 X.2.1 d_Ha_compress_86 (by decide) ?_
            refine lv_icmp_ge (tgt := 150) X.1 X.2.1 d_Ha_compress_88 (by decide) (fun c981 => ?_) (fun c981 => ?_)
            · skip
              rw [nI_leI (by omega) (by omega)] at c981
              refine lv_aload_n X.1 X.2.1 d_Ha_compress_150 rfl (lv_at hl 1 rfl) ?_
              refine q_get X.1 X.2.1 X.2.2.1 i_Ha X.2.2.2.1 X.2.2.2.2 Y m_o e668 rfl 2 (by decide) (X.2.2.1 _ lk_Ha_17) (fun _ h9 => h9) rfl d_Ha_compress_151 ?_
              refine lv_iconst (v := (nI 0)) X.1 X.2.1 d_Ha_compress_154 (by decide) ?_
              refine q_iald X.1 X.2.1 X.2.2.2.2 Y 1 m_sta e672 rfl (vp_in_nI (by omega) (by omega)) d_Ha_compress_155 ?_
              refine t_any (fun v982 => ?_)
              refine lv_istore_n (lv' := [(1, .int v982), (0, .ref o)]) X.1 X.2.1 d_Ha_compress_156 rfl hl (by decide) rfl (fun ls hl => ?_)
              refine lv_aload_n X.1 X.2.1 d_Ha_compress_157 rfl (lv_at hl 1 rfl) ?_
              refine q_get X.1 X.2.1 X.2.2.1 i_Ha X.2.2.2.1 X.2.2.2.2 Y m_o e668 rfl 2 (by decide) (X.2.2.1 _ lk_Ha_17) (fun _ h9 => h9) rfl d_Ha_compress_158 ?_
              refine lv_iconst (v := (nI 1)) X.1 X.2.1 d_Ha_compress_161 (by decide) ?_
              refine q_iald X.1 X.2.1 X.2.2.2.2 Y 1 m_sta e672 rfl (vp_in_nI (by omega) (by omega)) d_Ha_compress_162 ?_
              refine t_any (fun v983 => ?_)
              refine lv_istore_n (lv' := [(2, .int v983), (1, .int v982), (0, .ref o)]) X.1 X.2.1 d_Ha_compress_163 rfl hl (by decide) rfl (fun ls hl => ?_)
              refine lv_aload_n X.1 X.2.1 d_Ha_compress_164 rfl (lv_at hl 2 rfl) ?_
              refine q_get X.1 X.2.1 X.2.2.1 i_Ha X.2.2.2.1 X.2.2.2.2 Y m_o e668 rfl 2 (by decide) (X.2.2.1 _ lk_Ha_17) (fun _ h9 => h9) rfl d_Ha_compress_165 ?_
              refine lv_iconst (v := (nI 2)) X.1 X.2.1 d_Ha_compress_168 (by decide) ?_
              refine q_iald X.1 X.2.1 X.2.2.2.2 Y 1 m_sta e672 rfl (vp_in_nI (by omega) (by omega)) d_Ha_compress_169 ?_
              refine t_any (fun v984 => ?_)
              refine lv_istore_n (lv' := [(3, .int v984), (2, .int v983), (1, .int v982), (0, .ref o)]) X.1 X.2.1 d_Ha_compress_170 rfl hl (by decide) rfl (fun ls hl => ?_)
              refine lv_aload_n X.1 X.2.1 d_Ha_compress_171 rfl (lv_at hl 3 rfl) ?_
              refine q_get X.1 X.2.1 X.2.2.1 i_Ha X.2.2.2.1 X.2.2.2.2 Y m_o e668 rfl 2 (by decide) (X.2.2.1 _ lk_Ha_17) (fun _ h9 => h9) rfl d_Ha_compress_172 ?_
              refine lv_iconst (v := (nI 3)) X.1 X.2.1 d_Ha_compress_175 (by decide) ?_
              refine q_iald X.1 X.2.1 X.2.2.2.2 Y 1 m_sta e672 rfl (vp_in_nI (by omega) (by omega)) d_Ha_compress_176 ?_
              refine t_any (fun v985 => ?_)
              refine lv_istore (lv' := [(4, .int v985), (3, .int v984), (2, .int v983), (1, .int v982), (0, .ref o)]) X.1 X.2.1 d_Ha_compress_177 hl (by decide) rfl (fun ls hl => ?_)
              refine lv_aload_n X.1 X.2.1 d_Ha_compress_179 rfl (lv_at hl 4 rfl) ?_
              refine q_get X.1 X.2.1 X.2.2.1 i_Ha X.2.2.2.1 X.2.2.2.2 Y m_o e668 rfl 2 (by decide) (X.2.2.1 _ lk_Ha_17) (fun _ h9 => h9) rfl d_Ha_compress_180 ?_
              refine lv_iconst (v := (nI 4)) X.1 X.2.1 d_Ha_compress_183 (by decide) ?_
              refine q_iald X.1 X.2.1 X.2.2.2.2 Y 1 m_sta e672 rfl (vp_in_nI (by omega) (by omega)) d_Ha_compress_184 ?_
              refine t_any (fun v986 => ?_)
              refine lv_istore (lv' := [(5, .int v986), (4, .int v985), (3, .int v984), (2, .int v983), (1, .int v982), (0, .ref o)]) X.1 X.2.1 d_Ha_compress_185 hl (by decide) rfl (fun ls hl => ?_)
              refine lv_iconst (v := (nI 0)) X.1 X.2.1 d_Ha_compress_187 (by decide) ?_
              refine lv_istore (lv' := [(6, .int (nI 0)), (5, .int v986), (4, .int v985), (3, .int v984), (2, .int v983), (1, .int v982), (0, .ref o)]) X.1 X.2.1 d_Ha_compress_188 hl (by decide) rfl (fun ls hl => ?_)
              have lp987 : ∀ (n988 i : Nat) (x1001 : Int32) (x1002 : Int32) (x1003 : Int32) (x1004 : Int32) (x1005 : Int32) (g994 : Nat → Int32) (g997 : Nat → Int32) (f990 : pF) (H : Heap) (locs : List Loc) (ls : Array Slot), 80 - i ≤ n988 → (0 ≤ i) → (i ≤ 80) → f990 o = .inr (6, [.ref wd, .ref bl, .ref sta, .ref inn, .ref out, .int (nI fl), .int tot, .ref mac]) → f990 wd = .inl (E.2.1, 80, .inl g994) → f990 bl = .inl (E.1, 64, .inl g_bl) → f990 sta = .inl (E.2.1, 5, .inl g997) → f990 inn = .inl (E.2.1, 5, .inl g_inn) → f990 out = .inl (E.2.1, 5, .inl g_out) → f990 mac = .inl (E.1, 20, .inl g_mac) → (∀ x, x ≠ wd → x ≠ sta → f990 x = f x) → pH D cCl (pA L sz) s.heap L f990 H locs → lv_has ls 9 [(6, .int (nI i)), (5, .int x1005), (4, .int x1004), (3, .int x1003), (2, .int x1002), (1, .int x1001), (0, .ref o)] → W p l e (mR 0 0) s m AV below meth c H locs 0 0 QQ (F0 m 190 ls []) := by
                intro n988
                induction n988 with
                | zero =>
                  intro i x1001 x1002 x1003 x1004 x1005 g994 g997 f990 H locs ls hm1008 hc1006 hc1007  e992 e993 e995 e996 e998 e999 e1000 hF991 Y hl
                  refine lv_iload X.1 X.2.1 d_Ha_compress_190 (lv_at hl 0 rfl) ?_
                  refine lv_bipush (v := (nI 80)) X.1 X.2.1 d_Ha_compress_192 (by decide) ?_
                  refine lv_icmp_ge (tgt := 333) X.1 X.2.1 d_Ha_compress_194 (by decide) (fun c1009 => ?_) (fun c1009 => ?_)
                  · skip
                    rw [nI_leI (by omega) (by omega)] at c1009
                    refine lv_aload_n X.1 X.2.1 d_Ha_compress_333 rfl (lv_at hl 6 rfl) ?_
                    refine q_get X.1 X.2.1 X.2.2.1 i_Ha X.2.2.2.1 X.2.2.2.2 Y m_o e992 rfl 2 (by decide) (X.2.2.1 _ lk_Ha_17) (fun _ h9 => h9) rfl d_Ha_compress_334 ?_
                    refine lv_iconst (v := (nI 0)) X.1 X.2.1 d_Ha_compress_337 (by decide) ?_
                    refine lv_dup2_11 X.1 X.2.1 d_Ha_compress_338 rfl rfl ?_
                    refine q_iald X.1 X.2.1 X.2.2.2.2 Y 1 m_sta e996 rfl (vp_in_nI (by omega) (by omega)) d_Ha_compress_339 ?_
                    refine t_any (fun v1010 => ?_)
                    refine lv_iload_n X.1 X.2.1 d_Ha_compress_340 rfl (lv_at hl 5 rfl) ?_
                    refine lv_iadd X.1 X.2.1 d_Ha_compress_341 ?_
                    refine t_any (fun v1011 => ?_)
                    refine q_iast X.1 X.2.1 X.2.2.2.2 Y 1 m_sta e996 rfl (vp_in_nI (by omega) (by omega)) d_Ha_compress_342 (fun H locs Y => ?_)
                    generalize (upd g997 ((nI 0)).toNatClampNeg v1011) = g1012 at Y
                    have e1015 : (va_up f990 sta (.inl (E.2.1, 5, .inl g1012))) sta = .inl (E.2.1, 5, .inl g1012) := q_up
                    have e1016 : (va_up f990 sta (.inl (E.2.1, 5, .inl g1012))) o = .inr (6, [.ref wd, .ref bl, .ref sta, .ref inn, .ref out, .int (nI fl), .int tot, .ref mac]) := (q_ne (q_tag e992 e996 (show (6 : Nat) ≠ 1000 by decide))).trans e992
                    have e1017 : (va_up f990 sta (.inl (E.2.1, 5, .inl g1012))) wd = .inl (E.2.1, 80, .inl g994) := (q_ne ap_wd_sta).trans e993
                    have e1018 : (va_up f990 sta (.inl (E.2.1, 5, .inl g1012))) bl = .inl (E.1, 64, .inl g_bl) := (q_ne ap_bl_sta).trans e995
                    have e1019 : (va_up f990 sta (.inl (E.2.1, 5, .inl g1012))) inn = .inl (E.2.1, 5, .inl g_inn) := (q_ne ap_sta_inn.symm).trans e998
                    have e1020 : (va_up f990 sta (.inl (E.2.1, 5, .inl g1012))) out = .inl (E.2.1, 5, .inl g_out) := (q_ne ap_sta_out.symm).trans e999
                    have e1021 : (va_up f990 sta (.inl (E.2.1, 5, .inl g1012))) mac = .inl (E.1, 20, .inl g_mac) := (q_ne ap_sta_mac.symm).trans e1000
                    have hF1022 : ∀ x, x ≠ wd → x ≠ sta → (va_up f990 sta (.inl (E.2.1, 5, .inl g1012))) x = f x := fun x h0 h1 => (q_ne h1).trans (hF991 x h0 h1)
                    have Y : pH D cCl (pA L sz) s.heap L (va_up f990 sta (.inl (E.2.1, 5, .inl g1012))) H locs := Y
                    generalize (va_up f990 sta (.inl (E.2.1, 5, .inl g1012))) = f1014 at Y e1015 e1016 e1017 e1018 e1019 e1020 e1021 hF1022
                    refine lv_aload_n X.1 X.2.1 d_Ha_compress_343 rfl (lv_at hl 6 rfl) ?_
                    refine q_get X.1 X.2.1 X.2.2.1 i_Ha X.2.2.2.1 X.2.2.2.2 Y m_o e1016 rfl 2 (by decide) (X.2.2.1 _ lk_Ha_17) (fun _ h9 => h9) rfl d_Ha_compress_344 ?_
                    refine lv_iconst (v := (nI 1)) X.1 X.2.1 d_Ha_compress_347 (by decide) ?_
                    refine lv_dup2_11 X.1 X.2.1 d_Ha_compress_348 rfl rfl ?_
                    refine q_iald X.1 X.2.1 X.2.2.2.2 Y 1 m_sta e1015 rfl (vp_in_nI (by omega) (by omega)) d_Ha_compress_349 ?_
                    refine t_any (fun v1023 => ?_)
                    refine lv_iload_n X.1 X.2.1 d_Ha_compress_350 rfl (lv_at hl 4 rfl) ?_
                    refine lv_iadd X.1 X.2.1 d_Ha_compress_351 ?_
                    refine t_any (fun v1024 => ?_)
                    refine q_iast X.1 X.2.1 X.2.2.2.2 Y 1 m_sta e1015 rfl (vp_in_nI (by omega) (by omega)) d_Ha_compress_352 (fun H locs Y => ?_)
                    generalize (upd g1012 ((nI 1)).toNatClampNeg v1024) = g1025 at Y
                    have e1028 : (va_up f1014 sta (.inl (E.2.1, 5, .inl g1025))) sta = .inl (E.2.1, 5, .inl g1025) := q_up
                    have e1029 : (va_up f1014 sta (.inl (E.2.1, 5, .inl g1025))) o = .inr (6, [.ref wd, .ref bl, .ref sta, .ref inn, .ref out, .int (nI fl), .int tot, .ref mac]) := (q_ne (q_tag e1016 e1015 (show (6 : Nat) ≠ 1000 by decide))).trans e1016
                    have e1030 : (va_up f1014 sta (.inl (E.2.1, 5, .inl g1025))) wd = .inl (E.2.1, 80, .inl g994) := (q_ne ap_wd_sta).trans e1017
                    have e1031 : (va_up f1014 sta (.inl (E.2.1, 5, .inl g1025))) bl = .inl (E.1, 64, .inl g_bl) := (q_ne ap_bl_sta).trans e1018
                    have e1032 : (va_up f1014 sta (.inl (E.2.1, 5, .inl g1025))) inn = .inl (E.2.1, 5, .inl g_inn) := (q_ne ap_sta_inn.symm).trans e1019
                    have e1033 : (va_up f1014 sta (.inl (E.2.1, 5, .inl g1025))) out = .inl (E.2.1, 5, .inl g_out) := (q_ne ap_sta_out.symm).trans e1020
                    have e1034 : (va_up f1014 sta (.inl (E.2.1, 5, .inl g1025))) mac = .inl (E.1, 20, .inl g_mac) := (q_ne ap_sta_mac.symm).trans e1021
                    have hF1035 : ∀ x, x ≠ wd → x ≠ sta → (va_up f1014 sta (.inl (E.2.1, 5, .inl g1025))) x = f x := fun x h0 h1 => (q_ne h1).trans (hF1022 x h0 h1)
                    have Y : pH D cCl (pA L sz) s.heap L (va_up f1014 sta (.inl (E.2.1, 5, .inl g1025))) H locs := Y
                    generalize (va_up f1014 sta (.inl (E.2.1, 5, .inl g1025))) = f1027 at Y e1028 e1029 e1030 e1031 e1032 e1033 e1034 hF1035
                    refine lv_aload_n X.1 X.2.1 d_Ha_compress_353 rfl (lv_at hl 6 rfl) ?_
                    refine q_get X.1 X.2.1 X.2.2.1 i_Ha X.2.2.2.1 X.2.2.2.2 Y m_o e1029 rfl 2 (by decide) (X.2.2.1 _ lk_Ha_17) (fun _ h9 => h9) rfl d_Ha_compress_354 ?_
                    refine lv_iconst (v := (nI 2)) X.1 X.2.1 d_Ha_compress_357 (by decide) ?_
                    refine lv_dup2_11 X.1 X.2.1 d_Ha_compress_358 rfl rfl ?_
                    refine q_iald X.1 X.2.1 X.2.2.2.2 Y 1 m_sta e1028 rfl (vp_in_nI (by omega) (by omega)) d_Ha_compress_359 ?_
                    refine t_any (fun v1036 => ?_)
                    refine lv_iload_n X.1 X.2.1 d_Ha_compress_360 rfl (lv_at hl 3 rfl) ?_
                    refine lv_iadd X.1 X.2.1 d_Ha_compress_361 ?_
                    refine t_any (fun v1037 => ?_)
                    refine q_iast X.1 X.2.1 X.2.2.2.2 Y 1 m_sta e1028 rfl (vp_in_nI (by omega) (by omega)) d_Ha_compress_362 (fun H locs Y => ?_)
                    generalize (upd g1025 ((nI 2)).toNatClampNeg v1037) = g1038 at Y
                    have e1041 : (va_up f1027 sta (.inl (E.2.1, 5, .inl g1038))) sta = .inl (E.2.1, 5, .inl g1038) := q_up
                    have e1042 : (va_up f1027 sta (.inl (E.2.1, 5, .inl g1038))) o = .inr (6, [.ref wd, .ref bl, .ref sta, .ref inn, .ref out, .int (nI fl), .int tot, .ref mac]) := (q_ne (q_tag e1029 e1028 (show (6 : Nat) ≠ 1000 by decide))).trans e1029
                    have e1043 : (va_up f1027 sta (.inl (E.2.1, 5, .inl g1038))) wd = .inl (E.2.1, 80, .inl g994) := (q_ne ap_wd_sta).trans e1030
                    have e1044 : (va_up f1027 sta (.inl (E.2.1, 5, .inl g1038))) bl = .inl (E.1, 64, .inl g_bl) := (q_ne ap_bl_sta).trans e1031
                    have e1045 : (va_up f1027 sta (.inl (E.2.1, 5, .inl g1038))) inn = .inl (E.2.1, 5, .inl g_inn) := (q_ne ap_sta_inn.symm).trans e1032
                    have e1046 : (va_up f1027 sta (.inl (E.2.1, 5, .inl g1038))) out = .inl (E.2.1, 5, .inl g_out) := (q_ne ap_sta_out.symm).trans e1033
                    have e1047 : (va_up f1027 sta (.inl (E.2.1, 5, .inl g1038))) mac = .inl (E.1, 20, .inl g_mac) := (q_ne ap_sta_mac.symm).trans e1034
                    have hF1048 : ∀ x, x ≠ wd → x ≠ sta → (va_up f1027 sta (.inl (E.2.1, 5, .inl g1038))) x = f x := fun x h0 h1 => (q_ne h1).trans (hF1035 x h0 h1)
                    have Y : pH D cCl (pA L sz) s.heap L (va_up f1027 sta (.inl (E.2.1, 5, .inl g1038))) H locs := Y
                    generalize (va_up f1027 sta (.inl (E.2.1, 5, .inl g1038))) = f1040 at Y e1041 e1042 e1043 e1044 e1045 e1046 e1047 hF1048
                    refine lv_aload_n X.1 X.2.1 d_Ha_compress_363 rfl (lv_at hl 6 rfl) ?_
                    refine q_get X.1 X.2.1 X.2.2.1 i_Ha X.2.2.2.1 X.2.2.2.2 Y m_o e1042 rfl 2 (by decide) (X.2.2.1 _ lk_Ha_17) (fun _ h9 => h9) rfl d_Ha_compress_364 ?_
                    refine lv_iconst (v := (nI 3)) X.1 X.2.1 d_Ha_compress_367 (by decide) ?_
                    refine lv_dup2_11 X.1 X.2.1 d_Ha_compress_368 rfl rfl ?_
                    refine q_iald X.1 X.2.1 X.2.2.2.2 Y 1 m_sta e1041 rfl (vp_in_nI (by omega) (by omega)) d_Ha_compress_369 ?_
                    refine t_any (fun v1049 => ?_)
                    refine lv_iload X.1 X.2.1 d_Ha_compress_370 (lv_at hl 2 rfl) ?_
                    refine lv_iadd X.1 X.2.1 d_Ha_compress_372 ?_
                    refine t_any (fun v1050 => ?_)
                    refine q_iast X.1 X.2.1 X.2.2.2.2 Y 1 m_sta e1041 rfl (vp_in_nI (by omega) (by omega)) d_Ha_compress_373 (fun H locs Y => ?_)
                    generalize (upd g1038 ((nI 3)).toNatClampNeg v1050) = g1051 at Y
                    have e1054 : (va_up f1040 sta (.inl (E.2.1, 5, .inl g1051))) sta = .inl (E.2.1, 5, .inl g1051) := q_up
                    have e1055 : (va_up f1040 sta (.inl (E.2.1, 5, .inl g1051))) o = .inr (6, [.ref wd, .ref bl, .ref sta, .ref inn, .ref out, .int (nI fl), .int tot, .ref mac]) := (q_ne (q_tag e1042 e1041 (show (6 : Nat) ≠ 1000 by decide))).trans e1042
                    have e1056 : (va_up f1040 sta (.inl (E.2.1, 5, .inl g1051))) wd = .inl (E.2.1, 80, .inl g994) := (q_ne ap_wd_sta).trans e1043
                    have e1057 : (va_up f1040 sta (.inl (E.2.1, 5, .inl g1051))) bl = .inl (E.1, 64, .inl g_bl) := (q_ne ap_bl_sta).trans e1044
                    have e1058 : (va_up f1040 sta (.inl (E.2.1, 5, .inl g1051))) inn = .inl (E.2.1, 5, .inl g_inn) := (q_ne ap_sta_inn.symm).trans e1045
                    have e1059 : (va_up f1040 sta (.inl (E.2.1, 5, .inl g1051))) out = .inl (E.2.1, 5, .inl g_out) := (q_ne ap_sta_out.symm).trans e1046
                    have e1060 : (va_up f1040 sta (.inl (E.2.1, 5, .inl g1051))) mac = .inl (E.1, 20, .inl g_mac) := (q_ne ap_sta_mac.symm).trans e1047
                    have hF1061 : ∀ x, x ≠ wd → x ≠ sta → (va_up f1040 sta (.inl (E.2.1, 5, .inl g1051))) x = f x := fun x h0 h1 => (q_ne h1).trans (hF1048 x h0 h1)
                    have Y : pH D cCl (pA L sz) s.heap L (va_up f1040 sta (.inl (E.2.1, 5, .inl g1051))) H locs := Y
                    generalize (va_up f1040 sta (.inl (E.2.1, 5, .inl g1051))) = f1053 at Y e1054 e1055 e1056 e1057 e1058 e1059 e1060 hF1061
                    refine lv_aload_n X.1 X.2.1 d_Ha_compress_374 rfl (lv_at hl 6 rfl) ?_
                    refine q_get X.1 X.2.1 X.2.2.1 i_Ha X.2.2.2.1 X.2.2.2.2 Y m_o e1055 rfl 2 (by decide) (X.2.2.1 _ lk_Ha_17) (fun _ h9 => h9) rfl d_Ha_compress_375 ?_
                    refine lv_iconst (v := (nI 4)) X.1 X.2.1 d_Ha_compress_378 (by decide) ?_
                    refine lv_dup2_11 X.1 X.2.1 d_Ha_compress_379 rfl rfl ?_
                    refine q_iald X.1 X.2.1 X.2.2.2.2 Y 1 m_sta e1054 rfl (vp_in_nI (by omega) (by omega)) d_Ha_compress_380 ?_
                    refine t_any (fun v1062 => ?_)
                    refine lv_iload X.1 X.2.1 d_Ha_compress_381 (lv_at hl 1 rfl) ?_
                    refine lv_iadd X.1 X.2.1 d_Ha_compress_383 ?_
                    refine t_any (fun v1063 => ?_)
                    refine q_iast X.1 X.2.1 X.2.2.2.2 Y 1 m_sta e1054 rfl (vp_in_nI (by omega) (by omega)) d_Ha_compress_384 (fun H locs Y => ?_)
                    generalize (upd g1051 ((nI 4)).toNatClampNeg v1063) = g1064 at Y
                    have e1067 : (va_up f1053 sta (.inl (E.2.1, 5, .inl g1064))) sta = .inl (E.2.1, 5, .inl g1064) := q_up
                    have e1068 : (va_up f1053 sta (.inl (E.2.1, 5, .inl g1064))) o = .inr (6, [.ref wd, .ref bl, .ref sta, .ref inn, .ref out, .int (nI fl), .int tot, .ref mac]) := (q_ne (q_tag e1055 e1054 (show (6 : Nat) ≠ 1000 by decide))).trans e1055
                    have e1069 : (va_up f1053 sta (.inl (E.2.1, 5, .inl g1064))) wd = .inl (E.2.1, 80, .inl g994) := (q_ne ap_wd_sta).trans e1056
                    have e1070 : (va_up f1053 sta (.inl (E.2.1, 5, .inl g1064))) bl = .inl (E.1, 64, .inl g_bl) := (q_ne ap_bl_sta).trans e1057
                    have e1071 : (va_up f1053 sta (.inl (E.2.1, 5, .inl g1064))) inn = .inl (E.2.1, 5, .inl g_inn) := (q_ne ap_sta_inn.symm).trans e1058
                    have e1072 : (va_up f1053 sta (.inl (E.2.1, 5, .inl g1064))) out = .inl (E.2.1, 5, .inl g_out) := (q_ne ap_sta_out.symm).trans e1059
                    have e1073 : (va_up f1053 sta (.inl (E.2.1, 5, .inl g1064))) mac = .inl (E.1, 20, .inl g_mac) := (q_ne ap_sta_mac.symm).trans e1060
                    have hF1074 : ∀ x, x ≠ wd → x ≠ sta → (va_up f1053 sta (.inl (E.2.1, 5, .inl g1064))) x = f x := fun x h0 h1 => (q_ne h1).trans (hF1061 x h0 h1)
                    have Y : pH D cCl (pA L sz) s.heap L (va_up f1053 sta (.inl (E.2.1, 5, .inl g1064))) H locs := Y
                    generalize (va_up f1053 sta (.inl (E.2.1, 5, .inl g1064))) = f1066 at Y e1067 e1068 e1069 e1070 e1071 e1072 e1073 hF1074
                    exact c_retv hQQ X Y hr hlk ⟨rfl, hF1074, g994, g1064, e1069, e1067⟩ d_Ha_compress_385
                  · skip
                    rw [nI_leI (by omega) (by omega)] at c1009
                    refine lv_iload X.1 X.2.1 d_Ha_compress_197 (lv_at hl 0 rfl) ?_
                    refine lv_bipush (v := (nI 20)) X.1 X.2.1 d_Ha_compress_199 (by decide) ?_
                    refine lv_icmp_ge (tgt := 222) X.1 X.2.1 d_Ha_compress_201 (by decide) (fun c1075 => ?_) (fun c1075 => ?_)
                    · skip
                      rw [nI_leI (by omega) (by omega)] at c1075
                      refine lv_iload X.1 X.2.1 d_Ha_compress_222 (lv_at hl 0 rfl) ?_
                      refine lv_bipush (v := (nI 40)) X.1 X.2.1 d_Ha_compress_224 (by decide) ?_
                      refine lv_icmp_ge (tgt := 243) X.1 X.2.1 d_Ha_compress_226 (by decide) (fun c1076 => ?_) (fun c1076 => ?_)
                      · skip
                        rw [nI_leI (by omega) (by omega)] at c1076
                        refine lv_iload X.1 X.2.1 d_Ha_compress_243 (lv_at hl 0 rfl) ?_
                        refine lv_bipush (v := (nI 60)) X.1 X.2.1 d_Ha_compress_245 (by decide) ?_
                        refine lv_icmp_ge (tgt := 271) X.1 X.2.1 d_Ha_compress_247 (by decide) (fun c1077 => ?_) (fun c1077 => ?_)
                        · skip
                          rw [nI_leI (by omega) (by omega)] at c1077
                          refine lv_iload_n X.1 X.2.1 d_Ha_compress_271 rfl (lv_at hl 4 rfl) ?_
                          refine lv_iload_n X.1 X.2.1 d_Ha_compress_272 rfl (lv_at hl 3 rfl) ?_
                          refine lv_ixor X.1 X.2.1 d_Ha_compress_273 ?_
                          refine t_any (fun v1078 => ?_)
                          refine lv_iload X.1 X.2.1 d_Ha_compress_274 (lv_at hl 2 rfl) ?_
                          refine lv_ixor X.1 X.2.1 d_Ha_compress_276 ?_
                          refine t_any (fun v1079 => ?_)
                          refine lv_ldc (v := (-899497514)) X.1 X.2.1 X.2.2.2.1 (X.2.2.1 _ cn_Ha_60) d_Ha_compress_277 ?_
                          refine lv_iadd X.1 X.2.1 d_Ha_compress_279 ?_
                          refine t_any (fun v1080 => ?_)
                          refine lv_istore (lv' := [(7, .int v1080), (6, .int (nI i)), (5, .int x1005), (4, .int x1004), (3, .int x1003), (2, .int x1002), (1, .int x1001), (0, .ref o)]) X.1 X.2.1 d_Ha_compress_280 hl (by decide) rfl (fun ls hl => ?_)
                          refine lv_iload_n X.1 X.2.1 d_Ha_compress_282 rfl (lv_at hl 6 rfl) ?_
                          refine lv_iconst (v := (nI 5)) X.1 X.2.1 d_Ha_compress_283 (by decide) ?_
                          refine lv_ishl X.1 X.2.1 d_Ha_compress_284 ?_
                          refine t_any (fun v1081 => ?_)
                          refine lv_iload_n X.1 X.2.1 d_Ha_compress_285 rfl (lv_at hl 6 rfl) ?_
                          refine lv_bipush (v := (nI 27)) X.1 X.2.1 d_Ha_compress_286 (by decide) ?_
                          obtain ⟨v1082, ev1082⟩ : ∃ z : Int32, ((x1001 : Int32).toUInt32 >>> (((nI 27) : Int32).toUInt32 &&& Int32.toUInt32 31)).toInt32 = z := ⟨_, rfl⟩
                          refine lv_iushr (v := v1082) X.1 X.2.1 d_Ha_compress_288 ev1082 ?_
                          refine lv_ior X.1 X.2.1 d_Ha_compress_289 ?_
                          refine t_any (fun v1083 => ?_)
                          refine lv_iload X.1 X.2.1 d_Ha_compress_290 (lv_at hl 0 rfl) ?_
                          refine lv_iadd X.1 X.2.1 d_Ha_compress_292 ?_
                          refine t_any (fun v1084 => ?_)
                          refine lv_iload X.1 X.2.1 d_Ha_compress_293 (lv_at hl 2 rfl) ?_
                          refine lv_iadd X.1 X.2.1 d_Ha_compress_295 ?_
                          refine t_any (fun v1085 => ?_)
                          refine lv_aload_n X.1 X.2.1 d_Ha_compress_296 rfl (lv_at hl 7 rfl) ?_
                          refine q_get X.1 X.2.1 X.2.2.1 i_Ha X.2.2.2.1 X.2.2.2.2 Y m_o e992 rfl 0 (by decide) (X.2.2.1 _ lk_Ha_7) (fun _ h9 => h9) rfl d_Ha_compress_297 ?_
                          refine lv_iload X.1 X.2.1 d_Ha_compress_300 (lv_at hl 1 rfl) ?_
                          refine q_iald X.1 X.2.1 X.2.2.2.2 Y 1 m_wd e993 rfl (vp_in_nI (by omega) (by omega)) d_Ha_compress_302 ?_
                          refine t_any (fun v1086 => ?_)
                          refine lv_iadd X.1 X.2.1 d_Ha_compress_303 ?_
                          refine t_any (fun v1087 => ?_)
                          refine lv_istore (lv' := [(8, .int v1087), (7, .int v1080), (6, .int (nI i)), (5, .int x1005), (4, .int x1004), (3, .int x1003), (2, .int x1002), (1, .int x1001), (0, .ref o)]) X.1 X.2.1 d_Ha_compress_304 hl (by decide) rfl (fun ls hl => ?_)
                          refine lv_iload X.1 X.2.1 d_Ha_compress_306 (lv_at hl 4 rfl) ?_
                          refine lv_istore (lv' := [(5, .int x1004), (8, .int v1087), (7, .int v1080), (6, .int (nI i)), (4, .int x1004), (3, .int x1003), (2, .int x1002), (1, .int x1001), (0, .ref o)]) X.1 X.2.1 d_Ha_compress_308 hl (by decide) rfl (fun ls hl => ?_)
                          refine lv_iload_n X.1 X.2.1 d_Ha_compress_310 rfl (lv_at hl 5 rfl) ?_
                          refine lv_istore (lv' := [(4, .int x1003), (5, .int x1004), (8, .int v1087), (7, .int v1080), (6, .int (nI i)), (3, .int x1003), (2, .int x1002), (1, .int x1001), (0, .ref o)]) X.1 X.2.1 d_Ha_compress_311 hl (by decide) rfl (fun ls hl => ?_)
                          refine lv_iload_n X.1 X.2.1 d_Ha_compress_313 rfl (lv_at hl 6 rfl) ?_
                          refine lv_bipush (v := (nI 30)) X.1 X.2.1 d_Ha_compress_314 (by decide) ?_
                          refine lv_ishl X.1 X.2.1 d_Ha_compress_316 ?_
                          refine t_any (fun v1088 => ?_)
                          refine lv_iload_n X.1 X.2.1 d_Ha_compress_317 rfl (lv_at hl 6 rfl) ?_
                          refine lv_iconst (v := (nI 2)) X.1 X.2.1 d_Ha_compress_318 (by decide) ?_
                          obtain ⟨v1089, ev1089⟩ : ∃ z : Int32, ((x1002 : Int32).toUInt32 >>> (((nI 2) : Int32).toUInt32 &&& Int32.toUInt32 31)).toInt32 = z := ⟨_, rfl⟩
                          refine lv_iushr (v := v1089) X.1 X.2.1 d_Ha_compress_319 ev1089 ?_
                          refine lv_ior X.1 X.2.1 d_Ha_compress_320 ?_
                          refine t_any (fun v1090 => ?_)
                          refine lv_istore_n (lv' := [(3, .int v1090), (4, .int x1003), (5, .int x1004), (8, .int v1087), (7, .int v1080), (6, .int (nI i)), (2, .int x1002), (1, .int x1001), (0, .ref o)]) X.1 X.2.1 d_Ha_compress_321 rfl hl (by decide) rfl (fun ls hl => ?_)
                          refine lv_iload_n X.1 X.2.1 d_Ha_compress_322 rfl (lv_at hl 7 rfl) ?_
                          refine lv_istore_n (lv' := [(2, .int x1001), (3, .int v1090), (4, .int x1003), (5, .int x1004), (8, .int v1087), (7, .int v1080), (6, .int (nI i)), (1, .int x1001), (0, .ref o)]) X.1 X.2.1 d_Ha_compress_323 rfl hl (by decide) rfl (fun ls hl => ?_)
                          refine lv_iload X.1 X.2.1 d_Ha_compress_324 (lv_at hl 4 rfl) ?_
                          refine lv_istore_n (lv' := [(1, .int v1087), (2, .int x1001), (3, .int v1090), (4, .int x1003), (5, .int x1004), (8, .int v1087), (7, .int v1080), (6, .int (nI i)), (0, .ref o)]) X.1 X.2.1 d_Ha_compress_326 rfl hl (by decide) rfl (fun ls hl => ?_)
                          refine lv_iinc (v := (nI (i + 1))) (lv' := [(6, .int (nI (i + 1))), (1, .int v1087), (2, .int x1001), (3, .int v1090), (4, .int x1003), (5, .int x1004), (8, .int v1087), (7, .int v1080), (0, .ref o)]) X.1 X.2.1 d_Ha_compress_327 hl (k := 7) rfl (nI_add _ 1) (by decide) rfl (fun ls hl => ?_)
                          refine lv_goto (tgt := 190) X.1 X.2.1 d_Ha_compress_330 (by decide) ?_
                          exact False.elim (by omega)
                        · skip
                          rw [nI_leI (by omega) (by omega)] at c1077
                          refine lv_iload_n X.1 X.2.1 d_Ha_compress_250 rfl (lv_at hl 4 rfl) ?_
                          refine lv_iload_n X.1 X.2.1 d_Ha_compress_251 rfl (lv_at hl 3 rfl) ?_
                          refine lv_iand X.1 X.2.1 d_Ha_compress_252 ?_
                          refine t_any (fun v1091 => ?_)
                          refine lv_iload_n X.1 X.2.1 d_Ha_compress_253 rfl (lv_at hl 4 rfl) ?_
                          refine lv_iload X.1 X.2.1 d_Ha_compress_254 (lv_at hl 2 rfl) ?_
                          refine lv_iand X.1 X.2.1 d_Ha_compress_256 ?_
                          refine t_any (fun v1092 => ?_)
                          refine lv_ior X.1 X.2.1 d_Ha_compress_257 ?_
                          refine t_any (fun v1093 => ?_)
                          refine lv_iload_n X.1 X.2.1 d_Ha_compress_258 rfl (lv_at hl 3 rfl) ?_
                          refine lv_iload X.1 X.2.1 d_Ha_compress_259 (lv_at hl 2 rfl) ?_
                          refine lv_iand X.1 X.2.1 d_Ha_compress_261 ?_
                          refine t_any (fun v1094 => ?_)
                          refine lv_ior X.1 X.2.1 d_Ha_compress_262 ?_
                          refine t_any (fun v1095 => ?_)
                          refine lv_ldc (v := (-1894007588)) X.1 X.2.1 X.2.2.2.1 (X.2.2.1 _ cn_Ha_59) d_Ha_compress_263 ?_
                          refine lv_iadd X.1 X.2.1 d_Ha_compress_265 ?_
                          refine t_any (fun v1096 => ?_)
                          refine lv_istore (lv' := [(7, .int v1096), (6, .int (nI i)), (5, .int x1005), (4, .int x1004), (3, .int x1003), (2, .int x1002), (1, .int x1001), (0, .ref o)]) X.1 X.2.1 d_Ha_compress_266 hl (by decide) rfl (fun ls hl => ?_)
                          refine lv_goto (tgt := 282) X.1 X.2.1 d_Ha_compress_268 (by decide) ?_
                          refine lv_iload_n X.1 X.2.1 d_Ha_compress_282 rfl (lv_at hl 6 rfl) ?_
                          refine lv_iconst (v := (nI 5)) X.1 X.2.1 d_Ha_compress_283 (by decide) ?_
                          refine lv_ishl X.1 X.2.1 d_Ha_compress_284 ?_
                          refine t_any (fun v1097 => ?_)
                          refine lv_iload_n X.1 X.2.1 d_Ha_compress_285 rfl (lv_at hl 6 rfl) ?_
                          refine lv_bipush (v := (nI 27)) X.1 X.2.1 d_Ha_compress_286 (by decide) ?_
                          obtain ⟨v1098, ev1098⟩ : ∃ z : Int32, ((x1001 : Int32).toUInt32 >>> (((nI 27) : Int32).toUInt32 &&& Int32.toUInt32 31)).toInt32 = z := ⟨_, rfl⟩
                          refine lv_iushr (v := v1098) X.1 X.2.1 d_Ha_compress_288 ev1098 ?_
                          refine lv_ior X.1 X.2.1 d_Ha_compress_289 ?_
                          refine t_any (fun v1099 => ?_)
                          refine lv_iload X.1 X.2.1 d_Ha_compress_290 (lv_at hl 0 rfl) ?_
                          refine lv_iadd X.1 X.2.1 d_Ha_compress_292 ?_
                          refine t_any (fun v1100 => ?_)
                          refine lv_iload X.1 X.2.1 d_Ha_compress_293 (lv_at hl 2 rfl) ?_
                          refine lv_iadd X.1 X.2.1 d_Ha_compress_295 ?_
                          refine t_any (fun v1101 => ?_)
                          refine lv_aload_n X.1 X.2.1 d_Ha_compress_296 rfl (lv_at hl 7 rfl) ?_
                          refine q_get X.1 X.2.1 X.2.2.1 i_Ha X.2.2.2.1 X.2.2.2.2 Y m_o e992 rfl 0 (by decide) (X.2.2.1 _ lk_Ha_7) (fun _ h9 => h9) rfl d_Ha_compress_297 ?_
                          refine lv_iload X.1 X.2.1 d_Ha_compress_300 (lv_at hl 1 rfl) ?_
                          refine q_iald X.1 X.2.1 X.2.2.2.2 Y 1 m_wd e993 rfl (vp_in_nI (by omega) (by omega)) d_Ha_compress_302 ?_
                          refine t_any (fun v1102 => ?_)
                          refine lv_iadd X.1 X.2.1 d_Ha_compress_303 ?_
                          refine t_any (fun v1103 => ?_)
                          refine lv_istore (lv' := [(8, .int v1103), (7, .int v1096), (6, .int (nI i)), (5, .int x1005), (4, .int x1004), (3, .int x1003), (2, .int x1002), (1, .int x1001), (0, .ref o)]) X.1 X.2.1 d_Ha_compress_304 hl (by decide) rfl (fun ls hl => ?_)
                          refine lv_iload X.1 X.2.1 d_Ha_compress_306 (lv_at hl 4 rfl) ?_
                          refine lv_istore (lv' := [(5, .int x1004), (8, .int v1103), (7, .int v1096), (6, .int (nI i)), (4, .int x1004), (3, .int x1003), (2, .int x1002), (1, .int x1001), (0, .ref o)]) X.1 X.2.1 d_Ha_compress_308 hl (by decide) rfl (fun ls hl => ?_)
                          refine lv_iload_n X.1 X.2.1 d_Ha_compress_310 rfl (lv_at hl 5 rfl) ?_
                          refine lv_istore (lv' := [(4, .int x1003), (5, .int x1004), (8, .int v1103), (7, .int v1096), (6, .int (nI i)), (3, .int x1003), (2, .int x1002), (1, .int x1001), (0, .ref o)]) X.1 X.2.1 d_Ha_compress_311 hl (by decide) rfl (fun ls hl => ?_)
                          refine lv_iload_n X.1 X.2.1 d_Ha_compress_313 rfl (lv_at hl 6 rfl) ?_
                          refine lv_bipush (v := (nI 30)) X.1 X.2.1 d_Ha_compress_314 (by decide) ?_
                          refine lv_ishl X.1 X.2.1 d_Ha_compress_316 ?_
                          refine t_any (fun v1104 => ?_)
                          refine lv_iload_n X.1 X.2.1 d_Ha_compress_317 rfl (lv_at hl 6 rfl) ?_
                          refine lv_iconst (v := (nI 2)) X.1 X.2.1 d_Ha_compress_318 (by decide) ?_
                          obtain ⟨v1105, ev1105⟩ : ∃ z : Int32, ((x1002 : Int32).toUInt32 >>> (((nI 2) : Int32).toUInt32 &&& Int32.toUInt32 31)).toInt32 = z := ⟨_, rfl⟩
                          refine lv_iushr (v := v1105) X.1 X.2.1 d_Ha_compress_319 ev1105 ?_
                          refine lv_ior X.1 X.2.1 d_Ha_compress_320 ?_
                          refine t_any (fun v1106 => ?_)
                          refine lv_istore_n (lv' := [(3, .int v1106), (4, .int x1003), (5, .int x1004), (8, .int v1103), (7, .int v1096), (6, .int (nI i)), (2, .int x1002), (1, .int x1001), (0, .ref o)]) X.1 X.2.1 d_Ha_compress_321 rfl hl (by decide) rfl (fun ls hl => ?_)
                          refine lv_iload_n X.1 X.2.1 d_Ha_compress_322 rfl (lv_at hl 7 rfl) ?_
                          refine lv_istore_n (lv' := [(2, .int x1001), (3, .int v1106), (4, .int x1003), (5, .int x1004), (8, .int v1103), (7, .int v1096), (6, .int (nI i)), (1, .int x1001), (0, .ref o)]) X.1 X.2.1 d_Ha_compress_323 rfl hl (by decide) rfl (fun ls hl => ?_)
                          refine lv_iload X.1 X.2.1 d_Ha_compress_324 (lv_at hl 4 rfl) ?_
                          refine lv_istore_n (lv' := [(1, .int v1103), (2, .int x1001), (3, .int v1106), (4, .int x1003), (5, .int x1004), (8, .int v1103), (7, .int v1096), (6, .int (nI i)), (0, .ref o)]) X.1 X.2.1 d_Ha_compress_326 rfl hl (by decide) rfl (fun ls hl => ?_)
                          refine lv_iinc (v := (nI (i + 1))) (lv' := [(6, .int (nI (i + 1))), (1, .int v1103), (2, .int x1001), (3, .int v1106), (4, .int x1003), (5, .int x1004), (8, .int v1103), (7, .int v1096), (0, .ref o)]) X.1 X.2.1 d_Ha_compress_327 hl (k := 7) rfl (nI_add _ 1) (by decide) rfl (fun ls hl => ?_)
                          refine lv_goto (tgt := 190) X.1 X.2.1 d_Ha_compress_330 (by decide) ?_
                          exact False.elim (by omega)
                      · skip
                        rw [nI_leI (by omega) (by omega)] at c1076
                        refine lv_iload_n X.1 X.2.1 d_Ha_compress_229 rfl (lv_at hl 4 rfl) ?_
                        refine lv_iload_n X.1 X.2.1 d_Ha_compress_230 rfl (lv_at hl 3 rfl) ?_
                        refine lv_ixor X.1 X.2.1 d_Ha_compress_231 ?_
                        refine t_any (fun v1107 => ?_)
                        refine lv_iload X.1 X.2.1 d_Ha_compress_232 (lv_at hl 2 rfl) ?_
                        refine lv_ixor X.1 X.2.1 d_Ha_compress_234 ?_
                        refine t_any (fun v1108 => ?_)
                        refine lv_ldc (v := (1859775393)) X.1 X.2.1 X.2.2.2.1 (X.2.2.1 _ cn_Ha_58) d_Ha_compress_235 ?_
                        refine t_eq (y := nI 1859775393) (by decide) ?_
                        refine lv_iadd X.1 X.2.1 d_Ha_compress_237 ?_
                        refine t_any (fun v1109 => ?_)
                        refine lv_istore (lv' := [(7, .int v1109), (6, .int (nI i)), (5, .int x1005), (4, .int x1004), (3, .int x1003), (2, .int x1002), (1, .int x1001), (0, .ref o)]) X.1 X.2.1 d_Ha_compress_238 hl (by decide) rfl (fun ls hl => ?_)
                        refine lv_goto (tgt := 282) X.1 X.2.1 d_Ha_compress_240 (by decide) ?_
                        refine lv_iload_n X.1 X.2.1 d_Ha_compress_282 rfl (lv_at hl 6 rfl) ?_
                        refine lv_iconst (v := (nI 5)) X.1 X.2.1 d_Ha_compress_283 (by decide) ?_
                        refine lv_ishl X.1 X.2.1 d_Ha_compress_284 ?_
                        refine t_any (fun v1110 => ?_)
                        refine lv_iload_n X.1 X.2.1 d_Ha_compress_285 rfl (lv_at hl 6 rfl) ?_
                        refine lv_bipush (v := (nI 27)) X.1 X.2.1 d_Ha_compress_286 (by decide) ?_
                        obtain ⟨v1111, ev1111⟩ : ∃ z : Int32, ((x1001 : Int32).toUInt32 >>> (((nI 27) : Int32).toUInt32 &&& Int32.toUInt32 31)).toInt32 = z := ⟨_, rfl⟩
                        refine lv_iushr (v := v1111) X.1 X.2.1 d_Ha_compress_288 ev1111 ?_
                        refine lv_ior X.1 X.2.1 d_Ha_compress_289 ?_
                        refine t_any (fun v1112 => ?_)
                        refine lv_iload X.1 X.2.1 d_Ha_compress_290 (lv_at hl 0 rfl) ?_
                        refine lv_iadd X.1 X.2.1 d_Ha_compress_292 ?_
                        refine t_any (fun v1113 => ?_)
                        refine lv_iload X.1 X.2.1 d_Ha_compress_293 (lv_at hl 2 rfl) ?_
                        refine lv_iadd X.1 X.2.1 d_Ha_compress_295 ?_
                        refine t_any (fun v1114 => ?_)
                        refine lv_aload_n X.1 X.2.1 d_Ha_compress_296 rfl (lv_at hl 7 rfl) ?_
                        refine q_get X.1 X.2.1 X.2.2.1 i_Ha X.2.2.2.1 X.2.2.2.2 Y m_o e992 rfl 0 (by decide) (X.2.2.1 _ lk_Ha_7) (fun _ h9 => h9) rfl d_Ha_compress_297 ?_
                        refine lv_iload X.1 X.2.1 d_Ha_compress_300 (lv_at hl 1 rfl) ?_
                        refine q_iald X.1 X.2.1 X.2.2.2.2 Y 1 m_wd e993 rfl (vp_in_nI (by omega) (by omega)) d_Ha_compress_302 ?_
                        refine t_any (fun v1115 => ?_)
                        refine lv_iadd X.1 X.2.1 d_Ha_compress_303 ?_
                        refine t_any (fun v1116 => ?_)
                        refine lv_istore (lv' := [(8, .int v1116), (7, .int v1109), (6, .int (nI i)), (5, .int x1005), (4, .int x1004), (3, .int x1003), (2, .int x1002), (1, .int x1001), (0, .ref o)]) X.1 X.2.1 d_Ha_compress_304 hl (by decide) rfl (fun ls hl => ?_)
                        refine lv_iload X.1 X.2.1 d_Ha_compress_306 (lv_at hl 4 rfl) ?_
                        refine lv_istore (lv' := [(5, .int x1004), (8, .int v1116), (7, .int v1109), (6, .int (nI i)), (4, .int x1004), (3, .int x1003), (2, .int x1002), (1, .int x1001), (0, .ref o)]) X.1 X.2.1 d_Ha_compress_308 hl (by decide) rfl (fun ls hl => ?_)
                        refine lv_iload_n X.1 X.2.1 d_Ha_compress_310 rfl (lv_at hl 5 rfl) ?_
                        refine lv_istore (lv' := [(4, .int x1003), (5, .int x1004), (8, .int v1116), (7, .int v1109), (6, .int (nI i)), (3, .int x1003), (2, .int x1002), (1, .int x1001), (0, .ref o)]) X.1 X.2.1 d_Ha_compress_311 hl (by decide) rfl (fun ls hl => ?_)
                        refine lv_iload_n X.1 X.2.1 d_Ha_compress_313 rfl (lv_at hl 6 rfl) ?_
                        refine lv_bipush (v := (nI 30)) X.1 X.2.1 d_Ha_compress_314 (by decide) ?_
                        refine lv_ishl X.1 X.2.1 d_Ha_compress_316 ?_
                        refine t_any (fun v1117 => ?_)
                        refine lv_iload_n X.1 X.2.1 d_Ha_compress_317 rfl (lv_at hl 6 rfl) ?_
                        refine lv_iconst (v := (nI 2)) X.1 X.2.1 d_Ha_compress_318 (by decide) ?_
                        obtain ⟨v1118, ev1118⟩ : ∃ z : Int32, ((x1002 : Int32).toUInt32 >>> (((nI 2) : Int32).toUInt32 &&& Int32.toUInt32 31)).toInt32 = z := ⟨_, rfl⟩
                        refine lv_iushr (v := v1118) X.1 X.2.1 d_Ha_compress_319 ev1118 ?_
                        refine lv_ior X.1 X.2.1 d_Ha_compress_320 ?_
                        refine t_any (fun v1119 => ?_)
                        refine lv_istore_n (lv' := [(3, .int v1119), (4, .int x1003), (5, .int x1004), (8, .int v1116), (7, .int v1109), (6, .int (nI i)), (2, .int x1002), (1, .int x1001), (0, .ref o)]) X.1 X.2.1 d_Ha_compress_321 rfl hl (by decide) rfl (fun ls hl => ?_)
                        refine lv_iload_n X.1 X.2.1 d_Ha_compress_322 rfl (lv_at hl 7 rfl) ?_
                        refine lv_istore_n (lv' := [(2, .int x1001), (3, .int v1119), (4, .int x1003), (5, .int x1004), (8, .int v1116), (7, .int v1109), (6, .int (nI i)), (1, .int x1001), (0, .ref o)]) X.1 X.2.1 d_Ha_compress_323 rfl hl (by decide) rfl (fun ls hl => ?_)
                        refine lv_iload X.1 X.2.1 d_Ha_compress_324 (lv_at hl 4 rfl) ?_
                        refine lv_istore_n (lv' := [(1, .int v1116), (2, .int x1001), (3, .int v1119), (4, .int x1003), (5, .int x1004), (8, .int v1116), (7, .int v1109), (6, .int (nI i)), (0, .ref o)]) X.1 X.2.1 d_Ha_compress_326 rfl hl (by decide) rfl (fun ls hl => ?_)
                        refine lv_iinc (v := (nI (i + 1))) (lv' := [(6, .int (nI (i + 1))), (1, .int v1116), (2, .int x1001), (3, .int v1119), (4, .int x1003), (5, .int x1004), (8, .int v1116), (7, .int v1109), (0, .ref o)]) X.1 X.2.1 d_Ha_compress_327 hl (k := 7) rfl (nI_add _ 1) (by decide) rfl (fun ls hl => ?_)
                        refine lv_goto (tgt := 190) X.1 X.2.1 d_Ha_compress_330 (by decide) ?_
                        exact False.elim (by omega)
                    · skip
                      rw [nI_leI (by omega) (by omega)] at c1075
                      refine lv_iload_n X.1 X.2.1 d_Ha_compress_204 rfl (lv_at hl 4 rfl) ?_
                      refine lv_iload_n X.1 X.2.1 d_Ha_compress_205 rfl (lv_at hl 3 rfl) ?_
                      refine lv_iand X.1 X.2.1 d_Ha_compress_206 ?_
                      refine t_any (fun v1120 => ?_)
                      refine lv_iload_n X.1 X.2.1 d_Ha_compress_207 rfl (lv_at hl 4 rfl) ?_
                      refine lv_iconst (v := (-1)) X.1 X.2.1 d_Ha_compress_208 (by decide) ?_
                      refine lv_ixor X.1 X.2.1 d_Ha_compress_209 ?_
                      refine t_any (fun v1121 => ?_)
                      refine lv_iload X.1 X.2.1 d_Ha_compress_210 (lv_at hl 2 rfl) ?_
                      refine lv_iand X.1 X.2.1 d_Ha_compress_212 ?_
                      refine t_any (fun v1122 => ?_)
                      refine lv_ior X.1 X.2.1 d_Ha_compress_213 ?_
                      refine t_any (fun v1123 => ?_)
                      refine lv_ldc (v := (1518500249)) X.1 X.2.1 X.2.2.2.1 (X.2.2.1 _ cn_Ha_57) d_Ha_compress_214 ?_
                      refine t_eq (y := nI 1518500249) (by decide) ?_
                      refine lv_iadd X.1 X.2.1 d_Ha_compress_216 ?_
                      refine t_any (fun v1124 => ?_)
                      refine lv_istore (lv' := [(7, .int v1124), (6, .int (nI i)), (5, .int x1005), (4, .int x1004), (3, .int x1003), (2, .int x1002), (1, .int x1001), (0, .ref o)]) X.1 X.2.1 d_Ha_compress_217 hl (by decide) rfl (fun ls hl => ?_)
                      refine lv_goto (tgt := 282) X.1 X.2.1 d_Ha_compress_219 (by decide) ?_
                      refine lv_iload_n X.1 X.2.1 d_Ha_compress_282 rfl (lv_at hl 6 rfl) ?_
                      refine lv_iconst (v := (nI 5)) X.1 X.2.1 d_Ha_compress_283 (by decide) ?_
                      refine lv_ishl X.1 X.2.1 d_Ha_compress_284 ?_
                      refine t_any (fun v1125 => ?_)
                      refine lv_iload_n X.1 X.2.1 d_Ha_compress_285 rfl (lv_at hl 6 rfl) ?_
                      refine lv_bipush (v := (nI 27)) X.1 X.2.1 d_Ha_compress_286 (by decide) ?_
                      obtain ⟨v1126, ev1126⟩ : ∃ z : Int32, ((x1001 : Int32).toUInt32 >>> (((nI 27) : Int32).toUInt32 &&& Int32.toUInt32 31)).toInt32 = z := ⟨_, rfl⟩
                      refine lv_iushr (v := v1126) X.1 X.2.1 d_Ha_compress_288 ev1126 ?_
                      refine lv_ior X.1 X.2.1 d_Ha_compress_289 ?_
                      refine t_any (fun v1127 => ?_)
                      refine lv_iload X.1 X.2.1 d_Ha_compress_290 (lv_at hl 0 rfl) ?_
                      refine lv_iadd X.1 X.2.1 d_Ha_compress_292 ?_
                      refine t_any (fun v1128 => ?_)
                      refine lv_iload X.1 X.2.1 d_Ha_compress_293 (lv_at hl 2 rfl) ?_
                      refine lv_iadd X.1 X.2.1 d_Ha_compress_295 ?_
                      refine t_any (fun v1129 => ?_)
                      refine lv_aload_n X.1 X.2.1 d_Ha_compress_296 rfl (lv_at hl 7 rfl) ?_
                      refine q_get X.1 X.2.1 X.2.2.1 i_Ha X.2.2.2.1 X.2.2.2.2 Y m_o e992 rfl 0 (by decide) (X.2.2.1 _ lk_Ha_7) (fun _ h9 => h9) rfl d_Ha_compress_297 ?_
                      refine lv_iload X.1 X.2.1 d_Ha_compress_300 (lv_at hl 1 rfl) ?_
                      refine q_iald X.1 X.2.1 X.2.2.2.2 Y 1 m_wd e993 rfl (vp_in_nI (by omega) (by omega)) d_Ha_compress_302 ?_
                      refine t_any (fun v1130 => ?_)
                      refine lv_iadd X.1 X.2.1 d_Ha_compress_303 ?_
                      refine t_any (fun v1131 => ?_)
                      refine lv_istore (lv' := [(8, .int v1131), (7, .int v1124), (6, .int (nI i)), (5, .int x1005), (4, .int x1004), (3, .int x1003), (2, .int x1002), (1, .int x1001), (0, .ref o)]) X.1 X.2.1 d_Ha_compress_304 hl (by decide) rfl (fun ls hl => ?_)
                      refine lv_iload X.1 X.2.1 d_Ha_compress_306 (lv_at hl 4 rfl) ?_
                      refine lv_istore (lv' := [(5, .int x1004), (8, .int v1131), (7, .int v1124), (6, .int (nI i)), (4, .int x1004), (3, .int x1003), (2, .int x1002), (1, .int x1001), (0, .ref o)]) X.1 X.2.1 d_Ha_compress_308 hl (by decide) rfl (fun ls hl => ?_)
                      refine lv_iload_n X.1 X.2.1 d_Ha_compress_310 rfl (lv_at hl 5 rfl) ?_
                      refine lv_istore (lv' := [(4, .int x1003), (5, .int x1004), (8, .int v1131), (7, .int v1124), (6, .int (nI i)), (3, .int x1003), (2, .int x1002), (1, .int x1001), (0, .ref o)]) X.1 X.2.1 d_Ha_compress_311 hl (by decide) rfl (fun ls hl => ?_)
                      refine lv_iload_n X.1 X.2.1 d_Ha_compress_313 rfl (lv_at hl 6 rfl) ?_
                      refine lv_bipush (v := (nI 30)) X.1 X.2.1 d_Ha_compress_314 (by decide) ?_
                      refine lv_ishl X.1 X.2.1 d_Ha_compress_316 ?_
                      refine t_any (fun v1132 => ?_)
                      refine lv_iload_n X.1 X.2.1 d_Ha_compress_317 rfl (lv_at hl 6 rfl) ?_
                      refine lv_iconst (v := (nI 2)) X.1 X.2.1 d_Ha_compress_318 (by decide) ?_
                      obtain ⟨v1133, ev1133⟩ : ∃ z : Int32, ((x1002 : Int32).toUInt32 >>> (((nI 2) : Int32).toUInt32 &&& Int32.toUInt32 31)).toInt32 = z := ⟨_, rfl⟩
                      refine lv_iushr (v := v1133) X.1 X.2.1 d_Ha_compress_319 ev1133 ?_
                      refine lv_ior X.1 X.2.1 d_Ha_compress_320 ?_
                      refine t_any (fun v1134 => ?_)
                      refine lv_istore_n (lv' := [(3, .int v1134), (4, .int x1003), (5, .int x1004), (8, .int v1131), (7, .int v1124), (6, .int (nI i)), (2, .int x1002), (1, .int x1001), (0, .ref o)]) X.1 X.2.1 d_Ha_compress_321 rfl hl (by decide) rfl (fun ls hl => ?_)
                      refine lv_iload_n X.1 X.2.1 d_Ha_compress_322 rfl (lv_at hl 7 rfl) ?_
                      refine lv_istore_n (lv' := [(2, .int x1001), (3, .int v1134), (4, .int x1003), (5, .int x1004), (8, .int v1131), (7, .int v1124), (6, .int (nI i)), (1, .int x1001), (0, .ref o)]) X.1 X.2.1 d_Ha_compress_323 rfl hl (by decide) rfl (fun ls hl => ?_)
                      refine lv_iload X.1 X.2.1 d_Ha_compress_324 (lv_at hl 4 rfl) ?_
                      refine lv_istore_n (lv' := [(1, .int v1131), (2, .int x1001), (3, .int v1134), (4, .int x1003), (5, .int x1004), (8, .int v1131), (7, .int v1124), (6, .int (nI i)), (0, .ref o)]) X.1 X.2.1 d_Ha_compress_326 rfl hl (by decide) rfl (fun ls hl => ?_)
                      refine lv_iinc (v := (nI (i + 1))) (lv' := [(6, .int (nI (i + 1))), (1, .int v1131), (2, .int x1001), (3, .int v1134), (4, .int x1003), (5, .int x1004), (8, .int v1131), (7, .int v1124), (0, .ref o)]) X.1 X.2.1 d_Ha_compress_327 hl (k := 7) rfl (nI_add _ 1) (by decide) rfl (fun ls hl => ?_)
                      refine lv_goto (tgt := 190) X.1 X.2.1 d_Ha_compress_330 (by decide) ?_
                      exact False.elim (by omega)
                | succ n988 ih989 =>
                  intro i x1001 x1002 x1003 x1004 x1005 g994 g997 f990 H locs ls hm1008 hc1006 hc1007  e992 e993 e995 e996 e998 e999 e1000 hF991 Y hl
                  refine lv_iload X.1 X.2.1 d_Ha_compress_190 (lv_at hl 0 rfl) ?_
                  refine lv_bipush (v := (nI 80)) X.1 X.2.1 d_Ha_compress_192 (by decide) ?_
                  refine lv_icmp_ge (tgt := 333) X.1 X.2.1 d_Ha_compress_194 (by decide) (fun c1135 => ?_) (fun c1135 => ?_)
                  · skip
                    rw [nI_leI (by omega) (by omega)] at c1135
                    refine lv_aload_n X.1 X.2.1 d_Ha_compress_333 rfl (lv_at hl 6 rfl) ?_
                    refine q_get X.1 X.2.1 X.2.2.1 i_Ha X.2.2.2.1 X.2.2.2.2 Y m_o e992 rfl 2 (by decide) (X.2.2.1 _ lk_Ha_17) (fun _ h9 => h9) rfl d_Ha_compress_334 ?_
                    refine lv_iconst (v := (nI 0)) X.1 X.2.1 d_Ha_compress_337 (by decide) ?_
                    refine lv_dup2_11 X.1 X.2.1 d_Ha_compress_338 rfl rfl ?_
                    refine q_iald X.1 X.2.1 X.2.2.2.2 Y 1 m_sta e996 rfl (vp_in_nI (by omega) (by omega)) d_Ha_compress_339 ?_
                    refine t_any (fun v1136 => ?_)
                    refine lv_iload_n X.1 X.2.1 d_Ha_compress_340 rfl (lv_at hl 5 rfl) ?_
                    refine lv_iadd X.1 X.2.1 d_Ha_compress_341 ?_
                    refine t_any (fun v1137 => ?_)
                    refine q_iast X.1 X.2.1 X.2.2.2.2 Y 1 m_sta e996 rfl (vp_in_nI (by omega) (by omega)) d_Ha_compress_342 (fun H locs Y => ?_)
                    generalize (upd g997 ((nI 0)).toNatClampNeg v1137) = g1138 at Y
                    have e1141 : (va_up f990 sta (.inl (E.2.1, 5, .inl g1138))) sta = .inl (E.2.1, 5, .inl g1138) := q_up
                    have e1142 : (va_up f990 sta (.inl (E.2.1, 5, .inl g1138))) o = .inr (6, [.ref wd, .ref bl, .ref sta, .ref inn, .ref out, .int (nI fl), .int tot, .ref mac]) := (q_ne (q_tag e992 e996 (show (6 : Nat) ≠ 1000 by decide))).trans e992
                    have e1143 : (va_up f990 sta (.inl (E.2.1, 5, .inl g1138))) wd = .inl (E.2.1, 80, .inl g994) := (q_ne ap_wd_sta).trans e993
                    have e1144 : (va_up f990 sta (.inl (E.2.1, 5, .inl g1138))) bl = .inl (E.1, 64, .inl g_bl) := (q_ne ap_bl_sta).trans e995
                    have e1145 : (va_up f990 sta (.inl (E.2.1, 5, .inl g1138))) inn = .inl (E.2.1, 5, .inl g_inn) := (q_ne ap_sta_inn.symm).trans e998
                    have e1146 : (va_up f990 sta (.inl (E.2.1, 5, .inl g1138))) out = .inl (E.2.1, 5, .inl g_out) := (q_ne ap_sta_out.symm).trans e999
                    have e1147 : (va_up f990 sta (.inl (E.2.1, 5, .inl g1138))) mac = .inl (E.1, 20, .inl g_mac) := (q_ne ap_sta_mac.symm).trans e1000
                    have hF1148 : ∀ x, x ≠ wd → x ≠ sta → (va_up f990 sta (.inl (E.2.1, 5, .inl g1138))) x = f x := fun x h0 h1 => (q_ne h1).trans (hF991 x h0 h1)
                    have Y : pH D cCl (pA L sz) s.heap L (va_up f990 sta (.inl (E.2.1, 5, .inl g1138))) H locs := Y
                    generalize (va_up f990 sta (.inl (E.2.1, 5, .inl g1138))) = f1140 at Y e1141 e1142 e1143 e1144 e1145 e1146 e1147 hF1148
                    refine lv_aload_n X.1 X.2.1 d_Ha_compress_343 rfl (lv_at hl 6 rfl) ?_
                    refine q_get X.1 X.2.1 X.2.2.1 i_Ha X.2.2.2.1 X.2.2.2.2 Y m_o e1142 rfl 2 (by decide) (X.2.2.1 _ lk_Ha_17) (fun _ h9 => h9) rfl d_Ha_compress_344 ?_
                    refine lv_iconst (v := (nI 1)) X.1 X.2.1 d_Ha_compress_347 (by decide) ?_
                    refine lv_dup2_11 X.1 X.2.1 d_Ha_compress_348 rfl rfl ?_
                    refine q_iald X.1 X.2.1 X.2.2.2.2 Y 1 m_sta e1141 rfl (vp_in_nI (by omega) (by omega)) d_Ha_compress_349 ?_
                    refine t_any (fun v1149 => ?_)
                    refine lv_iload_n X.1 X.2.1 d_Ha_compress_350 rfl (lv_at hl 4 rfl) ?_
                    refine lv_iadd X.1 X.2.1 d_Ha_compress_351 ?_
                    refine t_any (fun v1150 => ?_)
                    refine q_iast X.1 X.2.1 X.2.2.2.2 Y 1 m_sta e1141 rfl (vp_in_nI (by omega) (by omega)) d_Ha_compress_352 (fun H locs Y => ?_)
                    generalize (upd g1138 ((nI 1)).toNatClampNeg v1150) = g1151 at Y
                    have e1154 : (va_up f1140 sta (.inl (E.2.1, 5, .inl g1151))) sta = .inl (E.2.1, 5, .inl g1151) := q_up
                    have e1155 : (va_up f1140 sta (.inl (E.2.1, 5, .inl g1151))) o = .inr (6, [.ref wd, .ref bl, .ref sta, .ref inn, .ref out, .int (nI fl), .int tot, .ref mac]) := (q_ne (q_tag e1142 e1141 (show (6 : Nat) ≠ 1000 by decide))).trans e1142
                    have e1156 : (va_up f1140 sta (.inl (E.2.1, 5, .inl g1151))) wd = .inl (E.2.1, 80, .inl g994) := (q_ne ap_wd_sta).trans e1143
                    have e1157 : (va_up f1140 sta (.inl (E.2.1, 5, .inl g1151))) bl = .inl (E.1, 64, .inl g_bl) := (q_ne ap_bl_sta).trans e1144
                    have e1158 : (va_up f1140 sta (.inl (E.2.1, 5, .inl g1151))) inn = .inl (E.2.1, 5, .inl g_inn) := (q_ne ap_sta_inn.symm).trans e1145
                    have e1159 : (va_up f1140 sta (.inl (E.2.1, 5, .inl g1151))) out = .inl (E.2.1, 5, .inl g_out) := (q_ne ap_sta_out.symm).trans e1146
                    have e1160 : (va_up f1140 sta (.inl (E.2.1, 5, .inl g1151))) mac = .inl (E.1, 20, .inl g_mac) := (q_ne ap_sta_mac.symm).trans e1147
                    have hF1161 : ∀ x, x ≠ wd → x ≠ sta → (va_up f1140 sta (.inl (E.2.1, 5, .inl g1151))) x = f x := fun x h0 h1 => (q_ne h1).trans (hF1148 x h0 h1)
                    have Y : pH D cCl (pA L sz) s.heap L (va_up f1140 sta (.inl (E.2.1, 5, .inl g1151))) H locs := Y
                    generalize (va_up f1140 sta (.inl (E.2.1, 5, .inl g1151))) = f1153 at Y e1154 e1155 e1156 e1157 e1158 e1159 e1160 hF1161
                    refine lv_aload_n X.1 X.2.1 d_Ha_compress_353 rfl (lv_at hl 6 rfl) ?_
                    refine q_get X.1 X.2.1 X.2.2.1 i_Ha X.2.2.2.1 X.2.2.2.2 Y m_o e1155 rfl 2 (by decide) (X.2.2.1 _ lk_Ha_17) (fun _ h9 => h9) rfl d_Ha_compress_354 ?_
                    refine lv_iconst (v := (nI 2)) X.1 X.2.1 d_Ha_compress_357 (by decide) ?_
                    refine lv_dup2_11 X.1 X.2.1 d_Ha_compress_358 rfl rfl ?_
                    refine q_iald X.1 X.2.1 X.2.2.2.2 Y 1 m_sta e1154 rfl (vp_in_nI (by omega) (by omega)) d_Ha_compress_359 ?_
                    refine t_any (fun v1162 => ?_)
                    refine lv_iload_n X.1 X.2.1 d_Ha_compress_360 rfl (lv_at hl 3 rfl) ?_
                    refine lv_iadd X.1 X.2.1 d_Ha_compress_361 ?_
                    refine t_any (fun v1163 => ?_)
                    refine q_iast X.1 X.2.1 X.2.2.2.2 Y 1 m_sta e1154 rfl (vp_in_nI (by omega) (by omega)) d_Ha_compress_362 (fun H locs Y => ?_)
                    generalize (upd g1151 ((nI 2)).toNatClampNeg v1163) = g1164 at Y
                    have e1167 : (va_up f1153 sta (.inl (E.2.1, 5, .inl g1164))) sta = .inl (E.2.1, 5, .inl g1164) := q_up
                    have e1168 : (va_up f1153 sta (.inl (E.2.1, 5, .inl g1164))) o = .inr (6, [.ref wd, .ref bl, .ref sta, .ref inn, .ref out, .int (nI fl), .int tot, .ref mac]) := (q_ne (q_tag e1155 e1154 (show (6 : Nat) ≠ 1000 by decide))).trans e1155
                    have e1169 : (va_up f1153 sta (.inl (E.2.1, 5, .inl g1164))) wd = .inl (E.2.1, 80, .inl g994) := (q_ne ap_wd_sta).trans e1156
                    have e1170 : (va_up f1153 sta (.inl (E.2.1, 5, .inl g1164))) bl = .inl (E.1, 64, .inl g_bl) := (q_ne ap_bl_sta).trans e1157
                    have e1171 : (va_up f1153 sta (.inl (E.2.1, 5, .inl g1164))) inn = .inl (E.2.1, 5, .inl g_inn) := (q_ne ap_sta_inn.symm).trans e1158
                    have e1172 : (va_up f1153 sta (.inl (E.2.1, 5, .inl g1164))) out = .inl (E.2.1, 5, .inl g_out) := (q_ne ap_sta_out.symm).trans e1159
                    have e1173 : (va_up f1153 sta (.inl (E.2.1, 5, .inl g1164))) mac = .inl (E.1, 20, .inl g_mac) := (q_ne ap_sta_mac.symm).trans e1160
                    have hF1174 : ∀ x, x ≠ wd → x ≠ sta → (va_up f1153 sta (.inl (E.2.1, 5, .inl g1164))) x = f x := fun x h0 h1 => (q_ne h1).trans (hF1161 x h0 h1)
                    have Y : pH D cCl (pA L sz) s.heap L (va_up f1153 sta (.inl (E.2.1, 5, .inl g1164))) H locs := Y
                    generalize (va_up f1153 sta (.inl (E.2.1, 5, .inl g1164))) = f1166 at Y e1167 e1168 e1169 e1170 e1171 e1172 e1173 hF1174
                    refine lv_aload_n X.1 X.2.1 d_Ha_compress_363 rfl (lv_at hl 6 rfl) ?_
                    refine q_get X.1 X.2.1 X.2.2.1 i_Ha X.2.2.2.1 X.2.2.2.2 Y m_o e1168 rfl 2 (by decide) (X.2.2.1 _ lk_Ha_17) (fun _ h9 => h9) rfl d_Ha_compress_364 ?_
                    refine lv_iconst (v := (nI 3)) X.1 X.2.1 d_Ha_compress_367 (by decide) ?_
                    refine lv_dup2_11 X.1 X.2.1 d_Ha_compress_368 rfl rfl ?_
                    refine q_iald X.1 X.2.1 X.2.2.2.2 Y 1 m_sta e1167 rfl (vp_in_nI (by omega) (by omega)) d_Ha_compress_369 ?_
                    refine t_any (fun v1175 => ?_)
                    refine lv_iload X.1 X.2.1 d_Ha_compress_370 (lv_at hl 2 rfl) ?_
                    refine lv_iadd X.1 X.2.1 d_Ha_compress_372 ?_
                    refine t_any (fun v1176 => ?_)
                    refine q_iast X.1 X.2.1 X.2.2.2.2 Y 1 m_sta e1167 rfl (vp_in_nI (by omega) (by omega)) d_Ha_compress_373 (fun H locs Y => ?_)
                    generalize (upd g1164 ((nI 3)).toNatClampNeg v1176) = g1177 at Y
                    have e1180 : (va_up f1166 sta (.inl (E.2.1, 5, .inl g1177))) sta = .inl (E.2.1, 5, .inl g1177) := q_up
                    have e1181 : (va_up f1166 sta (.inl (E.2.1, 5, .inl g1177))) o = .inr (6, [.ref wd, .ref bl, .ref sta, .ref inn, .ref out, .int (nI fl), .int tot, .ref mac]) := (q_ne (q_tag e1168 e1167 (show (6 : Nat) ≠ 1000 by decide))).trans e1168
                    have e1182 : (va_up f1166 sta (.inl (E.2.1, 5, .inl g1177))) wd = .inl (E.2.1, 80, .inl g994) := (q_ne ap_wd_sta).trans e1169
                    have e1183 : (va_up f1166 sta (.inl (E.2.1, 5, .inl g1177))) bl = .inl (E.1, 64, .inl g_bl) := (q_ne ap_bl_sta).trans e1170
                    have e1184 : (va_up f1166 sta (.inl (E.2.1, 5, .inl g1177))) inn = .inl (E.2.1, 5, .inl g_inn) := (q_ne ap_sta_inn.symm).trans e1171
                    have e1185 : (va_up f1166 sta (.inl (E.2.1, 5, .inl g1177))) out = .inl (E.2.1, 5, .inl g_out) := (q_ne ap_sta_out.symm).trans e1172
                    have e1186 : (va_up f1166 sta (.inl (E.2.1, 5, .inl g1177))) mac = .inl (E.1, 20, .inl g_mac) := (q_ne ap_sta_mac.symm).trans e1173
                    have hF1187 : ∀ x, x ≠ wd → x ≠ sta → (va_up f1166 sta (.inl (E.2.1, 5, .inl g1177))) x = f x := fun x h0 h1 => (q_ne h1).trans (hF1174 x h0 h1)
                    have Y : pH D cCl (pA L sz) s.heap L (va_up f1166 sta (.inl (E.2.1, 5, .inl g1177))) H locs := Y
                    generalize (va_up f1166 sta (.inl (E.2.1, 5, .inl g1177))) = f1179 at Y e1180 e1181 e1182 e1183 e1184 e1185 e1186 hF1187
                    refine lv_aload_n X.1 X.2.1 d_Ha_compress_374 rfl (lv_at hl 6 rfl) ?_
                    refine q_get X.1 X.2.1 X.2.2.1 i_Ha X.2.2.2.1 X.2.2.2.2 Y m_o e1181 rfl 2 (by decide) (X.2.2.1 _ lk_Ha_17) (fun _ h9 => h9) rfl d_Ha_compress_375 ?_
                    refine lv_iconst (v := (nI 4)) X.1 X.2.1 d_Ha_compress_378 (by decide) ?_
                    refine lv_dup2_11 X.1 X.2.1 d_Ha_compress_379 rfl rfl ?_
                    refine q_iald X.1 X.2.1 X.2.2.2.2 Y 1 m_sta e1180 rfl (vp_in_nI (by omega) (by omega)) d_Ha_compress_380 ?_
                    refine t_any (fun v1188 => ?_)
                    refine lv_iload X.1 X.2.1 d_Ha_compress_381 (lv_at hl 1 rfl) ?_
                    refine lv_iadd X.1 X.2.1 d_Ha_compress_383 ?_
                    refine t_any (fun v1189 => ?_)
                    refine q_iast X.1 X.2.1 X.2.2.2.2 Y 1 m_sta e1180 rfl (vp_in_nI (by omega) (by omega)) d_Ha_compress_384 (fun H locs Y => ?_)
                    generalize (upd g1177 ((nI 4)).toNatClampNeg v1189) = g1190 at Y
                    have e1193 : (va_up f1179 sta (.inl (E.2.1, 5, .inl g1190))) sta = .inl (E.2.1, 5, .inl g1190) := q_up
                    have e1194 : (va_up f1179 sta (.inl (E.2.1, 5, .inl g1190))) o = .inr (6, [.ref wd, .ref bl, .ref sta, .ref inn, .ref out, .int (nI fl), .int tot, .ref mac]) := (q_ne (q_tag e1181 e1180 (show (6 : Nat) ≠ 1000 by decide))).trans e1181
                    have e1195 : (va_up f1179 sta (.inl (E.2.1, 5, .inl g1190))) wd = .inl (E.2.1, 80, .inl g994) := (q_ne ap_wd_sta).trans e1182
                    have e1196 : (va_up f1179 sta (.inl (E.2.1, 5, .inl g1190))) bl = .inl (E.1, 64, .inl g_bl) := (q_ne ap_bl_sta).trans e1183
                    have e1197 : (va_up f1179 sta (.inl (E.2.1, 5, .inl g1190))) inn = .inl (E.2.1, 5, .inl g_inn) := (q_ne ap_sta_inn.symm).trans e1184
                    have e1198 : (va_up f1179 sta (.inl (E.2.1, 5, .inl g1190))) out = .inl (E.2.1, 5, .inl g_out) := (q_ne ap_sta_out.symm).trans e1185
                    have e1199 : (va_up f1179 sta (.inl (E.2.1, 5, .inl g1190))) mac = .inl (E.1, 20, .inl g_mac) := (q_ne ap_sta_mac.symm).trans e1186
                    have hF1200 : ∀ x, x ≠ wd → x ≠ sta → (va_up f1179 sta (.inl (E.2.1, 5, .inl g1190))) x = f x := fun x h0 h1 => (q_ne h1).trans (hF1187 x h0 h1)
                    have Y : pH D cCl (pA L sz) s.heap L (va_up f1179 sta (.inl (E.2.1, 5, .inl g1190))) H locs := Y
                    generalize (va_up f1179 sta (.inl (E.2.1, 5, .inl g1190))) = f1192 at Y e1193 e1194 e1195 e1196 e1197 e1198 e1199 hF1200
                    exact c_retv hQQ X Y hr hlk ⟨rfl, hF1200, g994, g1190, e1195, e1193⟩ d_Ha_compress_385
                  · skip
                    rw [nI_leI (by omega) (by omega)] at c1135
                    refine lv_iload X.1 X.2.1 d_Ha_compress_197 (lv_at hl 0 rfl) ?_
                    refine lv_bipush (v := (nI 20)) X.1 X.2.1 d_Ha_compress_199 (by decide) ?_
                    refine lv_icmp_ge (tgt := 222) X.1 X.2.1 d_Ha_compress_201 (by decide) (fun c1201 => ?_) (fun c1201 => ?_)
                    · skip
                      rw [nI_leI (by omega) (by omega)] at c1201
                      refine lv_iload X.1 X.2.1 d_Ha_compress_222 (lv_at hl 0 rfl) ?_
                      refine lv_bipush (v := (nI 40)) X.1 X.2.1 d_Ha_compress_224 (by decide) ?_
                      refine lv_icmp_ge (tgt := 243) X.1 X.2.1 d_Ha_compress_226 (by decide) (fun c1202 => ?_) (fun c1202 => ?_)
                      · skip
                        rw [nI_leI (by omega) (by omega)] at c1202
                        refine lv_iload X.1 X.2.1 d_Ha_compress_243 (lv_at hl 0 rfl) ?_
                        refine lv_bipush (v := (nI 60)) X.1 X.2.1 d_Ha_compress_245 (by decide) ?_
                        refine lv_icmp_ge (tgt := 271) X.1 X.2.1 d_Ha_compress_247 (by decide) (fun c1203 => ?_) (fun c1203 => ?_)
                        · skip
                          rw [nI_leI (by omega) (by omega)] at c1203
                          refine lv_iload_n X.1 X.2.1 d_Ha_compress_271 rfl (lv_at hl 4 rfl) ?_
                          refine lv_iload_n X.1 X.2.1 d_Ha_compress_272 rfl (lv_at hl 3 rfl) ?_
                          refine lv_ixor X.1 X.2.1 d_Ha_compress_273 ?_
                          refine t_any (fun v1204 => ?_)
                          refine lv_iload X.1 X.2.1 d_Ha_compress_274 (lv_at hl 2 rfl) ?_
                          refine lv_ixor X.1 X.2.1 d_Ha_compress_276 ?_
                          refine t_any (fun v1205 => ?_)
                          refine lv_ldc (v := (-899497514)) X.1 X.2.1 X.2.2.2.1 (X.2.2.1 _ cn_Ha_60) d_Ha_compress_277 ?_
                          refine lv_iadd X.1 X.2.1 d_Ha_compress_279 ?_
                          refine t_any (fun v1206 => ?_)
                          refine lv_istore (lv' := [(7, .int v1206), (6, .int (nI i)), (5, .int x1005), (4, .int x1004), (3, .int x1003), (2, .int x1002), (1, .int x1001), (0, .ref o)]) X.1 X.2.1 d_Ha_compress_280 hl (by decide) rfl (fun ls hl => ?_)
                          refine lv_iload_n X.1 X.2.1 d_Ha_compress_282 rfl (lv_at hl 6 rfl) ?_
                          refine lv_iconst (v := (nI 5)) X.1 X.2.1 d_Ha_compress_283 (by decide) ?_
                          refine lv_ishl X.1 X.2.1 d_Ha_compress_284 ?_
                          refine t_any (fun v1207 => ?_)
                          refine lv_iload_n X.1 X.2.1 d_Ha_compress_285 rfl (lv_at hl 6 rfl) ?_
                          refine lv_bipush (v := (nI 27)) X.1 X.2.1 d_Ha_compress_286 (by decide) ?_
                          obtain ⟨v1208, ev1208⟩ : ∃ z : Int32, ((x1001 : Int32).toUInt32 >>> (((nI 27) : Int32).toUInt32 &&& Int32.toUInt32 31)).toInt32 = z := ⟨_, rfl⟩
                          refine lv_iushr (v := v1208) X.1 X.2.1 d_Ha_compress_288 ev1208 ?_
                          refine lv_ior X.1 X.2.1 d_Ha_compress_289 ?_
                          refine t_any (fun v1209 => ?_)
                          refine lv_iload X.1 X.2.1 d_Ha_compress_290 (lv_at hl 0 rfl) ?_
                          refine lv_iadd X.1 X.2.1 d_Ha_compress_292 ?_
                          refine t_any (fun v1210 => ?_)
                          refine lv_iload X.1 X.2.1 d_Ha_compress_293 (lv_at hl 2 rfl) ?_
                          refine lv_iadd X.1 X.2.1 d_Ha_compress_295 ?_
                          refine t_any (fun v1211 => ?_)
                          refine lv_aload_n X.1 X.2.1 d_Ha_compress_296 rfl (lv_at hl 7 rfl) ?_
                          refine q_get X.1 X.2.1 X.2.2.1 i_Ha X.2.2.2.1 X.2.2.2.2 Y m_o e992 rfl 0 (by decide) (X.2.2.1 _ lk_Ha_7) (fun _ h9 => h9) rfl d_Ha_compress_297 ?_
                          refine lv_iload X.1 X.2.1 d_Ha_compress_300 (lv_at hl 1 rfl) ?_
                          refine q_iald X.1 X.2.1 X.2.2.2.2 Y 1 m_wd e993 rfl (vp_in_nI (by omega) (by omega)) d_Ha_compress_302 ?_
                          refine t_any (fun v1212 => ?_)
                          refine lv_iadd X.1 X.2.1 d_Ha_compress_303 ?_
                          refine t_any (fun v1213 => ?_)
                          refine lv_istore (lv' := [(8, .int v1213), (7, .int v1206), (6, .int (nI i)), (5, .int x1005), (4, .int x1004), (3, .int x1003), (2, .int x1002), (1, .int x1001), (0, .ref o)]) X.1 X.2.1 d_Ha_compress_304 hl (by decide) rfl (fun ls hl => ?_)
                          refine lv_iload X.1 X.2.1 d_Ha_compress_306 (lv_at hl 4 rfl) ?_
                          refine lv_istore (lv' := [(5, .int x1004), (8, .int v1213), (7, .int v1206), (6, .int (nI i)), (4, .int x1004), (3, .int x1003), (2, .int x1002), (1, .int x1001), (0, .ref o)]) X.1 X.2.1 d_Ha_compress_308 hl (by decide) rfl (fun ls hl => ?_)
                          refine lv_iload_n X.1 X.2.1 d_Ha_compress_310 rfl (lv_at hl 5 rfl) ?_
                          refine lv_istore (lv' := [(4, .int x1003), (5, .int x1004), (8, .int v1213), (7, .int v1206), (6, .int (nI i)), (3, .int x1003), (2, .int x1002), (1, .int x1001), (0, .ref o)]) X.1 X.2.1 d_Ha_compress_311 hl (by decide) rfl (fun ls hl => ?_)
                          refine lv_iload_n X.1 X.2.1 d_Ha_compress_313 rfl (lv_at hl 6 rfl) ?_
                          refine lv_bipush (v := (nI 30)) X.1 X.2.1 d_Ha_compress_314 (by decide) ?_
                          refine lv_ishl X.1 X.2.1 d_Ha_compress_316 ?_
                          refine t_any (fun v1214 => ?_)
                          refine lv_iload_n X.1 X.2.1 d_Ha_compress_317 rfl (lv_at hl 6 rfl) ?_
                          refine lv_iconst (v := (nI 2)) X.1 X.2.1 d_Ha_compress_318 (by decide) ?_
                          obtain ⟨v1215, ev1215⟩ : ∃ z : Int32, ((x1002 : Int32).toUInt32 >>> (((nI 2) : Int32).toUInt32 &&& Int32.toUInt32 31)).toInt32 = z := ⟨_, rfl⟩
                          refine lv_iushr (v := v1215) X.1 X.2.1 d_Ha_compress_319 ev1215 ?_
                          refine lv_ior X.1 X.2.1 d_Ha_compress_320 ?_
                          refine t_any (fun v1216 => ?_)
                          refine lv_istore_n (lv' := [(3, .int v1216), (4, .int x1003), (5, .int x1004), (8, .int v1213), (7, .int v1206), (6, .int (nI i)), (2, .int x1002), (1, .int x1001), (0, .ref o)]) X.1 X.2.1 d_Ha_compress_321 rfl hl (by decide) rfl (fun ls hl => ?_)
                          refine lv_iload_n X.1 X.2.1 d_Ha_compress_322 rfl (lv_at hl 7 rfl) ?_
                          refine lv_istore_n (lv' := [(2, .int x1001), (3, .int v1216), (4, .int x1003), (5, .int x1004), (8, .int v1213), (7, .int v1206), (6, .int (nI i)), (1, .int x1001), (0, .ref o)]) X.1 X.2.1 d_Ha_compress_323 rfl hl (by decide) rfl (fun ls hl => ?_)
                          refine lv_iload X.1 X.2.1 d_Ha_compress_324 (lv_at hl 4 rfl) ?_
                          refine lv_istore_n (lv' := [(1, .int v1213), (2, .int x1001), (3, .int v1216), (4, .int x1003), (5, .int x1004), (8, .int v1213), (7, .int v1206), (6, .int (nI i)), (0, .ref o)]) X.1 X.2.1 d_Ha_compress_326 rfl hl (by decide) rfl (fun ls hl => ?_)
                          refine lv_iinc (v := (nI (i + 1))) (lv' := [(6, .int (nI (i + 1))), (1, .int v1213), (2, .int x1001), (3, .int v1216), (4, .int x1003), (5, .int x1004), (8, .int v1213), (7, .int v1206), (0, .ref o)]) X.1 X.2.1 d_Ha_compress_327 hl (k := 7) rfl (nI_add _ 1) (by decide) rfl (fun ls hl => ?_)
                          refine lv_goto (tgt := 190) X.1 X.2.1 d_Ha_compress_330 (by decide) ?_
                          exact ih989  (i + 1)  (v1213) (x1001) (v1216) (x1003) (x1004) g994 g997 f990 _ _ _ (by omega) (by omega) (by omega)  e992 e993 e995 e996 e998 e999 e1000 hF991 Y (lv_sub hl [0, 5, 4, 3, 2, 1, 8] rfl)
                        · skip
                          rw [nI_leI (by omega) (by omega)] at c1203
                          refine lv_iload_n X.1 X.2.1 d_Ha_compress_250 rfl (lv_at hl 4 rfl) ?_
                          refine lv_iload_n X.1 X.2.1 d_Ha_compress_251 rfl (lv_at hl 3 rfl) ?_
                          refine lv_iand X.1 X.2.1 d_Ha_compress_252 ?_
                          refine t_any (fun v1217 => ?_)
                          refine lv_iload_n X.1 X.2.1 d_Ha_compress_253 rfl (lv_at hl 4 rfl) ?_
                          refine lv_iload X.1 X.2.1 d_Ha_compress_254 (lv_at hl 2 rfl) ?_
                          refine lv_iand X.1 X.2.1 d_Ha_compress_256 ?_
                          refine t_any (fun v1218 => ?_)
                          refine lv_ior X.1 X.2.1 d_Ha_compress_257 ?_
                          refine t_any (fun v1219 => ?_)
                          refine lv_iload_n X.1 X.2.1 d_Ha_compress_258 rfl (lv_at hl 3 rfl) ?_
                          refine lv_iload X.1 X.2.1 d_Ha_compress_259 (lv_at hl 2 rfl) ?_
                          refine lv_iand X.1 X.2.1 d_Ha_compress_261 ?_
                          refine t_any (fun v1220 => ?_)
                          refine lv_ior X.1 X.2.1 d_Ha_compress_262 ?_
                          refine t_any (fun v1221 => ?_)
                          refine lv_ldc (v := (-1894007588)) X.1 X.2.1 X.2.2.2.1 (X.2.2.1 _ cn_Ha_59) d_Ha_compress_263 ?_
                          refine lv_iadd X.1 X.2.1 d_Ha_compress_265 ?_
                          refine t_any (fun v1222 => ?_)
                          refine lv_istore (lv' := [(7, .int v1222), (6, .int (nI i)), (5, .int x1005), (4, .int x1004), (3, .int x1003), (2, .int x1002), (1, .int x1001), (0, .ref o)]) X.1 X.2.1 d_Ha_compress_266 hl (by decide) rfl (fun ls hl => ?_)
                          refine lv_goto (tgt := 282) X.1 X.2.1 d_Ha_compress_268 (by decide) ?_
                          refine lv_iload_n X.1 X.2.1 d_Ha_compress_282 rfl (lv_at hl 6 rfl) ?_
                          refine lv_iconst (v := (nI 5)) X.1 X.2.1 d_Ha_compress_283 (by decide) ?_
                          refine lv_ishl X.1 X.2.1 d_Ha_compress_284 ?_
                          refine t_any (fun v1223 => ?_)
                          refine lv_iload_n X.1 X.2.1 d_Ha_compress_285 rfl (lv_at hl 6 rfl) ?_
                          refine lv_bipush (v := (nI 27)) X.1 X.2.1 d_Ha_compress_286 (by decide) ?_
                          obtain ⟨v1224, ev1224⟩ : ∃ z : Int32, ((x1001 : Int32).toUInt32 >>> (((nI 27) : Int32).toUInt32 &&& Int32.toUInt32 31)).toInt32 = z := ⟨_, rfl⟩
                          refine lv_iushr (v := v1224) X.1 X.2.1 d_Ha_compress_288 ev1224 ?_
                          refine lv_ior X.1 X.2.1 d_Ha_compress_289 ?_
                          refine t_any (fun v1225 => ?_)
                          refine lv_iload X.1 X.2.1 d_Ha_compress_290 (lv_at hl 0 rfl) ?_
                          refine lv_iadd X.1 X.2.1 d_Ha_compress_292 ?_
                          refine t_any (fun v1226 => ?_)
                          refine lv_iload X.1 X.2.1 d_Ha_compress_293 (lv_at hl 2 rfl) ?_
                          refine lv_iadd X.1 X.2.1 d_Ha_compress_295 ?_
                          refine t_any (fun v1227 => ?_)
                          refine lv_aload_n X.1 X.2.1 d_Ha_compress_296 rfl (lv_at hl 7 rfl) ?_
                          refine q_get X.1 X.2.1 X.2.2.1 i_Ha X.2.2.2.1 X.2.2.2.2 Y m_o e992 rfl 0 (by decide) (X.2.2.1 _ lk_Ha_7) (fun _ h9 => h9) rfl d_Ha_compress_297 ?_
                          refine lv_iload X.1 X.2.1 d_Ha_compress_300 (lv_at hl 1 rfl) ?_
                          refine q_iald X.1 X.2.1 X.2.2.2.2 Y 1 m_wd e993 rfl (vp_in_nI (by omega) (by omega)) d_Ha_compress_302 ?_
                          refine t_any (fun v1228 => ?_)
                          refine lv_iadd X.1 X.2.1 d_Ha_compress_303 ?_
                          refine t_any (fun v1229 => ?_)
                          refine lv_istore (lv' := [(8, .int v1229), (7, .int v1222), (6, .int (nI i)), (5, .int x1005), (4, .int x1004), (3, .int x1003), (2, .int x1002), (1, .int x1001), (0, .ref o)]) X.1 X.2.1 d_Ha_compress_304 hl (by decide) rfl (fun ls hl => ?_)
                          refine lv_iload X.1 X.2.1 d_Ha_compress_306 (lv_at hl 4 rfl) ?_
                          refine lv_istore (lv' := [(5, .int x1004), (8, .int v1229), (7, .int v1222), (6, .int (nI i)), (4, .int x1004), (3, .int x1003), (2, .int x1002), (1, .int x1001), (0, .ref o)]) X.1 X.2.1 d_Ha_compress_308 hl (by decide) rfl (fun ls hl => ?_)
                          refine lv_iload_n X.1 X.2.1 d_Ha_compress_310 rfl (lv_at hl 5 rfl) ?_
                          refine lv_istore (lv' := [(4, .int x1003), (5, .int x1004), (8, .int v1229), (7, .int v1222), (6, .int (nI i)), (3, .int x1003), (2, .int x1002), (1, .int x1001), (0, .ref o)]) X.1 X.2.1 d_Ha_compress_311 hl (by decide) rfl (fun ls hl => ?_)
                          refine lv_iload_n X.1 X.2.1 d_Ha_compress_313 rfl (lv_at hl 6 rfl) ?_
                          refine lv_bipush (v := (nI 30)) X.1 X.2.1 d_Ha_compress_314 (by decide) ?_
                          refine lv_ishl X.1 X.2.1 d_Ha_compress_316 ?_
                          refine t_any (fun v1230 => ?_)
                          refine lv_iload_n X.1 X.2.1 d_Ha_compress_317 rfl (lv_at hl 6 rfl) ?_
                          refine lv_iconst (v := (nI 2)) X.1 X.2.1 d_Ha_compress_318 (by decide) ?_
                          obtain ⟨v1231, ev1231⟩ : ∃ z : Int32, ((x1002 : Int32).toUInt32 >>> (((nI 2) : Int32).toUInt32 &&& Int32.toUInt32 31)).toInt32 = z := ⟨_, rfl⟩
                          refine lv_iushr (v := v1231) X.1 X.2.1 d_Ha_compress_319 ev1231 ?_
                          refine lv_ior X.1 X.2.1 d_Ha_compress_320 ?_
                          refine t_any (fun v1232 => ?_)
                          refine lv_istore_n (lv' := [(3, .int v1232), (4, .int x1003), (5, .int x1004), (8, .int v1229), (7, .int v1222), (6, .int (nI i)), (2, .int x1002), (1, .int x1001), (0, .ref o)]) X.1 X.2.1 d_Ha_compress_321 rfl hl (by decide) rfl (fun ls hl => ?_)
                          refine lv_iload_n X.1 X.2.1 d_Ha_compress_322 rfl (lv_at hl 7 rfl) ?_
                          refine lv_istore_n (lv' := [(2, .int x1001), (3, .int v1232), (4, .int x1003), (5, .int x1004), (8, .int v1229), (7, .int v1222), (6, .int (nI i)), (1, .int x1001), (0, .ref o)]) X.1 X.2.1 d_Ha_compress_323 rfl hl (by decide) rfl (fun ls hl => ?_)
                          refine lv_iload X.1 X.2.1 d_Ha_compress_324 (lv_at hl 4 rfl) ?_
                          refine lv_istore_n (lv' := [(1, .int v1229), (2, .int x1001), (3, .int v1232), (4, .int x1003), (5, .int x1004), (8, .int v1229), (7, .int v1222), (6, .int (nI i)), (0, .ref o)]) X.1 X.2.1 d_Ha_compress_326 rfl hl (by decide) rfl (fun ls hl => ?_)
                          refine lv_iinc (v := (nI (i + 1))) (lv' := [(6, .int (nI (i + 1))), (1, .int v1229), (2, .int x1001), (3, .int v1232), (4, .int x1003), (5, .int x1004), (8, .int v1229), (7, .int v1222), (0, .ref o)]) X.1 X.2.1 d_Ha_compress_327 hl (k := 7) rfl (nI_add _ 1) (by decide) rfl (fun ls hl => ?_)
                          refine lv_goto (tgt := 190) X.1 X.2.1 d_Ha_compress_330 (by decide) ?_
                          exact ih989  (i + 1)  (v1229) (x1001) (v1232) (x1003) (x1004) g994 g997 f990 _ _ _ (by omega) (by omega) (by omega)  e992 e993 e995 e996 e998 e999 e1000 hF991 Y (lv_sub hl [0, 5, 4, 3, 2, 1, 8] rfl)
                      · skip
                        rw [nI_leI (by omega) (by omega)] at c1202
                        refine lv_iload_n X.1 X.2.1 d_Ha_compress_229 rfl (lv_at hl 4 rfl) ?_
                        refine lv_iload_n X.1 X.2.1 d_Ha_compress_230 rfl (lv_at hl 3 rfl) ?_
                        refine lv_ixor X.1 X.2.1 d_Ha_compress_231 ?_
                        refine t_any (fun v1233 => ?_)
                        refine lv_iload X.1 X.2.1 d_Ha_compress_232 (lv_at hl 2 rfl) ?_
                        refine lv_ixor X.1 X.2.1 d_Ha_compress_234 ?_
                        refine t_any (fun v1234 => ?_)
                        refine lv_ldc (v := (1859775393)) X.1 X.2.1 X.2.2.2.1 (X.2.2.1 _ cn_Ha_58) d_Ha_compress_235 ?_
                        refine t_eq (y := nI 1859775393) (by decide) ?_
                        refine lv_iadd X.1 X.2.1 d_Ha_compress_237 ?_
                        refine t_any (fun v1235 => ?_)
                        refine lv_istore (lv' := [(7, .int v1235), (6, .int (nI i)), (5, .int x1005), (4, .int x1004), (3, .int x1003), (2, .int x1002), (1, .int x1001), (0, .ref o)]) X.1 X.2.1 d_Ha_compress_238 hl (by decide) rfl (fun ls hl => ?_)
                        refine lv_goto (tgt := 282) X.1 X.2.1 d_Ha_compress_240 (by decide) ?_
                        refine lv_iload_n X.1 X.2.1 d_Ha_compress_282 rfl (lv_at hl 6 rfl) ?_
                        refine lv_iconst (v := (nI 5)) X.1 X.2.1 d_Ha_compress_283 (by decide) ?_
                        refine lv_ishl X.1 X.2.1 d_Ha_compress_284 ?_
                        refine t_any (fun v1236 => ?_)
                        refine lv_iload_n X.1 X.2.1 d_Ha_compress_285 rfl (lv_at hl 6 rfl) ?_
                        refine lv_bipush (v := (nI 27)) X.1 X.2.1 d_Ha_compress_286 (by decide) ?_
                        obtain ⟨v1237, ev1237⟩ : ∃ z : Int32, ((x1001 : Int32).toUInt32 >>> (((nI 27) : Int32).toUInt32 &&& Int32.toUInt32 31)).toInt32 = z := ⟨_, rfl⟩
                        refine lv_iushr (v := v1237) X.1 X.2.1 d_Ha_compress_288 ev1237 ?_
                        refine lv_ior X.1 X.2.1 d_Ha_compress_289 ?_
                        refine t_any (fun v1238 => ?_)
                        refine lv_iload X.1 X.2.1 d_Ha_compress_290 (lv_at hl 0 rfl) ?_
                        refine lv_iadd X.1 X.2.1 d_Ha_compress_292 ?_
                        refine t_any (fun v1239 => ?_)
                        refine lv_iload X.1 X.2.1 d_Ha_compress_293 (lv_at hl 2 rfl) ?_
                        refine lv_iadd X.1 X.2.1 d_Ha_compress_295 ?_
                        refine t_any (fun v1240 => ?_)
                        refine lv_aload_n X.1 X.2.1 d_Ha_compress_296 rfl (lv_at hl 7 rfl) ?_
                        refine q_get X.1 X.2.1 X.2.2.1 i_Ha X.2.2.2.1 X.2.2.2.2 Y m_o e992 rfl 0 (by decide) (X.2.2.1 _ lk_Ha_7) (fun _ h9 => h9) rfl d_Ha_compress_297 ?_
                        refine lv_iload X.1 X.2.1 d_Ha_compress_300 (lv_at hl 1 rfl) ?_
                        refine q_iald X.1 X.2.1 X.2.2.2.2 Y 1 m_wd e993 rfl (vp_in_nI (by omega) (by omega)) d_Ha_compress_302 ?_
                        refine t_any (fun v1241 => ?_)
                        refine lv_iadd X.1 X.2.1 d_Ha_compress_303 ?_
                        refine t_any (fun v1242 => ?_)
                        refine lv_istore (lv' := [(8, .int v1242), (7, .int v1235), (6, .int (nI i)), (5, .int x1005), (4, .int x1004), (3, .int x1003), (2, .int x1002), (1, .int x1001), (0, .ref o)]) X.1 X.2.1 d_Ha_compress_304 hl (by decide) rfl (fun ls hl => ?_)
                        refine lv_iload X.1 X.2.1 d_Ha_compress_306 (lv_at hl 4 rfl) ?_
                        refine lv_istore (lv' := [(5, .int x1004), (8, .int v1242), (7, .int v1235), (6, .int (nI i)), (4, .int x1004), (3, .int x1003), (2, .int x1002), (1, .int x1001), (0, .ref o)]) X.1 X.2.1 d_Ha_compress_308 hl (by decide) rfl (fun ls hl => ?_)
                        refine lv_iload_n X.1 X.2.1 d_Ha_compress_310 rfl (lv_at hl 5 rfl) ?_
                        refine lv_istore (lv' := [(4, .int x1003), (5, .int x1004), (8, .int v1242), (7, .int v1235), (6, .int (nI i)), (3, .int x1003), (2, .int x1002), (1, .int x1001), (0, .ref o)]) X.1 X.2.1 d_Ha_compress_311 hl (by decide) rfl (fun ls hl => ?_)
                        refine lv_iload_n X.1 X.2.1 d_Ha_compress_313 rfl (lv_at hl 6 rfl) ?_
                        refine lv_bipush (v := (nI 30)) X.1 X.2.1 d_Ha_compress_314 (by decide) ?_
                        refine lv_ishl X.1 X.2.1 d_Ha_compress_316 ?_
                        refine t_any (fun v1243 => ?_)
                        refine lv_iload_n X.1 X.2.1 d_Ha_compress_317 rfl (lv_at hl 6 rfl) ?_
                        refine lv_iconst (v := (nI 2)) X.1 X.2.1 d_Ha_compress_318 (by decide) ?_
                        obtain ⟨v1244, ev1244⟩ : ∃ z : Int32, ((x1002 : Int32).toUInt32 >>> (((nI 2) : Int32).toUInt32 &&& Int32.toUInt32 31)).toInt32 = z := ⟨_, rfl⟩
                        refine lv_iushr (v := v1244) X.1 X.2.1 d_Ha_compress_319 ev1244 ?_
                        refine lv_ior X.1 X.2.1 d_Ha_compress_320 ?_
                        refine t_any (fun v1245 => ?_)
                        refine lv_istore_n (lv' := [(3, .int v1245), (4, .int x1003), (5, .int x1004), (8, .int v1242), (7, .int v1235), (6, .int (nI i)), (2, .int x1002), (1, .int x1001), (0, .ref o)]) X.1 X.2.1 d_Ha_compress_321 rfl hl (by decide) rfl (fun ls hl => ?_)
                        refine lv_iload_n X.1 X.2.1 d_Ha_compress_322 rfl (lv_at hl 7 rfl) ?_
                        refine lv_istore_n (lv' := [(2, .int x1001), (3, .int v1245), (4, .int x1003), (5, .int x1004), (8, .int v1242), (7, .int v1235), (6, .int (nI i)), (1, .int x1001), (0, .ref o)]) X.1 X.2.1 d_Ha_compress_323 rfl hl (by decide) rfl (fun ls hl => ?_)
                        refine lv_iload X.1 X.2.1 d_Ha_compress_324 (lv_at hl 4 rfl) ?_
                        refine lv_istore_n (lv' := [(1, .int v1242), (2, .int x1001), (3, .int v1245), (4, .int x1003), (5, .int x1004), (8, .int v1242), (7, .int v1235), (6, .int (nI i)), (0, .ref o)]) X.1 X.2.1 d_Ha_compress_326 rfl hl (by decide) rfl (fun ls hl => ?_)
                        refine lv_iinc (v := (nI (i + 1))) (lv' := [(6, .int (nI (i + 1))), (1, .int v1242), (2, .int x1001), (3, .int v1245), (4, .int x1003), (5, .int x1004), (8, .int v1242), (7, .int v1235), (0, .ref o)]) X.1 X.2.1 d_Ha_compress_327 hl (k := 7) rfl (nI_add _ 1) (by decide) rfl (fun ls hl => ?_)
                        refine lv_goto (tgt := 190) X.1 X.2.1 d_Ha_compress_330 (by decide) ?_
                        exact ih989  (i + 1)  (v1242) (x1001) (v1245) (x1003) (x1004) g994 g997 f990 _ _ _ (by omega) (by omega) (by omega)  e992 e993 e995 e996 e998 e999 e1000 hF991 Y (lv_sub hl [0, 5, 4, 3, 2, 1, 8] rfl)
                    · skip
                      rw [nI_leI (by omega) (by omega)] at c1201
                      refine lv_iload_n X.1 X.2.1 d_Ha_compress_204 rfl (lv_at hl 4 rfl) ?_
                      refine lv_iload_n X.1 X.2.1 d_Ha_compress_205 rfl (lv_at hl 3 rfl) ?_
                      refine lv_iand X.1 X.2.1 d_Ha_compress_206 ?_
                      refine t_any (fun v1246 => ?_)
                      refine lv_iload_n X.1 X.2.1 d_Ha_compress_207 rfl (lv_at hl 4 rfl) ?_
                      refine lv_iconst (v := (-1)) X.1 X.2.1 d_Ha_compress_208 (by decide) ?_
                      refine lv_ixor X.1 X.2.1 d_Ha_compress_209 ?_
                      refine t_any (fun v1247 => ?_)
                      refine lv_iload X.1 X.2.1 d_Ha_compress_210 (lv_at hl 2 rfl) ?_
                      refine lv_iand X.1 X.2.1 d_Ha_compress_212 ?_
                      refine t_any (fun v1248 => ?_)
                      refine lv_ior X.1 X.2.1 d_Ha_compress_213 ?_
                      refine t_any (fun v1249 => ?_)
                      refine lv_ldc (v := (1518500249)) X.1 X.2.1 X.2.2.2.1 (X.2.2.1 _ cn_Ha_57) d_Ha_compress_214 ?_
                      refine t_eq (y := nI 1518500249) (by decide) ?_
                      refine lv_iadd X.1 X.2.1 d_Ha_compress_216 ?_
                      refine t_any (fun v1250 => ?_)
                      refine lv_istore (lv' := [(7, .int v1250), (6, .int (nI i)), (5, .int x1005), (4, .int x1004), (3, .int x1003), (2, .int x1002), (1, .int x1001), (0, .ref o)]) X.1 X.2.1 d_Ha_compress_217 hl (by decide) rfl (fun ls hl => ?_)
                      refine lv_goto (tgt := 282) X.1 X.2.1 d_Ha_compress_219 (by decide) ?_
                      refine lv_iload_n X.1 X.2.1 d_Ha_compress_282 rfl (lv_at hl 6 rfl) ?_
                      refine lv_iconst (v := (nI 5)) X.1 X.2.1 d_Ha_compress_283 (by decide) ?_
                      refine lv_ishl X.1 X.2.1 d_Ha_compress_284 ?_
                      refine t_any (fun v1251 => ?_)
                      refine lv_iload_n X.1 X.2.1 d_Ha_compress_285 rfl (lv_at hl 6 rfl) ?_
                      refine lv_bipush (v := (nI 27)) X.1 X.2.1 d_Ha_compress_286 (by decide) ?_
                      obtain ⟨v1252, ev1252⟩ : ∃ z : Int32, ((x1001 : Int32).toUInt32 >>> (((nI 27) : Int32).toUInt32 &&& Int32.toUInt32 31)).toInt32 = z := ⟨_, rfl⟩
                      refine lv_iushr (v := v1252) X.1 X.2.1 d_Ha_compress_288 ev1252 ?_
                      refine lv_ior X.1 X.2.1 d_Ha_compress_289 ?_
                      refine t_any (fun v1253 => ?_)
                      refine lv_iload X.1 X.2.1 d_Ha_compress_290 (lv_at hl 0 rfl) ?_
                      refine lv_iadd X.1 X.2.1 d_Ha_compress_292 ?_
                      refine t_any (fun v1254 => ?_)
                      refine lv_iload X.1 X.2.1 d_Ha_compress_293 (lv_at hl 2 rfl) ?_
                      refine lv_iadd X.1 X.2.1 d_Ha_compress_295 ?_
                      refine t_any (fun v1255 => ?_)
                      refine lv_aload_n X.1 X.2.1 d_Ha_compress_296 rfl (lv_at hl 7 rfl) ?_
                      refine q_get X.1 X.2.1 X.2.2.1 i_Ha X.2.2.2.1 X.2.2.2.2 Y m_o e992 rfl 0 (by decide) (X.2.2.1 _ lk_Ha_7) (fun _ h9 => h9) rfl d_Ha_compress_297 ?_
                      refine lv_iload X.1 X.2.1 d_Ha_compress_300 (lv_at hl 1 rfl) ?_
                      refine q_iald X.1 X.2.1 X.2.2.2.2 Y 1 m_wd e993 rfl (vp_in_nI (by omega) (by omega)) d_Ha_compress_302 ?_
                      refine t_any (fun v1256 => ?_)
                      refine lv_iadd X.1 X.2.1 d_Ha_compress_303 ?_
                      refine t_any (fun v1257 => ?_)
                      refine lv_istore (lv' := [(8, .int v1257), (7, .int v1250), (6, .int (nI i)), (5, .int x1005), (4, .int x1004), (3, .int x1003), (2, .int x1002), (1, .int x1001), (0, .ref o)]) X.1 X.2.1 d_Ha_compress_304 hl (by decide) rfl (fun ls hl => ?_)
                      refine lv_iload X.1 X.2.1 d_Ha_compress_306 (lv_at hl 4 rfl) ?_
                      refine lv_istore (lv' := [(5, .int x1004), (8, .int v1257), (7, .int v1250), (6, .int (nI i)), (4, .int x1004), (3, .int x1003), (2, .int x1002), (1, .int x1001), (0, .ref o)]) X.1 X.2.1 d_Ha_compress_308 hl (by decide) rfl (fun ls hl => ?_)
                      refine lv_iload_n X.1 X.2.1 d_Ha_compress_310 rfl (lv_at hl 5 rfl) ?_
                      refine lv_istore (lv' := [(4, .int x1003), (5, .int x1004), (8, .int v1257), (7, .int v1250), (6, .int (nI i)), (3, .int x1003), (2, .int x1002), (1, .int x1001), (0, .ref o)]) X.1 X.2.1 d_Ha_compress_311 hl (by decide) rfl (fun ls hl => ?_)
                      refine lv_iload_n X.1 X.2.1 d_Ha_compress_313 rfl (lv_at hl 6 rfl) ?_
                      refine lv_bipush (v := (nI 30)) X.1 X.2.1 d_Ha_compress_314 (by decide) ?_
                      refine lv_ishl X.1 X.2.1 d_Ha_compress_316 ?_
                      refine t_any (fun v1258 => ?_)
                      refine lv_iload_n X.1 X.2.1 d_Ha_compress_317 rfl (lv_at hl 6 rfl) ?_
                      refine lv_iconst (v := (nI 2)) X.1 X.2.1 d_Ha_compress_318 (by decide) ?_
                      obtain ⟨v1259, ev1259⟩ : ∃ z : Int32, ((x1002 : Int32).toUInt32 >>> (((nI 2) : Int32).toUInt32 &&& Int32.toUInt32 31)).toInt32 = z := ⟨_, rfl⟩
                      refine lv_iushr (v := v1259) X.1 X.2.1 d_Ha_compress_319 ev1259 ?_
                      refine lv_ior X.1 X.2.1 d_Ha_compress_320 ?_
                      refine t_any (fun v1260 => ?_)
                      refine lv_istore_n (lv' := [(3, .int v1260), (4, .int x1003), (5, .int x1004), (8, .int v1257), (7, .int v1250), (6, .int (nI i)), (2, .int x1002), (1, .int x1001), (0, .ref o)]) X.1 X.2.1 d_Ha_compress_321 rfl hl (by decide) rfl (fun ls hl => ?_)
                      refine lv_iload_n X.1 X.2.1 d_Ha_compress_322 rfl (lv_at hl 7 rfl) ?_
                      refine lv_istore_n (lv' := [(2, .int x1001), (3, .int v1260), (4, .int x1003), (5, .int x1004), (8, .int v1257), (7, .int v1250), (6, .int (nI i)), (1, .int x1001), (0, .ref o)]) X.1 X.2.1 d_Ha_compress_323 rfl hl (by decide) rfl (fun ls hl => ?_)
                      refine lv_iload X.1 X.2.1 d_Ha_compress_324 (lv_at hl 4 rfl) ?_
                      refine lv_istore_n (lv' := [(1, .int v1257), (2, .int x1001), (3, .int v1260), (4, .int x1003), (5, .int x1004), (8, .int v1257), (7, .int v1250), (6, .int (nI i)), (0, .ref o)]) X.1 X.2.1 d_Ha_compress_326 rfl hl (by decide) rfl (fun ls hl => ?_)
                      refine lv_iinc (v := (nI (i + 1))) (lv' := [(6, .int (nI (i + 1))), (1, .int v1257), (2, .int x1001), (3, .int v1260), (4, .int x1003), (5, .int x1004), (8, .int v1257), (7, .int v1250), (0, .ref o)]) X.1 X.2.1 d_Ha_compress_327 hl (k := 7) rfl (nI_add _ 1) (by decide) rfl (fun ls hl => ?_)
                      refine lv_goto (tgt := 190) X.1 X.2.1 d_Ha_compress_330 (by decide) ?_
                      exact ih989  (i + 1)  (v1257) (x1001) (v1260) (x1003) (x1004) g994 g997 f990 _ _ _ (by omega) (by omega) (by omega)  e992 e993 e995 e996 e998 e999 e1000 hF991 Y (lv_sub hl [0, 5, 4, 3, 2, 1, 8] rfl)
              exact lp987 (80) (0)  (v982) (v983) (v984) (v985) (v986) g670 g673 f666 _ _ _ (by omega) (by omega) (by omega)  e668 e669 e671 e672 e674 e675 e676 hF667 Y (lv_sub hl [0, 1, 2, 3, 4, 5, 6] rfl)
            · skip
              rw [nI_leI (by omega) (by omega)] at c981
              refine lv_aload_n X.1 X.2.1 d_Ha_compress_91 rfl (lv_at hl 1 rfl) ?_
              refine q_get X.1 X.2.1 X.2.2.1 i_Ha X.2.2.2.1 X.2.2.2.2 Y m_o e668 rfl 0 (by decide) (X.2.2.1 _ lk_Ha_7) (fun _ h9 => h9) rfl d_Ha_compress_92 ?_
              refine lv_iload_n X.1 X.2.1 d_Ha_compress_95 rfl (lv_at hl 0 rfl) ?_
              refine lv_iconst (v := (nI 3)) X.1 X.2.1 d_Ha_compress_96 (by decide) ?_
              refine lv_isub X.1 X.2.1 d_Ha_compress_97 ?_
              refine t_eq (y := nI (i - (3))) (pk_sub (by omega)) ?_
              refine q_iald X.1 X.2.1 X.2.2.2.2 Y 1 m_wd e669 rfl (vp_in_nI (by omega) (by omega)) d_Ha_compress_98 ?_
              refine t_any (fun v1261 => ?_)
              refine lv_aload_n X.1 X.2.1 d_Ha_compress_99 rfl (lv_at hl 1 rfl) ?_
              refine q_get X.1 X.2.1 X.2.2.1 i_Ha X.2.2.2.1 X.2.2.2.2 Y m_o e668 rfl 0 (by decide) (X.2.2.1 _ lk_Ha_7) (fun _ h9 => h9) rfl d_Ha_compress_100 ?_
              refine lv_iload_n X.1 X.2.1 d_Ha_compress_103 rfl (lv_at hl 0 rfl) ?_
              refine lv_bipush (v := (nI 8)) X.1 X.2.1 d_Ha_compress_104 (by decide) ?_
              refine lv_isub X.1 X.2.1 d_Ha_compress_106 ?_
              refine t_eq (y := nI (i - (8))) (pk_sub (by omega)) ?_
              refine q_iald X.1 X.2.1 X.2.2.2.2 Y 1 m_wd e669 rfl (vp_in_nI (by omega) (by omega)) d_Ha_compress_107 ?_
              refine t_any (fun v1262 => ?_)
              refine lv_ixor X.1 X.2.1 d_Ha_compress_108 ?_
              refine t_any (fun v1263 => ?_)
              refine lv_aload_n X.1 X.2.1 d_Ha_compress_109 rfl (lv_at hl 1 rfl) ?_
              refine q_get X.1 X.2.1 X.2.2.1 i_Ha X.2.2.2.1 X.2.2.2.2 Y m_o e668 rfl 0 (by decide) (X.2.2.1 _ lk_Ha_7) (fun _ h9 => h9) rfl d_Ha_compress_110 ?_
              refine lv_iload_n X.1 X.2.1 d_Ha_compress_113 rfl (lv_at hl 0 rfl) ?_
              refine lv_bipush (v := (nI 14)) X.1 X.2.1 d_Ha_compress_114 (by decide) ?_
              refine lv_isub X.1 X.2.1 d_Ha_compress_116 ?_
              refine t_eq (y := nI (i - (14))) (pk_sub (by omega)) ?_
              refine q_iald X.1 X.2.1 X.2.2.2.2 Y 1 m_wd e669 rfl (vp_in_nI (by omega) (by omega)) d_Ha_compress_117 ?_
              refine t_any (fun v1264 => ?_)
              refine lv_ixor X.1 X.2.1 d_Ha_compress_118 ?_
              refine t_any (fun v1265 => ?_)
              refine lv_aload_n X.1 X.2.1 d_Ha_compress_119 rfl (lv_at hl 1 rfl) ?_
              refine q_get X.1 X.2.1 X.2.2.1 i_Ha X.2.2.2.1 X.2.2.2.2 Y m_o e668 rfl 0 (by decide) (X.2.2.1 _ lk_Ha_7) (fun _ h9 => h9) rfl d_Ha_compress_120 ?_
              refine lv_iload_n X.1 X.2.1 d_Ha_compress_123 rfl (lv_at hl 0 rfl) ?_
              refine lv_bipush (v := (nI 16)) X.1 X.2.1 d_Ha_compress_124 (by decide) ?_
              refine lv_isub X.1 X.2.1 d_Ha_compress_126 ?_
              refine t_eq (y := nI (i - (16))) (pk_sub (by omega)) ?_
              refine q_iald X.1 X.2.1 X.2.2.2.2 Y 1 m_wd e669 rfl (vp_in_nI (by omega) (by omega)) d_Ha_compress_127 ?_
              refine t_any (fun v1266 => ?_)
              refine lv_ixor X.1 X.2.1 d_Ha_compress_128 ?_
              refine t_any (fun v1267 => ?_)
              refine lv_istore_n (lv' := [(2, .int v1267), (1, .int (nI i)), (0, .ref o)]) X.1 X.2.1 d_Ha_compress_129 rfl hl (by decide) rfl (fun ls hl => ?_)
              refine lv_aload_n X.1 X.2.1 d_Ha_compress_130 rfl (lv_at hl 2 rfl) ?_
              refine q_get X.1 X.2.1 X.2.2.1 i_Ha X.2.2.2.1 X.2.2.2.2 Y m_o e668 rfl 0 (by decide) (X.2.2.1 _ lk_Ha_7) (fun _ h9 => h9) rfl d_Ha_compress_131 ?_
              refine lv_iload_n X.1 X.2.1 d_Ha_compress_134 rfl (lv_at hl 1 rfl) ?_
              refine lv_iload_n X.1 X.2.1 d_Ha_compress_135 rfl (lv_at hl 0 rfl) ?_
              refine lv_iconst (v := (nI 1)) X.1 X.2.1 d_Ha_compress_136 (by decide) ?_
              refine lv_ishl X.1 X.2.1 d_Ha_compress_137 ?_
              refine t_any (fun v1268 => ?_)
              refine lv_iload_n X.1 X.2.1 d_Ha_compress_138 rfl (lv_at hl 0 rfl) ?_
              refine lv_bipush (v := (nI 31)) X.1 X.2.1 d_Ha_compress_139 (by decide) ?_
              obtain ⟨v1269, ev1269⟩ : ∃ z : Int32, ((v1267 : Int32).toUInt32 >>> (((nI 31) : Int32).toUInt32 &&& Int32.toUInt32 31)).toInt32 = z := ⟨_, rfl⟩
              refine lv_iushr (v := v1269) X.1 X.2.1 d_Ha_compress_141 ev1269 ?_
              refine lv_ior X.1 X.2.1 d_Ha_compress_142 ?_
              refine t_any (fun v1270 => ?_)
              refine q_iast X.1 X.2.1 X.2.2.2.2 Y 1 m_wd e669 rfl (vp_in_nI (by omega) (by omega)) d_Ha_compress_143 (fun H locs Y => ?_)
              generalize (upd g670 ((nI i)).toNatClampNeg v1270) = g1271 at Y
              have e1274 : (va_up f666 wd (.inl (E.2.1, 80, .inl g1271))) wd = .inl (E.2.1, 80, .inl g1271) := q_up
              have e1275 : (va_up f666 wd (.inl (E.2.1, 80, .inl g1271))) o = .inr (6, [.ref wd, .ref bl, .ref sta, .ref inn, .ref out, .int (nI fl), .int tot, .ref mac]) := (q_ne (q_tag e668 e669 (show (6 : Nat) ≠ 1000 by decide))).trans e668
              have e1276 : (va_up f666 wd (.inl (E.2.1, 80, .inl g1271))) bl = .inl (E.1, 64, .inl g_bl) := (q_ne ap_wd_bl.symm).trans e671
              have e1277 : (va_up f666 wd (.inl (E.2.1, 80, .inl g1271))) sta = .inl (E.2.1, 5, .inl g673) := (q_ne ap_wd_sta.symm).trans e672
              have e1278 : (va_up f666 wd (.inl (E.2.1, 80, .inl g1271))) inn = .inl (E.2.1, 5, .inl g_inn) := (q_ne ap_wd_inn.symm).trans e674
              have e1279 : (va_up f666 wd (.inl (E.2.1, 80, .inl g1271))) out = .inl (E.2.1, 5, .inl g_out) := (q_ne ap_wd_out.symm).trans e675
              have e1280 : (va_up f666 wd (.inl (E.2.1, 80, .inl g1271))) mac = .inl (E.1, 20, .inl g_mac) := (q_ne ap_wd_mac.symm).trans e676
              have hF1281 : ∀ x, x ≠ wd → x ≠ sta → (va_up f666 wd (.inl (E.2.1, 80, .inl g1271))) x = f x := fun x h0 h1 => (q_ne h0).trans (hF667 x h0 h1)
              have Y : pH D cCl (pA L sz) s.heap L (va_up f666 wd (.inl (E.2.1, 80, .inl g1271))) H locs := Y
              generalize (va_up f666 wd (.inl (E.2.1, 80, .inl g1271))) = f1273 at Y e1274 e1275 e1276 e1277 e1278 e1279 e1280 hF1281
              refine lv_iinc (v := (nI (i + 1))) (lv' := [(1, .int (nI (i + 1))), (2, .int v1267), (0, .ref o)]) X.1 X.2.1 d_Ha_compress_144 hl (k := 1) rfl (nI_add _ 1) (by decide) rfl (fun ls hl => ?_)
              refine lv_goto (tgt := 85) X.1 X.2.1 d_Ha_compress_147 (by decide) ?_
              exact ih665  (i + 1)   g1271 g673 f1273 _ _ _ (by omega) (by omega) (by omega)  e1275 e1274 e1276 e1277 e1278 e1279 e1280 hF1281 Y (lv_sub hl [0, 2] rfl)
        exact lp663 (80) (16)   g8 g11 f4 _ _ _ (by omega) (by omega) (by omega)  e6 e7 e9 e10 e12 e13 e14 hF5 Y (lv_sub hl [0, 1] rfl)
      · skip
        rw [nI_leI (by omega) (by omega)] at c662
        refine lv_aload_n X.1 X.2.1 d_Ha_compress_8 rfl (lv_at hl 1 rfl) ?_
        refine q_get X.1 X.2.1 X.2.2.1 i_Ha X.2.2.2.1 X.2.2.2.2 Y m_o e6 rfl 0 (by decide) (X.2.2.1 _ lk_Ha_7) (fun _ h9 => h9) rfl d_Ha_compress_9 ?_
        refine lv_iload_n X.1 X.2.1 d_Ha_compress_12 rfl (lv_at hl 0 rfl) ?_
        refine lv_aload_n X.1 X.2.1 d_Ha_compress_13 rfl (lv_at hl 1 rfl) ?_
        refine q_get X.1 X.2.1 X.2.2.1 i_Ha X.2.2.2.1 X.2.2.2.2 Y m_o e6 rfl 1 (by decide) (X.2.2.1 _ lk_Ha_13) (fun _ h9 => h9) rfl d_Ha_compress_14 ?_
        refine lv_iconst (v := (nI 4)) X.1 X.2.1 d_Ha_compress_17 (by decide) ?_
        refine lv_iload_n X.1 X.2.1 d_Ha_compress_18 rfl (lv_at hl 0 rfl) ?_
        refine lv_imul X.1 X.2.1 d_Ha_compress_19 ?_
        refine t_eq (y := nI ((4) * (i))) (pk_mul _ _) ?_
        refine q_bald X.1 X.2.1 X.2.2.2.2 Y 0 m_bl e9 rfl (vp_in_nI (by omega) (by omega)) d_Ha_compress_20 ?_
        refine t_any (fun v1282 => ?_)
        refine lv_bipush (v := (nI 24)) X.1 X.2.1 d_Ha_compress_21 (by decide) ?_
        refine lv_ishl X.1 X.2.1 d_Ha_compress_23 ?_
        refine t_any (fun v1283 => ?_)
        refine lv_aload_n X.1 X.2.1 d_Ha_compress_24 rfl (lv_at hl 1 rfl) ?_
        refine q_get X.1 X.2.1 X.2.2.1 i_Ha X.2.2.2.1 X.2.2.2.2 Y m_o e6 rfl 1 (by decide) (X.2.2.1 _ lk_Ha_13) (fun _ h9 => h9) rfl d_Ha_compress_25 ?_
        refine lv_iconst (v := (nI 4)) X.1 X.2.1 d_Ha_compress_28 (by decide) ?_
        refine lv_iload_n X.1 X.2.1 d_Ha_compress_29 rfl (lv_at hl 0 rfl) ?_
        refine lv_imul X.1 X.2.1 d_Ha_compress_30 ?_
        refine t_eq (y := nI ((4) * (i))) (pk_mul _ _) ?_
        refine lv_iconst (v := (nI 1)) X.1 X.2.1 d_Ha_compress_31 (by decide) ?_
        refine lv_iadd X.1 X.2.1 d_Ha_compress_32 ?_
        refine t_eq (y := nI ((4) * (i) + 1)) (nI_add _ _) ?_
        refine q_bald X.1 X.2.1 X.2.2.2.2 Y 0 m_bl e9 rfl (vp_in_nI (by omega) (by omega)) d_Ha_compress_33 ?_
        refine t_any (fun v1284 => ?_)
        refine lv_sipush (v := (nI 255)) X.1 X.2.1 d_Ha_compress_34 (by decide) ?_
        refine lv_iand X.1 X.2.1 d_Ha_compress_37 ?_
        obtain ⟨j1285, hj1285, ej1285⟩ := pk_andE v1284 (m := nI 255) 8 (by decide)
        refine t_eq ej1285 ?_
        have hj1285 : j1285 < 256 := hj1285
        refine lv_bipush (v := (nI 16)) X.1 X.2.1 d_Ha_compress_38 (by decide) ?_
        refine lv_ishl X.1 X.2.1 d_Ha_compress_40 ?_
        refine t_any (fun v1286 => ?_)
        refine lv_ior X.1 X.2.1 d_Ha_compress_41 ?_
        refine t_any (fun v1287 => ?_)
        refine lv_aload_n X.1 X.2.1 d_Ha_compress_42 rfl (lv_at hl 1 rfl) ?_
        refine q_get X.1 X.2.1 X.2.2.1 i_Ha X.2.2.2.1 X.2.2.2.2 Y m_o e6 rfl 1 (by decide) (X.2.2.1 _ lk_Ha_13) (fun _ h9 => h9) rfl d_Ha_compress_43 ?_
        refine lv_iconst (v := (nI 4)) X.1 X.2.1 d_Ha_compress_46 (by decide) ?_
        refine lv_iload_n X.1 X.2.1 d_Ha_compress_47 rfl (lv_at hl 0 rfl) ?_
        refine lv_imul X.1 X.2.1 d_Ha_compress_48 ?_
        refine t_eq (y := nI ((4) * (i))) (pk_mul _ _) ?_
        refine lv_iconst (v := (nI 2)) X.1 X.2.1 d_Ha_compress_49 (by decide) ?_
        refine lv_iadd X.1 X.2.1 d_Ha_compress_50 ?_
        refine t_eq (y := nI ((4) * (i) + 2)) (nI_add _ _) ?_
        refine q_bald X.1 X.2.1 X.2.2.2.2 Y 0 m_bl e9 rfl (vp_in_nI (by omega) (by omega)) d_Ha_compress_51 ?_
        refine t_any (fun v1288 => ?_)
        refine lv_sipush (v := (nI 255)) X.1 X.2.1 d_Ha_compress_52 (by decide) ?_
        refine lv_iand X.1 X.2.1 d_Ha_compress_55 ?_
        obtain ⟨j1289, hj1289, ej1289⟩ := pk_andE v1288 (m := nI 255) 8 (by decide)
        refine t_eq ej1289 ?_
        have hj1289 : j1289 < 256 := hj1289
        refine lv_bipush (v := (nI 8)) X.1 X.2.1 d_Ha_compress_56 (by decide) ?_
        refine lv_ishl X.1 X.2.1 d_Ha_compress_58 ?_
        refine t_any (fun v1290 => ?_)
        refine lv_ior X.1 X.2.1 d_Ha_compress_59 ?_
        refine t_any (fun v1291 => ?_)
        refine lv_aload_n X.1 X.2.1 d_Ha_compress_60 rfl (lv_at hl 1 rfl) ?_
        refine q_get X.1 X.2.1 X.2.2.1 i_Ha X.2.2.2.1 X.2.2.2.2 Y m_o e6 rfl 1 (by decide) (X.2.2.1 _ lk_Ha_13) (fun _ h9 => h9) rfl d_Ha_compress_61 ?_
        refine lv_iconst (v := (nI 4)) X.1 X.2.1 d_Ha_compress_64 (by decide) ?_
        refine lv_iload_n X.1 X.2.1 d_Ha_compress_65 rfl (lv_at hl 0 rfl) ?_
        refine lv_imul X.1 X.2.1 d_Ha_compress_66 ?_
        refine t_eq (y := nI ((4) * (i))) (pk_mul _ _) ?_
        refine lv_iconst (v := (nI 3)) X.1 X.2.1 d_Ha_compress_67 (by decide) ?_
        refine lv_iadd X.1 X.2.1 d_Ha_compress_68 ?_
        refine t_eq (y := nI ((4) * (i) + 3)) (nI_add _ _) ?_
        refine q_bald X.1 X.2.1 X.2.2.2.2 Y 0 m_bl e9 rfl (vp_in_nI (by omega) (by omega)) d_Ha_compress_69 ?_
        refine t_any (fun v1292 => ?_)
        refine lv_sipush (v := (nI 255)) X.1 X.2.1 d_Ha_compress_70 (by decide) ?_
        refine lv_iand X.1 X.2.1 d_Ha_compress_73 ?_
        obtain ⟨j1293, hj1293, ej1293⟩ := pk_andE v1292 (m := nI 255) 8 (by decide)
        refine t_eq ej1293 ?_
        have hj1293 : j1293 < 256 := hj1293
        refine lv_ior X.1 X.2.1 d_Ha_compress_74 ?_
        refine t_any (fun v1294 => ?_)
        refine q_iast X.1 X.2.1 X.2.2.2.2 Y 1 m_wd e7 rfl (vp_in_nI (by omega) (by omega)) d_Ha_compress_75 (fun H locs Y => ?_)
        generalize (upd g8 ((nI i)).toNatClampNeg v1294) = g1295 at Y
        have e1298 : (va_up f4 wd (.inl (E.2.1, 80, .inl g1295))) wd = .inl (E.2.1, 80, .inl g1295) := q_up
        have e1299 : (va_up f4 wd (.inl (E.2.1, 80, .inl g1295))) o = .inr (6, [.ref wd, .ref bl, .ref sta, .ref inn, .ref out, .int (nI fl), .int tot, .ref mac]) := (q_ne (q_tag e6 e7 (show (6 : Nat) ≠ 1000 by decide))).trans e6
        have e1300 : (va_up f4 wd (.inl (E.2.1, 80, .inl g1295))) bl = .inl (E.1, 64, .inl g_bl) := (q_ne ap_wd_bl.symm).trans e9
        have e1301 : (va_up f4 wd (.inl (E.2.1, 80, .inl g1295))) sta = .inl (E.2.1, 5, .inl g11) := (q_ne ap_wd_sta.symm).trans e10
        have e1302 : (va_up f4 wd (.inl (E.2.1, 80, .inl g1295))) inn = .inl (E.2.1, 5, .inl g_inn) := (q_ne ap_wd_inn.symm).trans e12
        have e1303 : (va_up f4 wd (.inl (E.2.1, 80, .inl g1295))) out = .inl (E.2.1, 5, .inl g_out) := (q_ne ap_wd_out.symm).trans e13
        have e1304 : (va_up f4 wd (.inl (E.2.1, 80, .inl g1295))) mac = .inl (E.1, 20, .inl g_mac) := (q_ne ap_wd_mac.symm).trans e14
        have hF1305 : ∀ x, x ≠ wd → x ≠ sta → (va_up f4 wd (.inl (E.2.1, 80, .inl g1295))) x = f x := fun x h0 h1 => (q_ne h0).trans (hF5 x h0 h1)
        have Y : pH D cCl (pA L sz) s.heap L (va_up f4 wd (.inl (E.2.1, 80, .inl g1295))) H locs := Y
        generalize (va_up f4 wd (.inl (E.2.1, 80, .inl g1295))) = f1297 at Y e1298 e1299 e1300 e1301 e1302 e1303 e1304 hF1305
        refine lv_iinc (v := (nI (i + 1))) (lv' := [(1, .int (nI (i + 1))), (0, .ref o)]) X.1 X.2.1 d_Ha_compress_76 hl (k := 0) rfl (nI_add _ 1) (by decide) rfl (fun ls hl => ?_)
        refine lv_goto (tgt := 2) X.1 X.2.1 d_Ha_compress_79 (by decide) ?_
        exact ih3  (i + 1)   g1295 g11 f1297 _ _ _ (by omega) (by omega) (by omega)  e1299 e1298 e1300 e1301 e1302 e1303 e1304 hF1305 Y (lv_sub hl [0, 1] rfl)
  exact lp1 (16) (0)   g_wd g_sta f _ _ _ (by omega) (by omega) (by omega)  e_o e_wd e_bl e_sta e_inn e_out e_mac (fun _ _ _ => rfl) Y (lv_sub hl [0, 1] rfl)
