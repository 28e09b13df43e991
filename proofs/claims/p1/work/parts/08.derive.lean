abbrev b_foldOf : ByteArray := prog_14_method_23_code
def y_foldOf : MethodName := ⟨R_M, "foldOf", "([BI)V"⟩
abbrev k_foldOf : Cond := .code y_foldOf b_foldOf 11 none
theorem ki_foldOf : k_foldOf ∈ lw_tg := in_t 1845 (by decide +kernel)
theorem ks_foldOf : Cond.instanceMethod y_foldOf ∈ lw_tg := in_t 1844 (by decide +kernel)
theorem kl_foldOf : Cond.methodLink R_M 404 y_foldOf ∈ lw_tg := in_t 1842 (by decide +kernel)
theorem d_foldOf_0 : decode b_foldOf 0 = .ok (.iload_n 2, 1) := by decide +kernel
theorem d_foldOf_1 : decode b_foldOf 1 = .ok (.istore_n 3, 1) := by decide +kernel
theorem d_foldOf_2 : decode b_foldOf 2 = .ok (.iload_n 3, 1) := by decide +kernel
theorem d_foldOf_3 : decode b_foldOf 3 = .ok (.bipush 16, 2) := by decide +kernel
theorem d_foldOf_5 : decode b_foldOf 5 = .ok (.irem, 1) := by decide +kernel
theorem d_foldOf_6 : decode b_foldOf 6 = .ok (.ifCond .eq 10, 3) := by decide +kernel
theorem d_foldOf_9 : decode b_foldOf 9 = .ok (.iload_n 3, 1) := by decide +kernel
theorem d_foldOf_10 : decode b_foldOf 10 = .ok (.iload_n 2, 1) := by decide +kernel
theorem d_foldOf_11 : decode b_foldOf 11 = .ok (.iadd, 1) := by decide +kernel
theorem d_foldOf_12 : decode b_foldOf 12 = .ok (.istore_n 3, 1) := by decide +kernel
theorem d_foldOf_13 : decode b_foldOf 13 = .ok (.goto (-11), 3) := by decide +kernel
theorem d_foldOf_16 : decode b_foldOf 16 = .ok (.aload_n 0, 1) := by decide +kernel
theorem d_foldOf_17 : decode b_foldOf 17 = .ok (.getfield 62, 3) := by decide +kernel
theorem d_foldOf_20 : decode b_foldOf 20 = .ok (.astore 4, 2) := by decide +kernel
theorem d_foldOf_22 : decode b_foldOf 22 = .ok (.iconst 0, 1) := by decide +kernel
theorem d_foldOf_23 : decode b_foldOf 23 = .ok (.istore 5, 2) := by decide +kernel
theorem d_foldOf_25 : decode b_foldOf 25 = .ok (.iload 5, 2) := by decide +kernel
theorem d_foldOf_27 : decode b_foldOf 27 = .ok (.bipush 16, 2) := by decide +kernel
theorem d_foldOf_29 : decode b_foldOf 29 = .ok (.if_icmp .ge 15, 3) := by decide +kernel
theorem d_foldOf_32 : decode b_foldOf 32 = .ok (.aload 4, 2) := by decide +kernel
theorem d_foldOf_34 : decode b_foldOf 34 = .ok (.iload 5, 2) := by decide +kernel
theorem d_foldOf_36 : decode b_foldOf 36 = .ok (.iconst 0, 1) := by decide +kernel
theorem d_foldOf_37 : decode b_foldOf 37 = .ok (.iastore, 1) := by decide +kernel
theorem d_foldOf_38 : decode b_foldOf 38 = .ok (.iinc 5 1, 3) := by decide +kernel
theorem d_foldOf_41 : decode b_foldOf 41 = .ok (.goto (-16), 3) := by decide +kernel
theorem d_foldOf_44 : decode b_foldOf 44 = .ok (.iconst 0, 1) := by decide +kernel
theorem d_foldOf_45 : decode b_foldOf 45 = .ok (.istore 5, 2) := by decide +kernel
theorem d_foldOf_47 : decode b_foldOf 47 = .ok (.iload 5, 2) := by decide +kernel
theorem d_foldOf_49 : decode b_foldOf 49 = .ok (.iload_n 3, 1) := by decide +kernel
theorem d_foldOf_50 : decode b_foldOf 50 = .ok (.if_icmp .ge 109, 3) := by decide +kernel
theorem d_foldOf_53 : decode b_foldOf 53 = .ok (.iload 5, 2) := by decide +kernel
theorem d_foldOf_55 : decode b_foldOf 55 = .ok (.iload_n 2, 1) := by decide +kernel
theorem d_foldOf_56 : decode b_foldOf 56 = .ok (.idiv, 1) := by decide +kernel
theorem d_foldOf_57 : decode b_foldOf 57 = .ok (.istore 6, 2) := by decide +kernel
theorem d_foldOf_59 : decode b_foldOf 59 = .ok (.bipush 13, 2) := by decide +kernel
theorem d_foldOf_61 : decode b_foldOf 61 = .ok (.iload 6, 2) := by decide +kernel
theorem d_foldOf_63 : decode b_foldOf 63 = .ok (.imul, 1) := by decide +kernel
theorem d_foldOf_64 : decode b_foldOf 64 = .ok (.bipush 8, 2) := by decide +kernel
theorem d_foldOf_66 : decode b_foldOf 66 = .ok (.iload_n 2, 1) := by decide +kernel
theorem d_foldOf_67 : decode b_foldOf 67 = .ok (.imul, 1) := by decide +kernel
theorem d_foldOf_68 : decode b_foldOf 68 = .ok (.irem, 1) := by decide +kernel
theorem d_foldOf_69 : decode b_foldOf 69 = .ok (.istore 7, 2) := by decide +kernel
theorem d_foldOf_71 : decode b_foldOf 71 = .ok (.iconst 0, 1) := by decide +kernel
theorem d_foldOf_72 : decode b_foldOf 72 = .ok (.istore 8, 2) := by decide +kernel
theorem d_foldOf_74 : decode b_foldOf 74 = .ok (.iconst 0, 1) := by decide +kernel
theorem d_foldOf_75 : decode b_foldOf 75 = .ok (.istore 9, 2) := by decide +kernel
theorem d_foldOf_77 : decode b_foldOf 77 = .ok (.iload 9, 2) := by decide +kernel
theorem d_foldOf_79 : decode b_foldOf 79 = .ok (.bipush 8, 2) := by decide +kernel
theorem d_foldOf_81 : decode b_foldOf 81 = .ok (.if_icmp .ge 59, 3) := by decide +kernel
theorem d_foldOf_84 : decode b_foldOf 84 = .ok (.bipush 8, 2) := by decide +kernel
theorem d_foldOf_86 : decode b_foldOf 86 = .ok (.iload 5, 2) := by decide +kernel
theorem d_foldOf_88 : decode b_foldOf 88 = .ok (.iload_n 2, 1) := by decide +kernel
theorem d_foldOf_89 : decode b_foldOf 89 = .ok (.irem, 1) := by decide +kernel
theorem d_foldOf_90 : decode b_foldOf 90 = .ok (.imul, 1) := by decide +kernel
theorem d_foldOf_91 : decode b_foldOf 91 = .ok (.iload 9, 2) := by decide +kernel
theorem d_foldOf_93 : decode b_foldOf 93 = .ok (.iadd, 1) := by decide +kernel
theorem d_foldOf_94 : decode b_foldOf 94 = .ok (.iload 7, 2) := by decide +kernel
theorem d_foldOf_96 : decode b_foldOf 96 = .ok (.isub, 1) := by decide +kernel
theorem d_foldOf_97 : decode b_foldOf 97 = .ok (.bipush 8, 2) := by decide +kernel
theorem d_foldOf_99 : decode b_foldOf 99 = .ok (.iload_n 2, 1) := by decide +kernel
theorem d_foldOf_100 : decode b_foldOf 100 = .ok (.imul, 1) := by decide +kernel
theorem d_foldOf_101 : decode b_foldOf 101 = .ok (.iadd, 1) := by decide +kernel
theorem d_foldOf_102 : decode b_foldOf 102 = .ok (.bipush 8, 2) := by decide +kernel
theorem d_foldOf_104 : decode b_foldOf 104 = .ok (.iload_n 2, 1) := by decide +kernel
theorem d_foldOf_105 : decode b_foldOf 105 = .ok (.imul, 1) := by decide +kernel
theorem d_foldOf_106 : decode b_foldOf 106 = .ok (.irem, 1) := by decide +kernel
theorem d_foldOf_107 : decode b_foldOf 107 = .ok (.istore 10, 2) := by decide +kernel
theorem d_foldOf_109 : decode b_foldOf 109 = .ok (.iload 8, 2) := by decide +kernel
theorem d_foldOf_111 : decode b_foldOf 111 = .ok (.iconst 1, 1) := by decide +kernel
theorem d_foldOf_112 : decode b_foldOf 112 = .ok (.ishl, 1) := by decide +kernel
theorem d_foldOf_113 : decode b_foldOf 113 = .ok (.aload_n 1, 1) := by decide +kernel
theorem d_foldOf_114 : decode b_foldOf 114 = .ok (.iload 10, 2) := by decide +kernel
theorem d_foldOf_116 : decode b_foldOf 116 = .ok (.bipush 8, 2) := by decide +kernel
theorem d_foldOf_118 : decode b_foldOf 118 = .ok (.idiv, 1) := by decide +kernel
theorem d_foldOf_119 : decode b_foldOf 119 = .ok (.baload, 1) := by decide +kernel
theorem d_foldOf_120 : decode b_foldOf 120 = .ok (.bipush 7, 2) := by decide +kernel
theorem d_foldOf_122 : decode b_foldOf 122 = .ok (.iload 10, 2) := by decide +kernel
theorem d_foldOf_124 : decode b_foldOf 124 = .ok (.bipush 8, 2) := by decide +kernel
theorem d_foldOf_126 : decode b_foldOf 126 = .ok (.irem, 1) := by decide +kernel
theorem d_foldOf_127 : decode b_foldOf 127 = .ok (.isub, 1) := by decide +kernel
theorem d_foldOf_128 : decode b_foldOf 128 = .ok (.ishr, 1) := by decide +kernel
theorem d_foldOf_129 : decode b_foldOf 129 = .ok (.iconst 1, 1) := by decide +kernel
theorem d_foldOf_130 : decode b_foldOf 130 = .ok (.iand, 1) := by decide +kernel
theorem d_foldOf_131 : decode b_foldOf 131 = .ok (.ior, 1) := by decide +kernel
theorem d_foldOf_132 : decode b_foldOf 132 = .ok (.istore 8, 2) := by decide +kernel
theorem d_foldOf_134 : decode b_foldOf 134 = .ok (.iinc 9 1, 3) := by decide +kernel
theorem d_foldOf_137 : decode b_foldOf 137 = .ok (.goto (-60), 3) := by decide +kernel
theorem d_foldOf_140 : decode b_foldOf 140 = .ok (.aload 4, 2) := by decide +kernel
theorem d_foldOf_142 : decode b_foldOf 142 = .ok (.iload 5, 2) := by decide +kernel
theorem d_foldOf_144 : decode b_foldOf 144 = .ok (.bipush 16, 2) := by decide +kernel
theorem d_foldOf_146 : decode b_foldOf 146 = .ok (.irem, 1) := by decide +kernel
theorem d_foldOf_147 : decode b_foldOf 147 = .ok (.dup2, 1) := by decide +kernel
theorem d_foldOf_148 : decode b_foldOf 148 = .ok (.iaload, 1) := by decide +kernel
theorem d_foldOf_149 : decode b_foldOf 149 = .ok (.iload 8, 2) := by decide +kernel
theorem d_foldOf_151 : decode b_foldOf 151 = .ok (.iadd, 1) := by decide +kernel
theorem d_foldOf_152 : decode b_foldOf 152 = .ok (.iastore, 1) := by decide +kernel
theorem d_foldOf_153 : decode b_foldOf 153 = .ok (.iinc 5 1, 3) := by decide +kernel
theorem d_foldOf_156 : decode b_foldOf 156 = .ok (.goto (-109), 3) := by decide +kernel
theorem d_foldOf_159 : decode b_foldOf 159 = .ok (.iconst 0, 1) := by decide +kernel
theorem d_foldOf_160 : decode b_foldOf 160 = .ok (.istore 5, 2) := by decide +kernel
theorem d_foldOf_162 : decode b_foldOf 162 = .ok (.iload 5, 2) := by decide +kernel
theorem d_foldOf_164 : decode b_foldOf 164 = .ok (.bipush 40, 2) := by decide +kernel
theorem d_foldOf_166 : decode b_foldOf 166 = .ok (.if_icmp .ge 65, 3) := by decide +kernel
theorem d_foldOf_169 : decode b_foldOf 169 = .ok (.iconst 0, 1) := by decide +kernel
theorem d_foldOf_170 : decode b_foldOf 170 = .ok (.istore 6, 2) := by decide +kernel
theorem d_foldOf_172 : decode b_foldOf 172 = .ok (.bipush 15, 2) := by decide +kernel
theorem d_foldOf_174 : decode b_foldOf 174 = .ok (.istore 7, 2) := by decide +kernel
theorem d_foldOf_176 : decode b_foldOf 176 = .ok (.iload 7, 2) := by decide +kernel
theorem d_foldOf_178 : decode b_foldOf 178 = .ok (.ifCond .lt 37, 3) := by decide +kernel
theorem d_foldOf_181 : decode b_foldOf 181 = .ok (.aload 4, 2) := by decide +kernel
theorem d_foldOf_183 : decode b_foldOf 183 = .ok (.iload 7, 2) := by decide +kernel
theorem d_foldOf_185 : decode b_foldOf 185 = .ok (.iaload, 1) := by decide +kernel
theorem d_foldOf_186 : decode b_foldOf 186 = .ok (.iload 6, 2) := by decide +kernel
theorem d_foldOf_188 : decode b_foldOf 188 = .ok (.iadd, 1) := by decide +kernel
theorem d_foldOf_189 : decode b_foldOf 189 = .ok (.istore 8, 2) := by decide +kernel
theorem d_foldOf_191 : decode b_foldOf 191 = .ok (.aload 4, 2) := by decide +kernel
theorem d_foldOf_193 : decode b_foldOf 193 = .ok (.iload 7, 2) := by decide +kernel
theorem d_foldOf_195 : decode b_foldOf 195 = .ok (.iload 8, 2) := by decide +kernel
theorem d_foldOf_197 : decode b_foldOf 197 = .ok (.sipush 255, 3) := by decide +kernel
theorem d_foldOf_200 : decode b_foldOf 200 = .ok (.iand, 1) := by decide +kernel
theorem d_foldOf_201 : decode b_foldOf 201 = .ok (.iastore, 1) := by decide +kernel
theorem d_foldOf_202 : decode b_foldOf 202 = .ok (.iload 8, 2) := by decide +kernel
theorem d_foldOf_204 : decode b_foldOf 204 = .ok (.bipush 8, 2) := by decide +kernel
theorem d_foldOf_206 : decode b_foldOf 206 = .ok (.ishr, 1) := by decide +kernel
theorem d_foldOf_207 : decode b_foldOf 207 = .ok (.istore 6, 2) := by decide +kernel
theorem d_foldOf_209 : decode b_foldOf 209 = .ok (.iinc 7 (-1), 3) := by decide +kernel
theorem d_foldOf_212 : decode b_foldOf 212 = .ok (.goto (-36), 3) := by decide +kernel
theorem d_foldOf_215 : decode b_foldOf 215 = .ok (.aload 4, 2) := by decide +kernel
theorem d_foldOf_217 : decode b_foldOf 217 = .ok (.bipush 15, 2) := by decide +kernel
theorem d_foldOf_219 : decode b_foldOf 219 = .ok (.dup2, 1) := by decide +kernel
theorem d_foldOf_220 : decode b_foldOf 220 = .ok (.iaload, 1) := by decide +kernel
theorem d_foldOf_221 : decode b_foldOf 221 = .ok (.iload 6, 2) := by decide +kernel
theorem d_foldOf_223 : decode b_foldOf 223 = .ok (.iadd, 1) := by decide +kernel
theorem d_foldOf_224 : decode b_foldOf 224 = .ok (.iastore, 1) := by decide +kernel
theorem d_foldOf_225 : decode b_foldOf 225 = .ok (.iinc 5 1, 3) := by decide +kernel
theorem d_foldOf_228 : decode b_foldOf 228 = .ok (.goto (-66), 3) := by decide +kernel
theorem d_foldOf_231 : decode b_foldOf 231 = .ok (.iconst 0, 1) := by decide +kernel
theorem d_foldOf_232 : decode b_foldOf 232 = .ok (.istore 5, 2) := by decide +kernel
theorem d_foldOf_234 : decode b_foldOf 234 = .ok (.iload 5, 2) := by decide +kernel
theorem d_foldOf_236 : decode b_foldOf 236 = .ok (.bipush 16, 2) := by decide +kernel
theorem d_foldOf_238 : decode b_foldOf 238 = .ok (.if_icmp .ge 22, 3) := by decide +kernel
theorem d_foldOf_241 : decode b_foldOf 241 = .ok (.aload_n 0, 1) := by decide +kernel
theorem d_foldOf_242 : decode b_foldOf 242 = .ok (.getfield 56, 3) := by decide +kernel
theorem d_foldOf_245 : decode b_foldOf 245 = .ok (.iload 5, 2) := by decide +kernel
theorem d_foldOf_247 : decode b_foldOf 247 = .ok (.aload 4, 2) := by decide +kernel
theorem d_foldOf_249 : decode b_foldOf 249 = .ok (.iload 5, 2) := by decide +kernel
theorem d_foldOf_251 : decode b_foldOf 251 = .ok (.iaload, 1) := by decide +kernel
theorem d_foldOf_252 : decode b_foldOf 252 = .ok (.i2b, 1) := by decide +kernel
theorem d_foldOf_253 : decode b_foldOf 253 = .ok (.bastore, 1) := by decide +kernel
theorem d_foldOf_254 : decode b_foldOf 254 = .ok (.iinc 5 1, 3) := by decide +kernel
theorem d_foldOf_257 : decode b_foldOf 257 = .ok (.goto (-23), 3) := by decide +kernel
theorem d_foldOf_260 : decode b_foldOf 260 = .ok (.return_, 1) := by decide +kernel
abbrev b_derive : ByteArray := prog_14_method_24_code
def y_derive : MethodName := ⟨R_M, "derive", "([BI[BI[B)V"⟩
abbrev k_derive : Cond := .code y_derive b_derive 8 none
theorem ki_derive : k_derive ∈ lw_tg := in_t 1841 (by decide +kernel)
theorem ks_derive : Cond.instanceMethod y_derive ∈ lw_tg := in_t 1840 (by decide +kernel)
theorem kl_derive : Cond.methodLink R_M 414 y_derive ∈ lw_tg := in_t 1838 (by decide +kernel)
theorem d_derive_0 : decode b_derive 0 = .ok (.aload_n 0, 1) := by decide +kernel
theorem d_derive_1 : decode b_derive 1 = .ok (.aload_n 3, 1) := by decide +kernel
theorem d_derive_2 : decode b_derive 2 = .ok (.iload 4, 2) := by decide +kernel
theorem d_derive_4 : decode b_derive 4 = .ok (.invokevirtual 404, 3) := by decide +kernel
theorem d_derive_7 : decode b_derive 7 = .ok (.aload_n 0, 1) := by decide +kernel
theorem d_derive_8 : decode b_derive 8 = .ok (.aload_n 1, 1) := by decide +kernel
theorem d_derive_9 : decode b_derive 9 = .ok (.iload_n 2, 1) := by decide +kernel
theorem d_derive_10 : decode b_derive 10 = .ok (.invokevirtual 408, 3) := by decide +kernel
theorem d_derive_13 : decode b_derive 13 = .ok (.iconst 0, 1) := by decide +kernel
theorem d_derive_14 : decode b_derive 14 = .ok (.istore 6, 2) := by decide +kernel
theorem d_derive_16 : decode b_derive 16 = .ok (.iload 6, 2) := by decide +kernel
theorem d_derive_18 : decode b_derive 18 = .ok (.bipush 16, 2) := by decide +kernel
theorem d_derive_20 : decode b_derive 20 = .ok (.if_icmp .ge 27, 3) := by decide +kernel
theorem d_derive_23 : decode b_derive 23 = .ok (.aload_n 0, 1) := by decide +kernel
theorem d_derive_24 : decode b_derive 24 = .ok (.getfield 50, 3) := by decide +kernel
theorem d_derive_27 : decode b_derive 27 = .ok (.iload 6, 2) := by decide +kernel
theorem d_derive_29 : decode b_derive 29 = .ok (.aload_n 0, 1) := by decide +kernel
theorem d_derive_30 : decode b_derive 30 = .ok (.getfield 56, 3) := by decide +kernel
theorem d_derive_33 : decode b_derive 33 = .ok (.iload 6, 2) := by decide +kernel
theorem d_derive_35 : decode b_derive 35 = .ok (.baload, 1) := by decide +kernel
theorem d_derive_36 : decode b_derive 36 = .ok (.sipush 255, 3) := by decide +kernel
theorem d_derive_39 : decode b_derive 39 = .ok (.iand, 1) := by decide +kernel
theorem d_derive_40 : decode b_derive 40 = .ok (.iastore, 1) := by decide +kernel
theorem d_derive_41 : decode b_derive 41 = .ok (.iinc 6 1, 3) := by decide +kernel
theorem d_derive_44 : decode b_derive 44 = .ok (.goto (-28), 3) := by decide +kernel
theorem d_derive_47 : decode b_derive 47 = .ok (.iconst 0, 1) := by decide +kernel
theorem d_derive_48 : decode b_derive 48 = .ok (.istore 6, 2) := by decide +kernel
theorem d_derive_50 : decode b_derive 50 = .ok (.iload 6, 2) := by decide +kernel
theorem d_derive_52 : decode b_derive 52 = .ok (.iload_n 2, 1) := by decide +kernel
theorem d_derive_53 : decode b_derive 53 = .ok (.if_icmp .ge 47, 3) := by decide +kernel
theorem d_derive_56 : decode b_derive 56 = .ok (.aload_n 0, 1) := by decide +kernel
theorem d_derive_57 : decode b_derive 57 = .ok (.invokevirtual 411, 3) := by decide +kernel
theorem d_derive_60 : decode b_derive 60 = .ok (.iconst 0, 1) := by decide +kernel
theorem d_derive_61 : decode b_derive 61 = .ok (.istore 7, 2) := by decide +kernel
theorem d_derive_63 : decode b_derive 63 = .ok (.iload 7, 2) := by decide +kernel
theorem d_derive_65 : decode b_derive 65 = .ok (.bipush 16, 2) := by decide +kernel
theorem d_derive_67 : decode b_derive 67 = .ok (.if_icmp .ge 27, 3) := by decide +kernel
theorem d_derive_70 : decode b_derive 70 = .ok (.aload_n 0, 1) := by decide +kernel
theorem d_derive_71 : decode b_derive 71 = .ok (.getfield 59, 3) := by decide +kernel
theorem d_derive_74 : decode b_derive 74 = .ok (.iload 6, 2) := by decide +kernel
theorem d_derive_76 : decode b_derive 76 = .ok (.iload 7, 2) := by decide +kernel
theorem d_derive_78 : decode b_derive 78 = .ok (.iadd, 1) := by decide +kernel
theorem d_derive_79 : decode b_derive 79 = .ok (.aload_n 0, 1) := by decide +kernel
theorem d_derive_80 : decode b_derive 80 = .ok (.getfield 50, 3) := by decide +kernel
theorem d_derive_83 : decode b_derive 83 = .ok (.iload 7, 2) := by decide +kernel
theorem d_derive_85 : decode b_derive 85 = .ok (.iaload, 1) := by decide +kernel
theorem d_derive_86 : decode b_derive 86 = .ok (.i2b, 1) := by decide +kernel
theorem d_derive_87 : decode b_derive 87 = .ok (.bastore, 1) := by decide +kernel
theorem d_derive_88 : decode b_derive 88 = .ok (.iinc 7 1, 3) := by decide +kernel
theorem d_derive_91 : decode b_derive 91 = .ok (.goto (-28), 3) := by decide +kernel
theorem d_derive_94 : decode b_derive 94 = .ok (.iinc 6 16, 3) := by decide +kernel
theorem d_derive_97 : decode b_derive 97 = .ok (.goto (-47), 3) := by decide +kernel
theorem d_derive_100 : decode b_derive 100 = .ok (.iconst 0, 1) := by decide +kernel
theorem d_derive_101 : decode b_derive 101 = .ok (.istore 6, 2) := by decide +kernel
theorem d_derive_103 : decode b_derive 103 = .ok (.iload 6, 2) := by decide +kernel
theorem d_derive_105 : decode b_derive 105 = .ok (.iload_n 2, 1) := by decide +kernel
theorem d_derive_106 : decode b_derive 106 = .ok (.if_icmp .ge 21, 3) := by decide +kernel
theorem d_derive_109 : decode b_derive 109 = .ok (.aload 5, 2) := by decide +kernel
theorem d_derive_111 : decode b_derive 111 = .ok (.iload 6, 2) := by decide +kernel
theorem d_derive_113 : decode b_derive 113 = .ok (.aload_n 0, 1) := by decide +kernel
theorem d_derive_114 : decode b_derive 114 = .ok (.getfield 59, 3) := by decide +kernel
theorem d_derive_117 : decode b_derive 117 = .ok (.iload 6, 2) := by decide +kernel
theorem d_derive_119 : decode b_derive 119 = .ok (.baload, 1) := by decide +kernel
theorem d_derive_120 : decode b_derive 120 = .ok (.bastore, 1) := by decide +kernel
theorem d_derive_121 : decode b_derive 121 = .ok (.iinc 6 1, 3) := by decide +kernel
theorem d_derive_124 : decode b_derive 124 = .ok (.goto (-21), 3) := by decide +kernel
theorem d_derive_127 : decode b_derive 127 = .ok (.return_, 1) := by decide +kernel
abbrev b_passwordKey : ByteArray := prog_14_method_26_code
def y_passwordKey : MethodName := ⟨R_M, "passwordKey", "(II[B)V"⟩
abbrev k_passwordKey : Cond := .code y_passwordKey b_passwordKey 7 none
theorem ki_passwordKey : k_passwordKey ∈ lw_tg := in_t 1800 (by decide +kernel)
theorem ks_passwordKey : Cond.instanceMethod y_passwordKey ∈ lw_tg := in_t 1799 (by decide +kernel)
theorem kl_passwordKey : Cond.methodLink R_M 626 y_passwordKey ∈ lw_tg := in_t 1797 (by decide +kernel)
theorem d_passwordKey_0 : decode b_passwordKey 0 = .ok (.iconst 0, 1) := by decide +kernel
theorem d_passwordKey_1 : decode b_passwordKey 1 = .ok (.istore 4, 2) := by decide +kernel
theorem d_passwordKey_3 : decode b_passwordKey 3 = .ok (.bipush 20, 2) := by decide +kernel
theorem d_passwordKey_5 : decode b_passwordKey 5 = .ok (.iload 4, 2) := by decide +kernel
theorem d_passwordKey_7 : decode b_passwordKey 7 = .ok (.imul, 1) := by decide +kernel
theorem d_passwordKey_8 : decode b_passwordKey 8 = .ok (.iload_n 1, 1) := by decide +kernel
theorem d_passwordKey_9 : decode b_passwordKey 9 = .ok (.if_icmp .ge 241, 3) := by decide +kernel
theorem d_passwordKey_12 : decode b_passwordKey 12 = .ok (.aload_n 0, 1) := by decide +kernel
theorem d_passwordKey_13 : decode b_passwordKey 13 = .ok (.aload_n 0, 1) := by decide +kernel
theorem d_passwordKey_14 : decode b_passwordKey 14 = .ok (.getfield 74, 3) := by decide +kernel
theorem d_passwordKey_17 : decode b_passwordKey 17 = .ok (.aload_n 0, 1) := by decide +kernel
theorem d_passwordKey_18 : decode b_passwordKey 18 = .ok (.getfield 418, 3) := by decide +kernel
theorem d_passwordKey_21 : decode b_passwordKey 21 = .ok (.invokevirtual 421, 3) := by decide +kernel
theorem d_passwordKey_24 : decode b_passwordKey 24 = .ok (.aload_n 0, 1) := by decide +kernel
theorem d_passwordKey_25 : decode b_passwordKey 25 = .ok (.invokevirtual 423, 3) := by decide +kernel
theorem d_passwordKey_28 : decode b_passwordKey 28 = .ok (.iconst 0, 1) := by decide +kernel
theorem d_passwordKey_29 : decode b_passwordKey 29 = .ok (.istore 5, 2) := by decide +kernel
theorem d_passwordKey_31 : decode b_passwordKey 31 = .ok (.iload 5, 2) := by decide +kernel
theorem d_passwordKey_33 : decode b_passwordKey 33 = .ok (.aload_n 0, 1) := by decide +kernel
theorem d_passwordKey_34 : decode b_passwordKey 34 = .ok (.getfield 426, 3) := by decide +kernel
theorem d_passwordKey_37 : decode b_passwordKey 37 = .ok (.if_icmp .ge 20, 3) := by decide +kernel
theorem d_passwordKey_40 : decode b_passwordKey 40 = .ok (.aload_n 0, 1) := by decide +kernel
theorem d_passwordKey_41 : decode b_passwordKey 41 = .ok (.aload_n 0, 1) := by decide +kernel
theorem d_passwordKey_42 : decode b_passwordKey 42 = .ok (.getfield 71, 3) := by decide +kernel
theorem d_passwordKey_45 : decode b_passwordKey 45 = .ok (.iload 5, 2) := by decide +kernel
theorem d_passwordKey_47 : decode b_passwordKey 47 = .ok (.baload, 1) := by decide +kernel
theorem d_passwordKey_48 : decode b_passwordKey 48 = .ok (.invokevirtual 370, 3) := by decide +kernel
theorem d_passwordKey_51 : decode b_passwordKey 51 = .ok (.iinc 5 1, 3) := by decide +kernel
theorem d_passwordKey_54 : decode b_passwordKey 54 = .ok (.goto (-23), 3) := by decide +kernel
theorem d_passwordKey_57 : decode b_passwordKey 57 = .ok (.iconst 0, 1) := by decide +kernel
theorem d_passwordKey_58 : decode b_passwordKey 58 = .ok (.istore 5, 2) := by decide +kernel
theorem d_passwordKey_60 : decode b_passwordKey 60 = .ok (.iload 5, 2) := by decide +kernel
theorem d_passwordKey_62 : decode b_passwordKey 62 = .ok (.iconst 4, 1) := by decide +kernel
theorem d_passwordKey_63 : decode b_passwordKey 63 = .ok (.if_icmp .ge 27, 3) := by decide +kernel
theorem d_passwordKey_66 : decode b_passwordKey 66 = .ok (.aload_n 0, 1) := by decide +kernel
theorem d_passwordKey_67 : decode b_passwordKey 67 = .ok (.iload 5, 2) := by decide +kernel
theorem d_passwordKey_69 : decode b_passwordKey 69 = .ok (.iconst 3, 1) := by decide +kernel
theorem d_passwordKey_70 : decode b_passwordKey 70 = .ok (.if_icmp .ne 10, 3) := by decide +kernel
theorem d_passwordKey_73 : decode b_passwordKey 73 = .ok (.iload 4, 2) := by decide +kernel
theorem d_passwordKey_75 : decode b_passwordKey 75 = .ok (.iconst 1, 1) := by decide +kernel
theorem d_passwordKey_76 : decode b_passwordKey 76 = .ok (.iadd, 1) := by decide +kernel
theorem d_passwordKey_77 : decode b_passwordKey 77 = .ok (.goto 4, 3) := by decide +kernel
theorem d_passwordKey_80 : decode b_passwordKey 80 = .ok (.iconst 0, 1) := by decide +kernel
theorem d_passwordKey_81 : decode b_passwordKey 81 = .ok (.invokevirtual 370, 3) := by decide +kernel
theorem d_passwordKey_84 : decode b_passwordKey 84 = .ok (.iinc 5 1, 3) := by decide +kernel
theorem d_passwordKey_87 : decode b_passwordKey 87 = .ok (.goto (-27), 3) := by decide +kernel
theorem d_passwordKey_90 : decode b_passwordKey 90 = .ok (.aload_n 0, 1) := by decide +kernel
theorem d_passwordKey_91 : decode b_passwordKey 91 = .ok (.invokevirtual 429, 3) := by decide +kernel
theorem d_passwordKey_94 : decode b_passwordKey 94 = .ok (.iconst 0, 1) := by decide +kernel
theorem d_passwordKey_95 : decode b_passwordKey 95 = .ok (.istore 5, 2) := by decide +kernel
theorem d_passwordKey_97 : decode b_passwordKey 97 = .ok (.iload 5, 2) := by decide +kernel
theorem d_passwordKey_99 : decode b_passwordKey 99 = .ok (.bipush 20, 2) := by decide +kernel
theorem d_passwordKey_101 : decode b_passwordKey 101 = .ok (.if_icmp .ge 23, 3) := by decide +kernel
theorem d_passwordKey_104 : decode b_passwordKey 104 = .ok (.aload_n 0, 1) := by decide +kernel
theorem d_passwordKey_105 : decode b_passwordKey 105 = .ok (.getfield 77, 3) := by decide +kernel
theorem d_passwordKey_108 : decode b_passwordKey 108 = .ok (.iload 5, 2) := by decide +kernel
theorem d_passwordKey_110 : decode b_passwordKey 110 = .ok (.aload_n 0, 1) := by decide +kernel
theorem d_passwordKey_111 : decode b_passwordKey 111 = .ok (.getfield 35, 3) := by decide +kernel
theorem d_passwordKey_114 : decode b_passwordKey 114 = .ok (.iload 5, 2) := by decide +kernel
theorem d_passwordKey_116 : decode b_passwordKey 116 = .ok (.baload, 1) := by decide +kernel
theorem d_passwordKey_117 : decode b_passwordKey 117 = .ok (.bastore, 1) := by decide +kernel
theorem d_passwordKey_118 : decode b_passwordKey 118 = .ok (.iinc 5 1, 3) := by decide +kernel
theorem d_passwordKey_121 : decode b_passwordKey 121 = .ok (.goto (-24), 3) := by decide +kernel
theorem d_passwordKey_124 : decode b_passwordKey 124 = .ok (.iconst 1, 1) := by decide +kernel
theorem d_passwordKey_125 : decode b_passwordKey 125 = .ok (.istore 5, 2) := by decide +kernel
theorem d_passwordKey_127 : decode b_passwordKey 127 = .ok (.iload 5, 2) := by decide +kernel
theorem d_passwordKey_129 : decode b_passwordKey 129 = .ok (.iload_n 2, 1) := by decide +kernel
theorem d_passwordKey_130 : decode b_passwordKey 130 = .ok (.if_icmp .ge 78, 3) := by decide +kernel
theorem d_passwordKey_133 : decode b_passwordKey 133 = .ok (.aload_n 0, 1) := by decide +kernel
theorem d_passwordKey_134 : decode b_passwordKey 134 = .ok (.invokevirtual 423, 3) := by decide +kernel
theorem d_passwordKey_137 : decode b_passwordKey 137 = .ok (.iconst 0, 1) := by decide +kernel
theorem d_passwordKey_138 : decode b_passwordKey 138 = .ok (.istore 6, 2) := by decide +kernel
theorem d_passwordKey_140 : decode b_passwordKey 140 = .ok (.iload 6, 2) := by decide +kernel
theorem d_passwordKey_142 : decode b_passwordKey 142 = .ok (.bipush 20, 2) := by decide +kernel
theorem d_passwordKey_144 : decode b_passwordKey 144 = .ok (.if_icmp .ge 20, 3) := by decide +kernel
theorem d_passwordKey_147 : decode b_passwordKey 147 = .ok (.aload_n 0, 1) := by decide +kernel
theorem d_passwordKey_148 : decode b_passwordKey 148 = .ok (.aload_n 0, 1) := by decide +kernel
theorem d_passwordKey_149 : decode b_passwordKey 149 = .ok (.getfield 35, 3) := by decide +kernel
theorem d_passwordKey_152 : decode b_passwordKey 152 = .ok (.iload 6, 2) := by decide +kernel
theorem d_passwordKey_154 : decode b_passwordKey 154 = .ok (.baload, 1) := by decide +kernel
theorem d_passwordKey_155 : decode b_passwordKey 155 = .ok (.invokevirtual 370, 3) := by decide +kernel
theorem d_passwordKey_158 : decode b_passwordKey 158 = .ok (.iinc 6 1, 3) := by decide +kernel
theorem d_passwordKey_161 : decode b_passwordKey 161 = .ok (.goto (-21), 3) := by decide +kernel
theorem d_passwordKey_164 : decode b_passwordKey 164 = .ok (.aload_n 0, 1) := by decide +kernel
theorem d_passwordKey_165 : decode b_passwordKey 165 = .ok (.invokevirtual 429, 3) := by decide +kernel
theorem d_passwordKey_168 : decode b_passwordKey 168 = .ok (.iconst 0, 1) := by decide +kernel
theorem d_passwordKey_169 : decode b_passwordKey 169 = .ok (.istore 6, 2) := by decide +kernel
theorem d_passwordKey_171 : decode b_passwordKey 171 = .ok (.iload 6, 2) := by decide +kernel
theorem d_passwordKey_173 : decode b_passwordKey 173 = .ok (.bipush 20, 2) := by decide +kernel
theorem d_passwordKey_175 : decode b_passwordKey 175 = .ok (.if_icmp .ge 27, 3) := by decide +kernel
theorem d_passwordKey_178 : decode b_passwordKey 178 = .ok (.aload_n 0, 1) := by decide +kernel
theorem d_passwordKey_179 : decode b_passwordKey 179 = .ok (.getfield 77, 3) := by decide +kernel
theorem d_passwordKey_182 : decode b_passwordKey 182 = .ok (.iload 6, 2) := by decide +kernel
theorem d_passwordKey_184 : decode b_passwordKey 184 = .ok (.dup2, 1) := by decide +kernel
theorem d_passwordKey_185 : decode b_passwordKey 185 = .ok (.baload, 1) := by decide +kernel
theorem d_passwordKey_186 : decode b_passwordKey 186 = .ok (.aload_n 0, 1) := by decide +kernel
theorem d_passwordKey_187 : decode b_passwordKey 187 = .ok (.getfield 35, 3) := by decide +kernel
theorem d_passwordKey_190 : decode b_passwordKey 190 = .ok (.iload 6, 2) := by decide +kernel
theorem d_passwordKey_192 : decode b_passwordKey 192 = .ok (.baload, 1) := by decide +kernel
theorem d_passwordKey_193 : decode b_passwordKey 193 = .ok (.ixor, 1) := by decide +kernel
theorem d_passwordKey_194 : decode b_passwordKey 194 = .ok (.i2b, 1) := by decide +kernel
theorem d_passwordKey_195 : decode b_passwordKey 195 = .ok (.bastore, 1) := by decide +kernel
theorem d_passwordKey_196 : decode b_passwordKey 196 = .ok (.iinc 6 1, 3) := by decide +kernel
theorem d_passwordKey_199 : decode b_passwordKey 199 = .ok (.goto (-28), 3) := by decide +kernel
theorem d_passwordKey_202 : decode b_passwordKey 202 = .ok (.iinc 5 1, 3) := by decide +kernel
theorem d_passwordKey_205 : decode b_passwordKey 205 = .ok (.goto (-78), 3) := by decide +kernel
theorem d_passwordKey_208 : decode b_passwordKey 208 = .ok (.iconst 0, 1) := by decide +kernel
theorem d_passwordKey_209 : decode b_passwordKey 209 = .ok (.istore 5, 2) := by decide +kernel
theorem d_passwordKey_211 : decode b_passwordKey 211 = .ok (.iload 5, 2) := by decide +kernel
theorem d_passwordKey_213 : decode b_passwordKey 213 = .ok (.bipush 20, 2) := by decide +kernel
theorem d_passwordKey_215 : decode b_passwordKey 215 = .ok (.if_icmp .ge 29, 3) := by decide +kernel
theorem d_passwordKey_218 : decode b_passwordKey 218 = .ok (.aload_n 0, 1) := by decide +kernel
theorem d_passwordKey_219 : decode b_passwordKey 219 = .ok (.getfield 80, 3) := by decide +kernel
theorem d_passwordKey_222 : decode b_passwordKey 222 = .ok (.bipush 20, 2) := by decide +kernel
theorem d_passwordKey_224 : decode b_passwordKey 224 = .ok (.iload 4, 2) := by decide +kernel
theorem d_passwordKey_226 : decode b_passwordKey 226 = .ok (.imul, 1) := by decide +kernel
theorem d_passwordKey_227 : decode b_passwordKey 227 = .ok (.iload 5, 2) := by decide +kernel
theorem d_passwordKey_229 : decode b_passwordKey 229 = .ok (.iadd, 1) := by decide +kernel
theorem d_passwordKey_230 : decode b_passwordKey 230 = .ok (.aload_n 0, 1) := by decide +kernel
theorem d_passwordKey_231 : decode b_passwordKey 231 = .ok (.getfield 77, 3) := by decide +kernel
theorem d_passwordKey_234 : decode b_passwordKey 234 = .ok (.iload 5, 2) := by decide +kernel
theorem d_passwordKey_236 : decode b_passwordKey 236 = .ok (.baload, 1) := by decide +kernel
theorem d_passwordKey_237 : decode b_passwordKey 237 = .ok (.bastore, 1) := by decide +kernel
theorem d_passwordKey_238 : decode b_passwordKey 238 = .ok (.iinc 5 1, 3) := by decide +kernel
theorem d_passwordKey_241 : decode b_passwordKey 241 = .ok (.goto (-30), 3) := by decide +kernel
theorem d_passwordKey_244 : decode b_passwordKey 244 = .ok (.iinc 4 1, 3) := by decide +kernel
theorem d_passwordKey_247 : decode b_passwordKey 247 = .ok (.goto (-244), 3) := by decide +kernel
theorem d_passwordKey_250 : decode b_passwordKey 250 = .ok (.aload_n 0, 1) := by decide +kernel
theorem d_passwordKey_251 : decode b_passwordKey 251 = .ok (.aload_n 0, 1) := by decide +kernel
theorem d_passwordKey_252 : decode b_passwordKey 252 = .ok (.getfield 80, 3) := by decide +kernel
theorem d_passwordKey_255 : decode b_passwordKey 255 = .ok (.iload_n 1, 1) := by decide +kernel
theorem d_passwordKey_256 : decode b_passwordKey 256 = .ok (.aload_n 0, 1) := by decide +kernel
theorem d_passwordKey_257 : decode b_passwordKey 257 = .ok (.getfield 83, 3) := by decide +kernel
theorem d_passwordKey_260 : decode b_passwordKey 260 = .ok (.bipush 8, 2) := by decide +kernel
theorem d_passwordKey_262 : decode b_passwordKey 262 = .ok (.aload_n 3, 1) := by decide +kernel
theorem d_passwordKey_263 : decode b_passwordKey 263 = .ok (.invokevirtual 414, 3) := by decide +kernel
theorem d_passwordKey_266 : decode b_passwordKey 266 = .ok (.return_, 1) := by decide +kernel
theorem kx_foldOf : Cond.selects R_M y_foldOf y_foldOf ∈ lw_tg := List.mem_filter.mpr ⟨List.mem_append_left _ (List.mem_of_getElem? (i := 87) (by decide +kernel)), rfl⟩
theorem hd_foldOf : y_foldOf.cls = R_M ∧ y_foldOf.cls ≠ "java/lang/invoke/MethodHandle" ∧ y_foldOf.cls ≠ "java/lang/invoke/VarHandle" ∧ (parseMethodDescriptor y_foldOf.desc).map (fun d => d.parameters.length) = some 2 := by decide +kernel
theorem kx_derive : Cond.selects R_M y_derive y_derive ∈ lw_tg := List.mem_filter.mpr ⟨List.mem_append_left _ (List.mem_of_getElem? (i := 86) (by decide +kernel)), rfl⟩
theorem hd_derive : y_derive.cls = R_M ∧ y_derive.cls ≠ "java/lang/invoke/MethodHandle" ∧ y_derive.cls ≠ "java/lang/invoke/VarHandle" ∧ (parseMethodDescriptor y_derive.desc).map (fun d => d.parameters.length) = some 5 := by decide +kernel
theorem kx_passwordKey : Cond.selects R_M y_passwordKey y_passwordKey ∈ lw_tg := List.mem_filter.mpr ⟨List.mem_append_left _ (List.mem_of_getElem? (i := 79) (by decide +kernel)), rfl⟩
theorem hd_passwordKey : y_passwordKey.cls = R_M ∧ y_passwordKey.cls ≠ "java/lang/invoke/MethodHandle" ∧ y_passwordKey.cls ≠ "java/lang/invoke/VarHandle" ∧ (parseMethodDescriptor y_passwordKey.desc).map (fun d => d.parameters.length) = some 3 := by decide +kernel
set_option maxHeartbeats 4000000 in
set_option maxRecDepth 100000 in
theorem c_foldOf_kerberos (l : Launch) (D : mD) (E : mE) (h : Nat) (q : Nat → Nat) (sz : Nat) (I : Nat → Int32) (J : Nat → Int64) (B : Nat → Nat → Int32) (G : Nat → Nat → Int64)  : Met l y_foldOf (k_foldOf :: lw_tg) (mR 0 0) (va_Pc [.ref h, .ref (q 28), .int (nI 8)] (mPre D E h q (I, J, B, G) sz)) (va_Qv (fun (u : mS) => (∀ j, u.1 j = I j) ∧ u.2.1 = J ∧ (∀ j, j ≠ 19 → j ≠ 21 → u.2.2.1 j = B j) ∧ u.2.2.2 = G) (mPost D E h q (mA E h q sz)) (mA E h q sz)) 0 0 (mA E h q sz) := by
  refine m_enter (by decide) rfl (Nat.le_of_ble_eq_true rfl) (fun p e s m below meth c ls AV QQ H locs hQQ X Y hZ hA hr hlk hml hl => ?_)
  have Y : mH D E (mA E h q sz) s.heap h q I J B G H locs := Y
  have hl : lv_has ls 11 [(0, .ref h), (1, .ref (q 28)), (2, .int (nI 8))] := hl
  refine lv_iload_n X.1 X.2.1 d_foldOf_0 rfl (lv_at hl 2 rfl) ?_
  refine lv_istore_n (lv' := [(3, .int (nI 8)), (0, .ref h), (1, .ref (q 28)), (2, .int (nI 8))]) X.1 X.2.1 d_foldOf_1 rfl hl (by decide) rfl (fun ls hl => ?_)
  refine lv_iload_n X.1 X.2.1 d_foldOf_2 rfl (lv_at hl 0 rfl) ?_
  refine lv_bipush (v := (nI 16)) X.1 X.2.1 d_foldOf_3 (by decide) ?_
  refine lv_irem X.1 X.2.1 d_foldOf_5 (nI_ne0 (by omega) (by omega)) ?_
  refine t_eq (y := nI 8) (by decide) ?_
  refine lv_if_eq (tgt := 16) X.1 X.2.1 d_foldOf_6 (by decide) (fun c1 => absurd c1 ?_) (fun c1 => ?_)
  · (rw [← nI_0, nI_eq (by omega) (by omega)] <;> omega)
  rw [← nI_0] at c1
  rw [nI_eq (by omega) (by omega)] at c1
  refine lv_iload_n X.1 X.2.1 d_foldOf_9 rfl (lv_at hl 0 rfl) ?_
  refine lv_iload_n X.1 X.2.1 d_foldOf_10 rfl (lv_at hl 3 rfl) ?_
  refine lv_iadd X.1 X.2.1 d_foldOf_11 ?_
  refine t_eq (y := nI 16) (by decide) ?_
  refine lv_istore_n (lv' := [(3, .int (nI 16)), (0, .ref h), (1, .ref (q 28)), (2, .int (nI 8))]) X.1 X.2.1 d_foldOf_12 rfl hl (by decide) rfl (fun ls hl => ?_)
  refine lv_goto (tgt := 2) X.1 X.2.1 d_foldOf_13 (by decide) ?_
  refine lv_iload_n X.1 X.2.1 d_foldOf_2 rfl (lv_at hl 0 rfl) ?_
  refine lv_bipush (v := (nI 16)) X.1 X.2.1 d_foldOf_3 (by decide) ?_
  refine lv_irem X.1 X.2.1 d_foldOf_5 (nI_ne0 (by omega) (by omega)) ?_
  refine t_eq (y := nI 0) (by decide) ?_
  refine lv_if_eq (tgt := 16) X.1 X.2.1 d_foldOf_6 (by decide) (fun c2 => ?_) (fun c2 => absurd ?_ c2)
  rotate_left
  · (rw [← nI_0, nI_eq (by omega) (by omega)] <;> omega)
  rw [← nI_0] at c2
  rw [nI_eq (by omega) (by omega)] at c2
  refine lv_aload_n X.1 X.2.1 d_foldOf_16 rfl (lv_at hl 1 rfl) ?_
  refine m_get X Y 21 (by decide) lk_folding (gf_folding _ _ _) rfl d_foldOf_17 ?_
  refine lv_astore (lv' := [(4, .ref (q 21)), (3, .int (nI 16)), (0, .ref h), (1, .ref (q 28)), (2, .int (nI 8))]) X.1 X.2.1 d_foldOf_20 hl (by decide) rfl (fun ls hl => ?_)
  refine lv_iconst (v := (nI 0)) X.1 X.2.1 d_foldOf_22 (by decide) ?_
  refine lv_istore (lv' := [(5, .int (nI 0)), (4, .ref (q 21)), (3, .int (nI 16)), (0, .ref h), (1, .ref (q 28)), (2, .int (nI 8))]) X.1 X.2.1 d_foldOf_23 hl (by decide) rfl (fun ls hl => ?_)
  have lp6 : ∀ (n3 i4 : Nat) (B7 : Nat → Nat → Int32) (H : Heap) (locs : List Loc) (ls : Array Slot), i4 + n3 = 16 → 0 ≤ i4 → (∀ j, j ≠ 19 → j ≠ 21 → B7 j = B j) → mH D E (mA E h q sz) s.heap h q I J B7 G H locs → lv_has ls 11 [(5, .int (nI i4)), (4, .ref (q 21)), (3, .int (nI 16)), (0, .ref h), (1, .ref (q 28)), (2, .int (nI 8))] → W p l e (mR 0 0) s m AV below meth c H locs 0 0 QQ (F0 m 25 ls []) := by
    intro n3
    induction n3 with
    | zero =>
      intro i4 B7 H locs ls hii4 hsi4 hB8  Y hl
      refine lv_iload X.1 X.2.1 d_foldOf_25 (lv_at hl 0 rfl) ?_
      refine lv_bipush (v := (nI 16)) X.1 X.2.1 d_foldOf_27 (by decide) ?_
      refine lv_icmp_ge (tgt := 44) X.1 X.2.1 d_foldOf_29 (by decide) (fun c9 => ?_) (fun c9 => absurd ?_ c9)
      rotate_left
      · (rw [nI_leI (by omega) (by omega)] <;> omega)
      rw [nI_leI (by omega) (by omega)] at c9
      refine lv_iconst (v := (nI 0)) X.1 X.2.1 d_foldOf_44 (by decide) ?_
      refine lv_istore (lv' := [(5, .int (nI 0)), (4, .ref (q 21)), (3, .int (nI 16)), (0, .ref h), (1, .ref (q 28)), (2, .int (nI 8))]) X.1 X.2.1 d_foldOf_45 hl (by decide) rfl (fun ls hl => ?_)
      have lp13 : ∀ (n10 i11 : Nat) (B14 : Nat → Nat → Int32) (H : Heap) (locs : List Loc) (ls : Array Slot), i11 + n10 = 16 → 0 ≤ i11 → (∀ j, j ≠ 19 → j ≠ 21 → B14 j = B j) → mH D E (mA E h q sz) s.heap h q I J B14 G H locs → lv_has ls 11 [(5, .int (nI i11)), (4, .ref (q 21)), (3, .int (nI 16)), (0, .ref h), (1, .ref (q 28)), (2, .int (nI 8))] → W p l e (mR 0 0) s m AV below meth c H locs 0 0 QQ (F0 m 47 ls []) := by
        intro n10
        induction n10 with
        | zero =>
          intro i11 B14 H locs ls hii11 hsi11 hB15  Y hl
          refine lv_iload X.1 X.2.1 d_foldOf_47 (lv_at hl 0 rfl) ?_
          refine lv_iload_n X.1 X.2.1 d_foldOf_49 rfl (lv_at hl 2 rfl) ?_
          refine lv_icmp_ge (tgt := 159) X.1 X.2.1 d_foldOf_50 (by decide) (fun c16 => ?_) (fun c16 => absurd ?_ c16)
          rotate_left
          · (rw [nI_leI (by omega) (by omega)] <;> omega)
          rw [nI_leI (by omega) (by omega)] at c16
          refine lv_iconst (v := (nI 0)) X.1 X.2.1 d_foldOf_159 (by decide) ?_
          refine lv_istore (lv' := [(5, .int (nI 0)), (4, .ref (q 21)), (3, .int (nI 16)), (0, .ref h), (1, .ref (q 28)), (2, .int (nI 8))]) X.1 X.2.1 d_foldOf_160 hl (by decide) rfl (fun ls hl => ?_)
          have lp20 : ∀ (n17 i18 : Nat) (B21 : Nat → Nat → Int32) (H : Heap) (locs : List Loc) (ls : Array Slot), i18 + n17 = 40 → 0 ≤ i18 → (∀ j, j ≠ 19 → j ≠ 21 → B21 j = B j) → mH D E (mA E h q sz) s.heap h q I J B21 G H locs → lv_has ls 11 [(5, .int (nI i18)), (4, .ref (q 21)), (3, .int (nI 16)), (0, .ref h), (1, .ref (q 28)), (2, .int (nI 8))] → W p l e (mR 0 0) s m AV below meth c H locs 0 0 QQ (F0 m 162 ls []) := by
            intro n17
            induction n17 with
            | zero =>
              intro i18 B21 H locs ls hii18 hsi18 hB22  Y hl
              refine lv_iload X.1 X.2.1 d_foldOf_162 (lv_at hl 0 rfl) ?_
              refine lv_bipush (v := (nI 40)) X.1 X.2.1 d_foldOf_164 (by decide) ?_
              refine lv_icmp_ge (tgt := 231) X.1 X.2.1 d_foldOf_166 (by decide) (fun c23 => ?_) (fun c23 => absurd ?_ c23)
              rotate_left
              · (rw [nI_leI (by omega) (by omega)] <;> omega)
              rw [nI_leI (by omega) (by omega)] at c23
              refine lv_iconst (v := (nI 0)) X.1 X.2.1 d_foldOf_231 (by decide) ?_
              refine lv_istore (lv' := [(5, .int (nI 0)), (4, .ref (q 21)), (3, .int (nI 16)), (0, .ref h), (1, .ref (q 28)), (2, .int (nI 8))]) X.1 X.2.1 d_foldOf_232 hl (by decide) rfl (fun ls hl => ?_)
              have lp27 : ∀ (n24 i25 : Nat) (B28 : Nat → Nat → Int32) (H : Heap) (locs : List Loc) (ls : Array Slot), i25 + n24 = 16 → 0 ≤ i25 → (∀ j, j ≠ 19 → j ≠ 21 → B28 j = B j) → mH D E (mA E h q sz) s.heap h q I J B28 G H locs → lv_has ls 11 [(5, .int (nI i25)), (4, .ref (q 21)), (3, .int (nI 16)), (0, .ref h), (1, .ref (q 28)), (2, .int (nI 8))] → W p l e (mR 0 0) s m AV below meth c H locs 0 0 QQ (F0 m 234 ls []) := by
                intro n24
                induction n24 with
                | zero =>
                  intro i25 B28 H locs ls hii25 hsi25 hB29  Y hl
                  refine lv_iload X.1 X.2.1 d_foldOf_234 (lv_at hl 0 rfl) ?_
                  refine lv_bipush (v := (nI 16)) X.1 X.2.1 d_foldOf_236 (by decide) ?_
                  refine lv_icmp_ge (tgt := 260) X.1 X.2.1 d_foldOf_238 (by decide) (fun c30 => ?_) (fun c30 => absurd ?_ c30)
                  rotate_left
                  · (rw [nI_leI (by omega) (by omega)] <;> omega)
                  rw [nI_leI (by omega) (by omega)] at c30
                  exact m_retv hQQ X Y hr hlk ⟨(fun j  => rfl), rfl, (fun j h19 h21 => (hB29 j h19 h21)), rfl⟩ d_foldOf_260
                | succ n24 ih26 =>
                  intro i25 B28 H locs ls hii25 hsi25 hB29  Y hl
                  refine lv_iload X.1 X.2.1 d_foldOf_234 (lv_at hl 0 rfl) ?_
                  refine lv_bipush (v := (nI 16)) X.1 X.2.1 d_foldOf_236 (by decide) ?_
                  refine lv_icmp_ge (tgt := 260) X.1 X.2.1 d_foldOf_238 (by decide) (fun c31 => absurd c31 ?_) (fun c31 => ?_)
                  · (rw [nI_leI (by omega) (by omega)] <;> omega)
                  rw [nI_leI (by omega) (by omega)] at c31
                  refine lv_aload_n X.1 X.2.1 d_foldOf_241 rfl (lv_at hl 3 rfl) ?_
                  refine m_get X Y 19 (by decide) lk_fold (gf_fold _ _ _) rfl d_foldOf_242 ?_
                  refine lv_iload X.1 X.2.1 d_foldOf_245 (lv_at hl 0 rfl) ?_
                  refine lv_aload X.1 X.2.1 d_foldOf_247 (lv_at hl 1 rfl) ?_
                  refine lv_iload X.1 X.2.1 d_foldOf_249 (lv_at hl 0 rfl) ?_
                  refine m_iald X Y (aw_folding _ _ _ _ _ _ _) (vp_in_nI (by omega) (by decide)) d_foldOf_251 ?_
                  refine t_any (fun v32 => ?_)
                  obtain ⟨v33, ev33⟩ : ∃ z : Int32, (v32 : Int32).toInt8.toInt32 = z := ⟨_, rfl⟩
                  refine lv_i2b (v := v33) X.1 X.2.1 d_foldOf_252 ev33 ?_
                  refine m_bast X Y (aw_fold _ _ _ _ _ _ _) (vp_in_nI (by omega) (by decide)) (sw_fold _ _ _ _ _ _ _ _) d_foldOf_253 (fun H locs Y => ?_)
                  generalize (upd (B28 19) ((nI i25)).toNatClampNeg (vp_nar .byte v33)) = f34 at Y
                  refine lv_iinc (v := (nI (i25 + 1))) (lv' := [(5, .int (nI (i25 + 1))), (4, .ref (q 21)), (3, .int (nI 16)), (0, .ref h), (1, .ref (q 28)), (2, .int (nI 8))]) X.1 X.2.1 d_foldOf_254 hl (k := 0) rfl (nI_add _ 1) (by decide) rfl (fun ls hl => ?_)
                  refine lv_goto (tgt := 234) X.1 X.2.1 d_foldOf_257 (by decide) ?_
                  exact ih26 (i25 + 1) (upB B28 19 f34) _ _ _ (by omega) (by omega) (fun j h19 h21 => ((if_neg h19).trans (hB29 j h19 h21)))  Y (lv_sub hl [0, 1, 2, 3, 4, 5] rfl)
              exact lp27 (16) 0 B21 _ _ _ (by omega) (by omega) (fun j h19 h21 => (hB22 j h19 h21))  Y (lv_sub hl [0, 1, 2, 3, 4, 5] rfl)
            | succ n17 ih19 =>
              intro i18 B21 H locs ls hii18 hsi18 hB22  Y hl
              refine lv_iload X.1 X.2.1 d_foldOf_162 (lv_at hl 0 rfl) ?_
              refine lv_bipush (v := (nI 40)) X.1 X.2.1 d_foldOf_164 (by decide) ?_
              refine lv_icmp_ge (tgt := 231) X.1 X.2.1 d_foldOf_166 (by decide) (fun c35 => absurd c35 ?_) (fun c35 => ?_)
              · (rw [nI_leI (by omega) (by omega)] <;> omega)
              rw [nI_leI (by omega) (by omega)] at c35
              refine lv_iconst (v := (nI 0)) X.1 X.2.1 d_foldOf_169 (by decide) ?_
              refine lv_istore (lv' := [(6, .int (nI 0)), (5, .int (nI i18)), (4, .ref (q 21)), (3, .int (nI 16)), (0, .ref h), (1, .ref (q 28)), (2, .int (nI 8))]) X.1 X.2.1 d_foldOf_170 hl (by decide) rfl (fun ls hl => ?_)
              refine lv_bipush (v := (nI 15)) X.1 X.2.1 d_foldOf_172 (by decide) ?_
              refine lv_istore (lv' := [(7, .int (nI 15)), (6, .int (nI 0)), (5, .int (nI i18)), (4, .ref (q 21)), (3, .int (nI 16)), (0, .ref h), (1, .ref (q 28)), (2, .int (nI 8))]) X.1 X.2.1 d_foldOf_174 hl (by decide) rfl (fun ls hl => ?_)
              have lp39 : ∀ (n36 : Nat) (B40 : Nat → Nat → Int32) (x41 : Int32) (H : Heap) (locs : List Loc) (ls : Array Slot), n36 ≤ 16 → (∀ j, j ≠ 19 → j ≠ 21 → B40 j = B j) → mH D E (mA E h q sz) s.heap h q I J B40 G H locs → lv_has ls 11 [(7, .int (nI n36 + (-1))), (6, .int x41), (5, .int (nI i18)), (4, .ref (q 21)), (3, .int (nI 16)), (0, .ref h), (1, .ref (q 28)), (2, .int (nI 8))] → W p l e (mR 0 0) s m AV below meth c H locs 0 0 QQ (F0 m 176 ls []) := by
                intro n36
                induction n36 with
                | zero =>
                  intro  B40 x41 H locs ls hii37  hB42  Y hl
                  refine lv_iload X.1 X.2.1 d_foldOf_176 (lv_at hl 0 rfl) ?_
                  refine lv_if_lt (tgt := 215) X.1 X.2.1 d_foldOf_178 (by decide) (fun c43 => ?_) (fun c43 => absurd ?_ c43)
                  rotate_left
                  · decide
                  refine lv_aload X.1 X.2.1 d_foldOf_215 (lv_at hl 3 rfl) ?_
                  refine lv_bipush (v := (nI 15)) X.1 X.2.1 d_foldOf_217 (by decide) ?_
                  refine lv_dup2_11 X.1 X.2.1 d_foldOf_219 rfl rfl ?_
                  refine m_iald X Y (aw_folding _ _ _ _ _ _ _) (vp_in_nI (by omega) (by decide)) d_foldOf_220 ?_
                  refine t_any (fun v44 => ?_)
                  refine lv_iload X.1 X.2.1 d_foldOf_221 (lv_at hl 1 rfl) ?_
                  refine lv_iadd X.1 X.2.1 d_foldOf_223 ?_
                  refine t_any (fun v45 => ?_)
                  refine m_iast X Y (aw_folding _ _ _ _ _ _ _) (vp_in_nI (by omega) (by decide)) (sw_folding _ _ _ _ _ _ _ _) d_foldOf_224 (fun H locs Y => ?_)
                  generalize (upd (B40 21) ((nI 15)).toNatClampNeg v45) = f46 at Y
                  refine lv_iinc (v := (nI (i18 + 1))) (lv' := [(5, .int (nI (i18 + 1))), (7, .int (nI 0 + (-1))), (6, .int x41), (4, .ref (q 21)), (3, .int (nI 16)), (0, .ref h), (1, .ref (q 28)), (2, .int (nI 8))]) X.1 X.2.1 d_foldOf_225 hl (k := 2) rfl (nI_add _ 1) (by decide) rfl (fun ls hl => ?_)
                  refine lv_goto (tgt := 162) X.1 X.2.1 d_foldOf_228 (by decide) ?_
                  exact ih19 (i18 + 1) (upB B40 21 f46) _ _ _ (by omega) (by omega) (fun j h19 h21 => ((if_neg h21).trans (hB42 j h19 h21)))  Y (lv_sub hl [0, 3, 4, 5, 6, 7] rfl)
                | succ n36 ih38 =>
                  intro  B40 x41 H locs ls hii37  hB42  Y hl
                  rw [show nI (n36 + 1) + (-1) = nI n36 from pk_m1 n36] at hl
                  refine lv_iload X.1 X.2.1 d_foldOf_176 (lv_at hl 0 rfl) ?_
                  refine lv_if_lt (tgt := 215) X.1 X.2.1 d_foldOf_178 (by decide) (fun c47 => absurd c47 ?_) (fun c47 => ?_)
                  · (exact nI_pos (by omega))
                  rw [← nI_0] at c47
                  rw [nI_ltI (by omega) (by omega)] at c47
                  refine lv_aload X.1 X.2.1 d_foldOf_181 (lv_at hl 3 rfl) ?_
                  refine lv_iload X.1 X.2.1 d_foldOf_183 (lv_at hl 0 rfl) ?_
                  refine m_iald X Y (aw_folding _ _ _ _ _ _ _) (vp_in_nI (by omega) (by decide)) d_foldOf_185 ?_
                  refine t_any (fun v48 => ?_)
                  refine lv_iload X.1 X.2.1 d_foldOf_186 (lv_at hl 1 rfl) ?_
                  refine lv_iadd X.1 X.2.1 d_foldOf_188 ?_
                  refine t_any (fun v49 => ?_)
                  refine lv_istore (lv' := [(8, .int v49), (7, .int (nI n36)), (6, .int x41), (5, .int (nI i18)), (4, .ref (q 21)), (3, .int (nI 16)), (0, .ref h), (1, .ref (q 28)), (2, .int (nI 8))]) X.1 X.2.1 d_foldOf_189 hl (by decide) rfl (fun ls hl => ?_)
                  refine lv_aload X.1 X.2.1 d_foldOf_191 (lv_at hl 4 rfl) ?_
                  refine lv_iload X.1 X.2.1 d_foldOf_193 (lv_at hl 1 rfl) ?_
                  refine lv_iload X.1 X.2.1 d_foldOf_195 (lv_at hl 0 rfl) ?_
                  refine lv_sipush (v := (nI 255)) X.1 X.2.1 d_foldOf_197 (by decide) ?_
                  refine lv_iand X.1 X.2.1 d_foldOf_200 ?_
                  obtain ⟨j50, hj50, ej50⟩ := pk_andE v49 (m := nI 255) 8 (by decide)
                  refine t_eq ej50 ?_
                  have hj50 : j50 < 256 := hj50
                  refine m_iast X Y (aw_folding _ _ _ _ _ _ _) (vp_in_nI (by omega) (by decide)) (sw_folding _ _ _ _ _ _ _ _) d_foldOf_201 (fun H locs Y => ?_)
                  generalize (upd (B40 21) ((nI n36)).toNatClampNeg (nI j50)) = f51 at Y
                  refine lv_iload X.1 X.2.1 d_foldOf_202 (lv_at hl 0 rfl) ?_
                  refine lv_bipush (v := (nI 8)) X.1 X.2.1 d_foldOf_204 (by decide) ?_
                  refine lv_ishr X.1 X.2.1 d_foldOf_206 ?_
                  refine t_any (fun v52 => ?_)
                  refine lv_istore (lv' := [(6, .int v52), (8, .int v49), (7, .int (nI n36)), (5, .int (nI i18)), (4, .ref (q 21)), (3, .int (nI 16)), (0, .ref h), (1, .ref (q 28)), (2, .int (nI 8))]) X.1 X.2.1 d_foldOf_207 hl (by decide) rfl (fun ls hl => ?_)
                  refine lv_iinc (v := (nI n36 + (-1))) (lv' := [(7, .int (nI n36 + (-1))), (6, .int v52), (8, .int v49), (5, .int (nI i18)), (4, .ref (q 21)), (3, .int (nI 16)), (0, .ref h), (1, .ref (q 28)), (2, .int (nI 8))]) X.1 X.2.1 d_foldOf_209 hl (k := 2) rfl (congrArg (fun z => nI n36 + z) (by decide)) (by decide) rfl (fun ls hl => ?_)
                  refine lv_goto (tgt := 176) X.1 X.2.1 d_foldOf_212 (by decide) ?_
                  exact ih38  (upB B40 21 f51) (v52) _ _ _ (by omega)  (fun j h19 h21 => ((if_neg h21).trans (hB42 j h19 h21)))  Y (lv_sub hl [0, 1, 3, 4, 5, 6, 7, 8] rfl)
              rw [show (nI 15) = nI 16 + (-1) from rfl] at hl
              exact lp39 (16)  B21 ((nI 0)) _ _ _ (by omega)  (fun j h19 h21 => (hB22 j h19 h21))  Y (lv_sub hl [0, 1, 2, 3, 4, 5, 6, 7] rfl)
          exact lp20 (40) 0 B14 _ _ _ (by omega) (by omega) (fun j h19 h21 => (hB15 j h19 h21))  Y (lv_sub hl [0, 1, 2, 3, 4, 5] rfl)
        | succ n10 ih12 =>
          intro i11 B14 H locs ls hii11 hsi11 hB15  Y hl
          refine lv_iload X.1 X.2.1 d_foldOf_47 (lv_at hl 0 rfl) ?_
          refine lv_iload_n X.1 X.2.1 d_foldOf_49 rfl (lv_at hl 2 rfl) ?_
          refine lv_icmp_ge (tgt := 159) X.1 X.2.1 d_foldOf_50 (by decide) (fun c53 => absurd c53 ?_) (fun c53 => ?_)
          · (rw [nI_leI (by omega) (by omega)] <;> omega)
          rw [nI_leI (by omega) (by omega)] at c53
          refine lv_iload X.1 X.2.1 d_foldOf_53 (lv_at hl 0 rfl) ?_
          refine lv_iload_n X.1 X.2.1 d_foldOf_55 rfl (lv_at hl 5 rfl) ?_
          refine lv_idiv X.1 X.2.1 d_foldOf_56 (nI_ne0 (by omega) (by omega)) ?_
          refine t_eq (y := nI ((i11) / (8))) (pk_div (by omega) (by omega) (by omega)) ?_
          refine lv_istore (lv' := [(6, .int (nI ((i11) / (8)))), (5, .int (nI i11)), (4, .ref (q 21)), (3, .int (nI 16)), (0, .ref h), (1, .ref (q 28)), (2, .int (nI 8))]) X.1 X.2.1 d_foldOf_57 hl (by decide) rfl (fun ls hl => ?_)
          refine lv_bipush (v := (nI 13)) X.1 X.2.1 d_foldOf_59 (by decide) ?_
          refine lv_iload X.1 X.2.1 d_foldOf_61 (lv_at hl 0 rfl) ?_
          refine lv_imul X.1 X.2.1 d_foldOf_63 ?_
          refine t_eq (y := nI ((13) * ((i11) / (8)))) (pk_mul _ _) ?_
          refine lv_bipush (v := (nI 8)) X.1 X.2.1 d_foldOf_64 (by decide) ?_
          refine lv_iload_n X.1 X.2.1 d_foldOf_66 rfl (lv_at hl 6 rfl) ?_
          refine lv_imul X.1 X.2.1 d_foldOf_67 ?_
          refine t_eq (y := nI 64) (by decide) ?_
          refine lv_irem X.1 X.2.1 d_foldOf_68 (nI_ne0 (by omega) (by omega)) ?_
          refine t_eq (y := nI (((13) * ((i11) / (8))) % (64))) (pk_rem (by omega) (by omega) (by omega)) ?_
          refine lv_istore (lv' := [(7, .int (nI (((13) * ((i11) / (8))) % (64)))), (6, .int (nI ((i11) / (8)))), (5, .int (nI i11)), (4, .ref (q 21)), (3, .int (nI 16)), (0, .ref h), (1, .ref (q 28)), (2, .int (nI 8))]) X.1 X.2.1 d_foldOf_69 hl (by decide) rfl (fun ls hl => ?_)
          refine lv_iconst (v := (nI 0)) X.1 X.2.1 d_foldOf_71 (by decide) ?_
          refine lv_istore (lv' := [(8, .int (nI 0)), (7, .int (nI (((13) * ((i11) / (8))) % (64)))), (6, .int (nI ((i11) / (8)))), (5, .int (nI i11)), (4, .ref (q 21)), (3, .int (nI 16)), (0, .ref h), (1, .ref (q 28)), (2, .int (nI 8))]) X.1 X.2.1 d_foldOf_72 hl (by decide) rfl (fun ls hl => ?_)
          refine lv_iconst (v := (nI 0)) X.1 X.2.1 d_foldOf_74 (by decide) ?_
          refine lv_istore (lv' := [(9, .int (nI 0)), (8, .int (nI 0)), (7, .int (nI (((13) * ((i11) / (8))) % (64)))), (6, .int (nI ((i11) / (8)))), (5, .int (nI i11)), (4, .ref (q 21)), (3, .int (nI 16)), (0, .ref h), (1, .ref (q 28)), (2, .int (nI 8))]) X.1 X.2.1 d_foldOf_75 hl (by decide) rfl (fun ls hl => ?_)
          have lp57 : ∀ (n54 i55 : Nat) (x58 : Int32) (H : Heap) (locs : List Loc) (ls : Array Slot), i55 + n54 = 8 → 0 ≤ i55 → mH D E (mA E h q sz) s.heap h q I J B14 G H locs → lv_has ls 11 [(9, .int (nI i55)), (8, .int x58), (7, .int (nI (((13) * ((i11) / (8))) % (64)))), (6, .int (nI ((i11) / (8)))), (5, .int (nI i11)), (4, .ref (q 21)), (3, .int (nI 16)), (0, .ref h), (1, .ref (q 28)), (2, .int (nI 8))] → W p l e (mR 0 0) s m AV below meth c H locs 0 0 QQ (F0 m 77 ls []) := by
            intro n54
            induction n54 with
            | zero =>
              intro i55 x58 H locs ls hii55 hsi55   Y hl
              refine lv_iload X.1 X.2.1 d_foldOf_77 (lv_at hl 0 rfl) ?_
              refine lv_bipush (v := (nI 8)) X.1 X.2.1 d_foldOf_79 (by decide) ?_
              refine lv_icmp_ge (tgt := 140) X.1 X.2.1 d_foldOf_81 (by decide) (fun c59 => ?_) (fun c59 => absurd ?_ c59)
              rotate_left
              · (rw [nI_leI (by omega) (by omega)] <;> omega)
              rw [nI_leI (by omega) (by omega)] at c59
              refine lv_aload X.1 X.2.1 d_foldOf_140 (lv_at hl 5 rfl) ?_
              refine lv_iload X.1 X.2.1 d_foldOf_142 (lv_at hl 4 rfl) ?_
              refine lv_bipush (v := (nI 16)) X.1 X.2.1 d_foldOf_144 (by decide) ?_
              refine lv_irem X.1 X.2.1 d_foldOf_146 (nI_ne0 (by omega) (by omega)) ?_
              refine t_eq (y := nI ((i11) % (16))) (pk_rem (by omega) (by omega) (by omega)) ?_
              refine lv_dup2_11 X.1 X.2.1 d_foldOf_147 rfl rfl ?_
              refine m_iald X Y (aw_folding _ _ _ _ _ _ _) (vp_in_nI (by omega) (by decide)) d_foldOf_148 ?_
              refine t_any (fun v60 => ?_)
              refine lv_iload X.1 X.2.1 d_foldOf_149 (lv_at hl 1 rfl) ?_
              refine lv_iadd X.1 X.2.1 d_foldOf_151 ?_
              refine t_any (fun v61 => ?_)
              refine m_iast X Y (aw_folding _ _ _ _ _ _ _) (vp_in_nI (by omega) (by decide)) (sw_folding _ _ _ _ _ _ _ _) d_foldOf_152 (fun H locs Y => ?_)
              generalize (upd (B14 21) ((nI ((i11) % (16)))).toNatClampNeg v61) = f62 at Y
              refine lv_iinc (v := (nI (i11 + 1))) (lv' := [(5, .int (nI (i11 + 1))), (9, .int (nI i55)), (8, .int x58), (7, .int (nI (((13) * ((i11) / (8))) % (64)))), (6, .int (nI ((i11) / (8)))), (4, .ref (q 21)), (3, .int (nI 16)), (0, .ref h), (1, .ref (q 28)), (2, .int (nI 8))]) X.1 X.2.1 d_foldOf_153 hl (k := 4) rfl (nI_add _ 1) (by decide) rfl (fun ls hl => ?_)
              refine lv_goto (tgt := 47) X.1 X.2.1 d_foldOf_156 (by decide) ?_
              exact ih12 (i11 + 1) (upB B14 21 f62) _ _ _ (by omega) (by omega) (fun j h19 h21 => ((if_neg h21).trans (hB15 j h19 h21)))  Y (lv_sub hl [0, 5, 6, 7, 8, 9] rfl)
            | succ n54 ih56 =>
              intro i55 x58 H locs ls hii55 hsi55   Y hl
              refine lv_iload X.1 X.2.1 d_foldOf_77 (lv_at hl 0 rfl) ?_
              refine lv_bipush (v := (nI 8)) X.1 X.2.1 d_foldOf_79 (by decide) ?_
              refine lv_icmp_ge (tgt := 140) X.1 X.2.1 d_foldOf_81 (by decide) (fun c63 => absurd c63 ?_) (fun c63 => ?_)
              · (rw [nI_leI (by omega) (by omega)] <;> omega)
              rw [nI_leI (by omega) (by omega)] at c63
              refine lv_bipush (v := (nI 8)) X.1 X.2.1 d_foldOf_84 (by decide) ?_
              refine lv_iload X.1 X.2.1 d_foldOf_86 (lv_at hl 4 rfl) ?_
              refine lv_iload_n X.1 X.2.1 d_foldOf_88 rfl (lv_at hl 9 rfl) ?_
              refine lv_irem X.1 X.2.1 d_foldOf_89 (nI_ne0 (by omega) (by omega)) ?_
              refine t_eq (y := nI ((i11) % (8))) (pk_rem (by omega) (by omega) (by omega)) ?_
              refine lv_imul X.1 X.2.1 d_foldOf_90 ?_
              refine t_eq (y := nI ((8) * ((i11) % (8)))) (pk_mul _ _) ?_
              refine lv_iload X.1 X.2.1 d_foldOf_91 (lv_at hl 0 rfl) ?_
              refine lv_iadd X.1 X.2.1 d_foldOf_93 ?_
              refine t_eq (y := nI ((8) * ((i11) % (8)) + i55)) (nI_add _ _) ?_
              refine lv_iload X.1 X.2.1 d_foldOf_94 (lv_at hl 2 rfl) ?_
              refine lv_isub X.1 X.2.1 d_foldOf_96 ?_
              refine lv_bipush (v := (nI 8)) X.1 X.2.1 d_foldOf_97 (by decide) ?_
              refine lv_iload_n X.1 X.2.1 d_foldOf_99 rfl (lv_at hl 9 rfl) ?_
              refine lv_imul X.1 X.2.1 d_foldOf_100 ?_
              refine t_eq (y := nI 64) (by decide) ?_
              refine lv_iadd X.1 X.2.1 d_foldOf_101 ?_
              refine t_eq (y := nI ((8) * ((i11) % (8)) + i55 + (64) - (((13) * ((i11) / (8))) % (64)))) (n_subadd (by omega)) ?_
              refine lv_bipush (v := (nI 8)) X.1 X.2.1 d_foldOf_102 (by decide) ?_
              refine lv_iload_n X.1 X.2.1 d_foldOf_104 rfl (lv_at hl 9 rfl) ?_
              refine lv_imul X.1 X.2.1 d_foldOf_105 ?_
              refine t_eq (y := nI 64) (by decide) ?_
              refine lv_irem X.1 X.2.1 d_foldOf_106 (nI_ne0 (by omega) (by omega)) ?_
              refine t_eq (y := nI (((8) * ((i11) % (8)) + i55 + (64) - (((13) * ((i11) / (8))) % (64))) % (64))) (pk_rem (by omega) (by omega) (by omega)) ?_
              refine lv_istore (lv' := [(10, .int (nI (((8) * ((i11) % (8)) + i55 + (64) - (((13) * ((i11) / (8))) % (64))) % (64)))), (9, .int (nI i55)), (8, .int x58), (7, .int (nI (((13) * ((i11) / (8))) % (64)))), (6, .int (nI ((i11) / (8)))), (5, .int (nI i11)), (4, .ref (q 21)), (3, .int (nI 16)), (0, .ref h), (1, .ref (q 28)), (2, .int (nI 8))]) X.1 X.2.1 d_foldOf_107 hl (by decide) rfl (fun ls hl => ?_)
              refine lv_iload X.1 X.2.1 d_foldOf_109 (lv_at hl 2 rfl) ?_
              refine lv_iconst (v := (nI 1)) X.1 X.2.1 d_foldOf_111 (by decide) ?_
              refine lv_ishl X.1 X.2.1 d_foldOf_112 ?_
              refine t_any (fun v64 => ?_)
              refine lv_aload_n X.1 X.2.1 d_foldOf_113 rfl (lv_at hl 9 rfl) ?_
              refine lv_iload X.1 X.2.1 d_foldOf_114 (lv_at hl 0 rfl) ?_
              refine lv_bipush (v := (nI 8)) X.1 X.2.1 d_foldOf_116 (by decide) ?_
              refine lv_idiv X.1 X.2.1 d_foldOf_118 (nI_ne0 (by omega) (by omega)) ?_
              refine t_eq (y := nI ((((8) * ((i11) % (8)) + i55 + (64) - (((13) * ((i11) / (8))) % (64))) % (64)) / (8))) (pk_div (by omega) (by omega) (by omega)) ?_
              refine m_bald X Y (aw_kerberos _ _ _ _ _ _ _) (vp_in_nI (by omega) (by decide)) d_foldOf_119 ?_
              refine t_any (fun v65 => ?_)
              refine lv_bipush (v := (nI 7)) X.1 X.2.1 d_foldOf_120 (by decide) ?_
              refine lv_iload X.1 X.2.1 d_foldOf_122 (lv_at hl 0 rfl) ?_
              refine lv_bipush (v := (nI 8)) X.1 X.2.1 d_foldOf_124 (by decide) ?_
              refine lv_irem X.1 X.2.1 d_foldOf_126 (nI_ne0 (by omega) (by omega)) ?_
              refine t_eq (y := nI ((((8) * ((i11) % (8)) + i55 + (64) - (((13) * ((i11) / (8))) % (64))) % (64)) % (8))) (pk_rem (by omega) (by omega) (by omega)) ?_
              refine lv_isub X.1 X.2.1 d_foldOf_127 ?_
              refine t_eq (y := nI (7 - ((((8) * ((i11) % (8)) + i55 + (64) - (((13) * ((i11) / (8))) % (64))) % (64)) % (8)))) (pk_sub (by omega)) ?_
              refine lv_ishr X.1 X.2.1 d_foldOf_128 ?_
              refine t_any (fun v66 => ?_)
              refine lv_iconst (v := (nI 1)) X.1 X.2.1 d_foldOf_129 (by decide) ?_
              refine lv_iand X.1 X.2.1 d_foldOf_130 ?_
              obtain ⟨j67, hj67, ej67⟩ := pk_andE v66 (m := nI 1) 1 (by decide)
              refine t_eq ej67 ?_
              have hj67 : j67 < 2 := hj67
              refine lv_ior X.1 X.2.1 d_foldOf_131 ?_
              refine t_any (fun v68 => ?_)
              refine lv_istore (lv' := [(8, .int v68), (10, .int (nI (((8) * ((i11) % (8)) + i55 + (64) - (((13) * ((i11) / (8))) % (64))) % (64)))), (9, .int (nI i55)), (7, .int (nI (((13) * ((i11) / (8))) % (64)))), (6, .int (nI ((i11) / (8)))), (5, .int (nI i11)), (4, .ref (q 21)), (3, .int (nI 16)), (0, .ref h), (1, .ref (q 28)), (2, .int (nI 8))]) X.1 X.2.1 d_foldOf_132 hl (by decide) rfl (fun ls hl => ?_)
              refine lv_iinc (v := (nI (i55 + 1))) (lv' := [(9, .int (nI (i55 + 1))), (8, .int v68), (10, .int (nI (((8) * ((i11) % (8)) + i55 + (64) - (((13) * ((i11) / (8))) % (64))) % (64)))), (7, .int (nI (((13) * ((i11) / (8))) % (64)))), (6, .int (nI ((i11) / (8)))), (5, .int (nI i11)), (4, .ref (q 21)), (3, .int (nI 16)), (0, .ref h), (1, .ref (q 28)), (2, .int (nI 8))]) X.1 X.2.1 d_foldOf_134 hl (k := 2) rfl (nI_add _ 1) (by decide) rfl (fun ls hl => ?_)
              refine lv_goto (tgt := 77) X.1 X.2.1 d_foldOf_137 (by decide) ?_
              exact ih56 (i55 + 1) (v68) _ _ _ (by omega) (by omega)   Y (lv_sub hl [0, 1, 3, 4, 5, 6, 7, 8, 9, 10] rfl)
          exact lp57 (8) 0 ((nI 0)) _ _ _ (by omega) (by omega)   Y (lv_sub hl [0, 1, 2, 3, 4, 5, 6, 7, 8, 9] rfl)
      exact lp13 (16) 0 B7 _ _ _ (by omega) (by omega) (fun j h19 h21 => (hB8 j h19 h21))  Y (lv_sub hl [0, 1, 2, 3, 4, 5] rfl)
    | succ n3 ih5 =>
      intro i4 B7 H locs ls hii4 hsi4 hB8  Y hl
      refine lv_iload X.1 X.2.1 d_foldOf_25 (lv_at hl 0 rfl) ?_
      refine lv_bipush (v := (nI 16)) X.1 X.2.1 d_foldOf_27 (by decide) ?_
      refine lv_icmp_ge (tgt := 44) X.1 X.2.1 d_foldOf_29 (by decide) (fun c69 => absurd c69 ?_) (fun c69 => ?_)
      · (rw [nI_leI (by omega) (by omega)] <;> omega)
      rw [nI_leI (by omega) (by omega)] at c69
      refine lv_aload X.1 X.2.1 d_foldOf_32 (lv_at hl 1 rfl) ?_
      refine lv_iload X.1 X.2.1 d_foldOf_34 (lv_at hl 0 rfl) ?_
      refine lv_iconst (v := (nI 0)) X.1 X.2.1 d_foldOf_36 (by decide) ?_
      refine m_iast X Y (aw_folding _ _ _ _ _ _ _) (vp_in_nI (by omega) (by decide)) (sw_folding _ _ _ _ _ _ _ _) d_foldOf_37 (fun H locs Y => ?_)
      generalize (upd (B7 21) ((nI i4)).toNatClampNeg (nI 0)) = f70 at Y
      refine lv_iinc (v := (nI (i4 + 1))) (lv' := [(5, .int (nI (i4 + 1))), (4, .ref (q 21)), (3, .int (nI 16)), (0, .ref h), (1, .ref (q 28)), (2, .int (nI 8))]) X.1 X.2.1 d_foldOf_38 hl (k := 0) rfl (nI_add _ 1) (by decide) rfl (fun ls hl => ?_)
      refine lv_goto (tgt := 25) X.1 X.2.1 d_foldOf_41 (by decide) ?_
      exact ih5 (i4 + 1) (upB B7 21 f70) _ _ _ (by omega) (by omega) (fun j h19 h21 => ((if_neg h21).trans (hB8 j h19 h21)))  Y (lv_sub hl [0, 1, 2, 3, 4, 5] rfl)
  exact lp6 (16) 0 B _ _ _ (by omega) (by omega) (fun j h19 h21 => rfl)  Y (lv_sub hl [0, 1, 2, 3, 4, 5] rfl)
set_option maxHeartbeats 4000000 in
set_option maxRecDepth 100000 in
theorem c_derive_16 (l : Launch) (D : mD) (E : mE) (h : Nat) (q : Nat → Nat) (sz : Nat) (I : Nat → Int32) (J : Nat → Int64) (B : Nat → Nat → Int32) (G : Nat → Nat → Int64)  (y12 : by8 (B 12)) (y13 : by8 (B 13)) (y16 : by8 (B 16)) (y17 : by8 (B 17)) : Met l y_derive (k_derive :: lw_tg) (mR 4 95) (va_Pc [.ref h, .ref (q 27), .int (nI 16), .ref (q 28), .int (nI 8), .ref (q 56)] (mPre D E h q (I, J, B, G) sz)) (va_Qv (fun (u : mS) => (∀ j, j ≠ 14 → j ≠ 18 → u.1 j = I j) ∧ u.2.1 = J ∧ (∀ j, j ≠ 12 → j ≠ 13 → j ≠ 15 → j ≠ 16 → j ≠ 17 → j ≠ 19 → j ≠ 20 → j ≠ 21 → j ≠ 56 → u.2.2.1 j = B j) ∧ u.2.2.2 = G ∧ by8 (u.2.2.1 12) ∧ by8 (u.2.2.1 13) ∧ by8 (u.2.2.1 16) ∧ by8 (u.2.2.1 17)) (mPost D E h q (mA E h q sz)) (mA E h q sz)) 0 0 (mA E h q sz) := by
  refine m_enter (by decide) rfl (Nat.le_of_ble_eq_true rfl) (fun p e s m below meth c ls AV QQ H locs hQQ X Y hZ hA hr hlk hml hl => ?_)
  have Y : mH D E (mA E h q sz) s.heap h q I J B G H locs := Y
  have hl : lv_has ls 8 [(0, .ref h), (1, .ref (q 27)), (2, .int (nI 16)), (3, .ref (q 28)), (4, .int (nI 8)), (5, .ref (q 56))] := hl
  refine lv_aload_n X.1 X.2.1 d_derive_0 rfl (lv_at hl 0 rfl) ?_
  refine lv_aload_n X.1 X.2.1 d_derive_1 rfl (lv_at hl 3 rfl) ?_
  refine lv_iload X.1 X.2.1 d_derive_2 (lv_at hl 4 rfl) ?_
  refine m_callv (As := [.ref (q 28), .int (nI 8)]) (rest := []) (n := 2) X Y hZ hA hml hl.1 (c_foldOf_kerberos l D E h q H.size I J B G ) kl_foldOf ks_foldOf kx_foldOf ki_foldOf ini_M hd_foldOf ⟨by decide, by decide⟩ rfl (Nat.le_of_ble_eq_true rfl) d_derive_4 ⟨Nat.le_refl _, Nat.le_refl _⟩ (fun u H locs hp Y => ?_)
  obtain ⟨I1, J2, B3, G4⟩ := u
  obtain ⟨hI5, eJ7, hB6, eG8⟩ := hp
  dsimp only at hI5 eJ7 hB6 eG8 Y
  rw [eJ7, eG8] at Y
  rw [show I1 = I from funext hI5] at Y
  have hB11 : (∀ j, j ≠ 12 → j ≠ 13 → j ≠ 15 → j ≠ 16 → j ≠ 17 → j ≠ 19 → j ≠ 20 → j ≠ 21 → j ≠ 56 → B3 j = B j) := fun j h12 h13 h15 h16 h17 h19 h20 h21 h56 => (hB6 j h19 h21).trans ((fun j h12 h13 h15 h16 h17 h19 h20 h21 h56 => rfl) j h12 h13 h15 h16 h17 h19 h20 h21 h56)
  refine lv_aload_n X.1 X.2.1 d_derive_7 rfl (lv_at hl 0 rfl) ?_
  refine lv_aload_n X.1 X.2.1 d_derive_8 rfl (lv_at hl 1 rfl) ?_
  refine lv_iload_n X.1 X.2.1 d_derive_9 rfl (lv_at hl 2 rfl) ?_
  refine m_callv (As := [.ref (q 27), .int (nI 16)]) (rest := []) (n := 2) X Y hZ hA hml hl.1 (c_aesKey_long0_16 l D E h q H.size I J B3 G  (show by8 (B3 12) from (by8_eq (hB6 12 (by decide) (by decide)) y12)) (show by8 (B3 13) from (by8_eq (hB6 13 (by decide) (by decide)) y13))) kl_aesKey ks_aesKey kx_aesKey ki_aesKey ini_M hd_aesKey ⟨by decide, by decide⟩ rfl (Nat.le_of_ble_eq_true rfl) d_derive_10 ⟨Nat.le_refl _, Nat.le_refl _⟩ (fun u H locs hp Y => ?_)
  obtain ⟨I12, J13, B14, G15⟩ := u
  obtain ⟨hI16, eJ18, hB17, eG19, hk23, y21, y22⟩ := hp
  dsimp only at hI16 eJ18 hB17 eG19 hk23 y21 y22 Y
  rw [eJ18, eG19] at Y
  have hI24 : (∀ j, j ≠ 14 → j ≠ 18 → I12 j = I j) := fun j h14 h18 => (hI16 j h14 h18).trans ((fun j h14 h18 => rfl) j h14 h18)
  have hB25 : (∀ j, j ≠ 12 → j ≠ 13 → j ≠ 15 → j ≠ 16 → j ≠ 17 → j ≠ 19 → j ≠ 20 → j ≠ 21 → j ≠ 56 → B14 j = B j) := fun j h12 h13 h15 h16 h17 h19 h20 h21 h56 => (hB17 j h12 h13 h15).trans ((fun j h12 h13 h15 h16 h17 h19 h20 h21 h56 => (hB11 j h12 h13 h15 h16 h17 h19 h20 h21 h56)) j h12 h13 h15 h16 h17 h19 h20 h21 h56)
  refine lv_iconst (v := (nI 0)) X.1 X.2.1 d_derive_13 (by decide) ?_
  refine lv_istore (lv' := [(6, .int (nI 0)), (0, .ref h), (1, .ref (q 27)), (2, .int (nI 16)), (3, .ref (q 28)), (4, .int (nI 8)), (5, .ref (q 56))]) X.1 X.2.1 d_derive_14 hl (by decide) rfl (fun ls hl => ?_)
  have lp29 : ∀ (n26 i27 : Nat) (B30 : Nat → Nat → Int32) (H : Heap) (locs : List Loc) (ls : Array Slot), i27 + n26 = 16 → 0 ≤ i27 → (∀ j, j ≠ 12 → j ≠ 13 → j ≠ 15 → j ≠ 16 → j ≠ 17 → j ≠ 19 → j ≠ 20 → j ≠ 21 → j ≠ 56 → B30 j = B j) → by8 (B30 16) → by8 (B30 17) → by8 (B30 12) → by8 (B30 13) → mH D E (mA E h q sz) s.heap h q I12 J B30 G H locs → lv_has ls 8 [(6, .int (nI i27)), (0, .ref h), (1, .ref (q 27)), (2, .int (nI 16)), (3, .ref (q 28)), (4, .int (nI 8)), (5, .ref (q 56))] → W p l e (mR 4 95) s m AV below meth c H locs 0 0 QQ (F0 m 16 ls []) := by
    intro n26
    induction n26 with
    | zero =>
      intro i27 B30 H locs ls hii27 hsi27 hB31 y32 y33 y34 y35  Y hl
      refine lv_iload X.1 X.2.1 d_derive_16 (lv_at hl 0 rfl) ?_
      refine lv_bipush (v := (nI 16)) X.1 X.2.1 d_derive_18 (by decide) ?_
      refine lv_icmp_ge (tgt := 47) X.1 X.2.1 d_derive_20 (by decide) (fun c36 => ?_) (fun c36 => absurd ?_ c36)
      rotate_left
      · (rw [nI_leI (by omega) (by omega)] <;> omega)
      rw [nI_leI (by omega) (by omega)] at c36
      refine lv_iconst (v := (nI 0)) X.1 X.2.1 d_derive_47 (by decide) ?_
      refine lv_istore (lv' := [(6, .int (nI 0)), (0, .ref h), (1, .ref (q 27)), (2, .int (nI 16)), (3, .ref (q 28)), (4, .int (nI 8)), (5, .ref (q 56))]) X.1 X.2.1 d_derive_48 hl (by decide) rfl (fun ls hl => ?_)
      have lp40 : ∀ (n37 i38 : Nat) (B41 : Nat → Nat → Int32) (H : Heap) (locs : List Loc) (ls : Array Slot), i38 + 16 * n37 = 16 → 0 ≤ i38 → (∀ j, j ≠ 12 → j ≠ 13 → j ≠ 15 → j ≠ 16 → j ≠ 17 → j ≠ 19 → j ≠ 20 → j ≠ 21 → j ≠ 56 → B41 j = B j) → by8 (B41 16) → by8 (B41 17) → by8 (B41 12) → by8 (B41 13) → mH D E (mA E h q sz) s.heap h q I12 J B41 G H locs → lv_has ls 8 [(6, .int (nI i38)), (0, .ref h), (1, .ref (q 27)), (2, .int (nI 16)), (3, .ref (q 28)), (4, .int (nI 8)), (5, .ref (q 56))] → W p l e (mR 4 95) s m AV below meth c H locs 0 0 QQ (F0 m 50 ls []) := by
        intro n37
        induction n37 with
        | zero =>
          intro i38 B41 H locs ls hii38 hsi38 hB42 y43 y44 y45 y46  Y hl
          refine lv_iload X.1 X.2.1 d_derive_50 (lv_at hl 0 rfl) ?_
          refine lv_iload_n X.1 X.2.1 d_derive_52 rfl (lv_at hl 3 rfl) ?_
          refine lv_icmp_ge (tgt := 100) X.1 X.2.1 d_derive_53 (by decide) (fun c47 => ?_) (fun c47 => absurd ?_ c47)
          rotate_left
          · (rw [nI_leI (by omega) (by omega)] <;> omega)
          rw [nI_leI (by omega) (by omega)] at c47
          refine lv_iconst (v := (nI 0)) X.1 X.2.1 d_derive_100 (by decide) ?_
          refine lv_istore (lv' := [(6, .int (nI 0)), (0, .ref h), (1, .ref (q 27)), (2, .int (nI 16)), (3, .ref (q 28)), (4, .int (nI 8)), (5, .ref (q 56))]) X.1 X.2.1 d_derive_101 hl (by decide) rfl (fun ls hl => ?_)
          have lp51 : ∀ (n48 i49 : Nat) (B52 : Nat → Nat → Int32) (H : Heap) (locs : List Loc) (ls : Array Slot), i49 + n48 = 16 → 0 ≤ i49 → (∀ j, j ≠ 12 → j ≠ 13 → j ≠ 15 → j ≠ 16 → j ≠ 17 → j ≠ 19 → j ≠ 20 → j ≠ 21 → j ≠ 56 → B52 j = B j) → by8 (B52 16) → by8 (B52 17) → by8 (B52 12) → by8 (B52 13) → mH D E (mA E h q sz) s.heap h q I12 J B52 G H locs → lv_has ls 8 [(6, .int (nI i49)), (0, .ref h), (1, .ref (q 27)), (2, .int (nI 16)), (3, .ref (q 28)), (4, .int (nI 8)), (5, .ref (q 56))] → W p l e (mR 4 95) s m AV below meth c H locs 0 0 QQ (F0 m 103 ls []) := by
            intro n48
            induction n48 with
            | zero =>
              intro i49 B52 H locs ls hii49 hsi49 hB53 y54 y55 y56 y57  Y hl
              refine lv_iload X.1 X.2.1 d_derive_103 (lv_at hl 0 rfl) ?_
              refine lv_iload_n X.1 X.2.1 d_derive_105 rfl (lv_at hl 3 rfl) ?_
              refine lv_icmp_ge (tgt := 127) X.1 X.2.1 d_derive_106 (by decide) (fun c58 => ?_) (fun c58 => absurd ?_ c58)
              rotate_left
              · (rw [nI_leI (by omega) (by omega)] <;> omega)
              rw [nI_leI (by omega) (by omega)] at c58
              exact m_retv hQQ X Y hr hlk ⟨(fun j h14 h18 => (hI24 j h14 h18)), rfl, (fun j h12 h13 h15 h16 h17 h19 h20 h21 h56 => (hB53 j h12 h13 h15 h16 h17 h19 h20 h21 h56)), rfl, (show by8 (B52 12) from y56), (show by8 (B52 13) from y57), (show by8 (B52 16) from y54), (show by8 (B52 17) from y55)⟩ d_derive_127
            | succ n48 ih50 =>
              intro i49 B52 H locs ls hii49 hsi49 hB53 y54 y55 y56 y57  Y hl
              refine lv_iload X.1 X.2.1 d_derive_103 (lv_at hl 0 rfl) ?_
              refine lv_iload_n X.1 X.2.1 d_derive_105 rfl (lv_at hl 3 rfl) ?_
              refine lv_icmp_ge (tgt := 127) X.1 X.2.1 d_derive_106 (by decide) (fun c59 => absurd c59 ?_) (fun c59 => ?_)
              · (rw [nI_leI (by omega) (by omega)] <;> omega)
              rw [nI_leI (by omega) (by omega)] at c59
              refine lv_aload X.1 X.2.1 d_derive_109 (lv_at hl 6 rfl) ?_
              refine lv_iload X.1 X.2.1 d_derive_111 (lv_at hl 0 rfl) ?_
              refine lv_aload_n X.1 X.2.1 d_derive_113 rfl (lv_at hl 1 rfl) ?_
              refine m_get X Y 20 (by decide) lk_derived (gf_derived _ _ _) rfl d_derive_114 ?_
              refine lv_iload X.1 X.2.1 d_derive_117 (lv_at hl 0 rfl) ?_
              refine m_bald X Y (aw_derived _ _ _ _ _ _ _) (vp_in_nI (by omega) (by decide)) d_derive_119 ?_
              refine t_any (fun v60 => ?_)
              refine m_bast X Y (aw_made _ _ _ _ _ _ _) (vp_in_nI (by omega) (by decide)) (sw_made _ _ _ _ _ _ _ _) d_derive_120 (fun H locs Y => ?_)
              generalize (upd (B52 56) ((nI i49)).toNatClampNeg (vp_nar .byte v60)) = f61 at Y
              refine lv_iinc (v := (nI (i49 + 1))) (lv' := [(6, .int (nI (i49 + 1))), (0, .ref h), (1, .ref (q 27)), (2, .int (nI 16)), (3, .ref (q 28)), (4, .int (nI 8)), (5, .ref (q 56))]) X.1 X.2.1 d_derive_121 hl (k := 0) rfl (nI_add _ 1) (by decide) rfl (fun ls hl => ?_)
              refine lv_goto (tgt := 103) X.1 X.2.1 d_derive_124 (by decide) ?_
              exact ih50 (i49 + 1) (upB B52 56 f61) _ _ _ (by omega) (by omega) (fun j h12 h13 h15 h16 h17 h19 h20 h21 h56 => ((if_neg h56).trans (hB53 j h12 h13 h15 h16 h17 h19 h20 h21 h56))) (show by8 ((upB B52 56 f61) 16) from y54) (show by8 ((upB B52 56 f61) 17) from y55) (show by8 ((upB B52 56 f61) 12) from y56) (show by8 ((upB B52 56 f61) 13) from y57)  Y (lv_sub hl [0, 1, 2, 3, 4, 5, 6] rfl)
          exact lp51 (16) 0 B41 _ _ _ (by omega) (by omega) (fun j h12 h13 h15 h16 h17 h19 h20 h21 h56 => (hB42 j h12 h13 h15 h16 h17 h19 h20 h21 h56)) (show by8 (B41 16) from y43) (show by8 (B41 17) from y44) (show by8 (B41 12) from y45) (show by8 (B41 13) from y46)  Y (lv_sub hl [0, 1, 2, 3, 4, 5, 6] rfl)
        | succ n37 ih39 =>
          intro i38 B41 H locs ls hii38 hsi38 hB42 y43 y44 y45 y46  Y hl
          refine lv_iload X.1 X.2.1 d_derive_50 (lv_at hl 0 rfl) ?_
          refine lv_iload_n X.1 X.2.1 d_derive_52 rfl (lv_at hl 3 rfl) ?_
          refine lv_icmp_ge (tgt := 100) X.1 X.2.1 d_derive_53 (by decide) (fun c62 => absurd c62 ?_) (fun c62 => ?_)
          · (rw [nI_leI (by omega) (by omega)] <;> omega)
          rw [nI_leI (by omega) (by omega)] at c62
          refine lv_aload_n X.1 X.2.1 d_derive_56 rfl (lv_at hl 1 rfl) ?_
          refine m_callv (As := []) (rest := []) (n := 0) X Y hZ hA hml hl.1 (c_cover l D E h q H.size I12 J B41 G (10) hk23 (by omega) (show by8 (B41 12) from y45) (show by8 (B41 16) from y43) (show by8 (B41 17) from y44)) kl_cover ks_cover kx_cover ki_cover ini_M hd_cover ⟨by decide, by decide⟩ rfl (Nat.le_of_ble_eq_true rfl) d_derive_57 ⟨Nat.le_refl _, Nat.le_refl _⟩ (fun u H locs hp Y => ?_)
          obtain ⟨I63, J64, B65, G66⟩ := u
          obtain ⟨hI67, eJ69, hB68, eG70, y72, y73⟩ := hp
          dsimp only at hI67 eJ69 hB68 eG70 y72 y73 Y
          rw [eJ69, eG70] at Y
          rw [show I63 = I12 from funext hI67] at Y
          have hB75 : (∀ j, j ≠ 12 → j ≠ 13 → j ≠ 15 → j ≠ 16 → j ≠ 17 → j ≠ 19 → j ≠ 20 → j ≠ 21 → j ≠ 56 → B65 j = B j) := fun j h12 h13 h15 h16 h17 h19 h20 h21 h56 => (hB68 j h16 h17).trans ((fun j h12 h13 h15 h16 h17 h19 h20 h21 h56 => (hB42 j h12 h13 h15 h16 h17 h19 h20 h21 h56)) j h12 h13 h15 h16 h17 h19 h20 h21 h56)
          refine lv_iconst (v := (nI 0)) X.1 X.2.1 d_derive_60 (by decide) ?_
          refine lv_istore (lv' := [(7, .int (nI 0)), (6, .int (nI i38)), (0, .ref h), (1, .ref (q 27)), (2, .int (nI 16)), (3, .ref (q 28)), (4, .int (nI 8)), (5, .ref (q 56))]) X.1 X.2.1 d_derive_61 hl (by decide) rfl (fun ls hl => ?_)
          have lp79 : ∀ (n76 i77 : Nat) (B80 : Nat → Nat → Int32) (H : Heap) (locs : List Loc) (ls : Array Slot), i77 + n76 = 16 → 0 ≤ i77 → (∀ j, j ≠ 12 → j ≠ 13 → j ≠ 15 → j ≠ 16 → j ≠ 17 → j ≠ 19 → j ≠ 20 → j ≠ 21 → j ≠ 56 → B80 j = B j) → by8 (B80 12) → by8 (B80 13) → by8 (B80 16) → by8 (B80 17) → mH D E (mA E h q sz) s.heap h q I12 J B80 G H locs → lv_has ls 8 [(7, .int (nI i77)), (6, .int (nI i38)), (0, .ref h), (1, .ref (q 27)), (2, .int (nI 16)), (3, .ref (q 28)), (4, .int (nI 8)), (5, .ref (q 56))] → W p l e (mR 4 95) s m AV below meth c H locs 0 0 QQ (F0 m 63 ls []) := by
            intro n76
            induction n76 with
            | zero =>
              intro i77 B80 H locs ls hii77 hsi77 hB81 y82 y83 y84 y85  Y hl
              refine lv_iload X.1 X.2.1 d_derive_63 (lv_at hl 0 rfl) ?_
              refine lv_bipush (v := (nI 16)) X.1 X.2.1 d_derive_65 (by decide) ?_
              refine lv_icmp_ge (tgt := 94) X.1 X.2.1 d_derive_67 (by decide) (fun c86 => ?_) (fun c86 => absurd ?_ c86)
              rotate_left
              · (rw [nI_leI (by omega) (by omega)] <;> omega)
              rw [nI_leI (by omega) (by omega)] at c86
              refine lv_iinc (v := (nI (i38 + 16))) (lv' := [(6, .int (nI (i38 + 16))), (7, .int (nI i77)), (0, .ref h), (1, .ref (q 27)), (2, .int (nI 16)), (3, .ref (q 28)), (4, .int (nI 8)), (5, .ref (q 56))]) X.1 X.2.1 d_derive_94 hl (k := 1) rfl (nI_add _ 16) (by decide) rfl (fun ls hl => ?_)
              refine lv_goto (tgt := 50) X.1 X.2.1 d_derive_97 (by decide) ?_
              exact ih39 (i38 + 16) B80 _ _ _ (by omega) (by omega) (fun j h12 h13 h15 h16 h17 h19 h20 h21 h56 => (hB81 j h12 h13 h15 h16 h17 h19 h20 h21 h56)) (show by8 (B80 16) from y84) (show by8 (B80 17) from y85) (show by8 (B80 12) from y82) (show by8 (B80 13) from y83)  Y (lv_sub hl [0, 2, 3, 4, 5, 6, 7] rfl)
            | succ n76 ih78 =>
              intro i77 B80 H locs ls hii77 hsi77 hB81 y82 y83 y84 y85  Y hl
              refine lv_iload X.1 X.2.1 d_derive_63 (lv_at hl 0 rfl) ?_
              refine lv_bipush (v := (nI 16)) X.1 X.2.1 d_derive_65 (by decide) ?_
              refine lv_icmp_ge (tgt := 94) X.1 X.2.1 d_derive_67 (by decide) (fun c87 => absurd c87 ?_) (fun c87 => ?_)
              · (rw [nI_leI (by omega) (by omega)] <;> omega)
              rw [nI_leI (by omega) (by omega)] at c87
              refine lv_aload_n X.1 X.2.1 d_derive_70 rfl (lv_at hl 2 rfl) ?_
              refine m_get X Y 20 (by decide) lk_derived (gf_derived _ _ _) rfl d_derive_71 ?_
              refine lv_iload X.1 X.2.1 d_derive_74 (lv_at hl 1 rfl) ?_
              refine lv_iload X.1 X.2.1 d_derive_76 (lv_at hl 0 rfl) ?_
              refine lv_iadd X.1 X.2.1 d_derive_78 ?_
              refine t_eq (y := nI (i38 + i77)) (nI_add _ _) ?_
              refine lv_aload_n X.1 X.2.1 d_derive_79 rfl (lv_at hl 2 rfl) ?_
              refine m_get X Y 16 (by decide) lk_state (gf_state _ _ _) rfl d_derive_80 ?_
              refine lv_iload X.1 X.2.1 d_derive_83 (lv_at hl 0 rfl) ?_
              refine m_iald X Y (aw_state _ _ _ _ _ _ _) (vp_in_nI (by omega) (by decide)) d_derive_85 ?_
              obtain ⟨j88, hj88, ej88⟩ := y84 ((nI i77)).toNatClampNeg
              refine t_eq (show B80 16 ((nI i77)).toNatClampNeg = nI j88 from ej88) ?_
              obtain ⟨v89, ev89⟩ : ∃ z : Int32, ((nI j88) : Int32).toInt8.toInt32 = z := ⟨_, rfl⟩
              refine lv_i2b (v := v89) X.1 X.2.1 d_derive_86 ev89 ?_
              refine m_bast X Y (aw_derived _ _ _ _ _ _ _) (vp_in_nI (by omega) (by decide)) (sw_derived _ _ _ _ _ _ _ _) d_derive_87 (fun H locs Y => ?_)
              generalize (upd (B80 20) ((nI (i38 + i77))).toNatClampNeg (vp_nar .byte v89)) = f90 at Y
              refine lv_iinc (v := (nI (i77 + 1))) (lv' := [(7, .int (nI (i77 + 1))), (6, .int (nI i38)), (0, .ref h), (1, .ref (q 27)), (2, .int (nI 16)), (3, .ref (q 28)), (4, .int (nI 8)), (5, .ref (q 56))]) X.1 X.2.1 d_derive_88 hl (k := 0) rfl (nI_add _ 1) (by decide) rfl (fun ls hl => ?_)
              refine lv_goto (tgt := 63) X.1 X.2.1 d_derive_91 (by decide) ?_
              exact ih78 (i77 + 1) (upB B80 20 f90) _ _ _ (by omega) (by omega) (fun j h12 h13 h15 h16 h17 h19 h20 h21 h56 => ((if_neg h20).trans (hB81 j h12 h13 h15 h16 h17 h19 h20 h21 h56))) (show by8 ((upB B80 20 f90) 12) from y82) (show by8 ((upB B80 20 f90) 13) from y83) (show by8 ((upB B80 20 f90) 16) from y84) (show by8 ((upB B80 20 f90) 17) from y85)  Y (lv_sub hl [0, 1, 2, 3, 4, 5, 6, 7] rfl)
          exact lp79 (16) 0 B65 _ _ _ (by omega) (by omega) (fun j h12 h13 h15 h16 h17 h19 h20 h21 h56 => (hB75 j h12 h13 h15 h16 h17 h19 h20 h21 h56)) (show by8 (B65 12) from (by8_eq (hB68 12 (by decide) (by decide)) y45)) (show by8 (B65 13) from (by8_eq (hB68 13 (by decide) (by decide)) y46)) (show by8 (B65 16) from y72) (show by8 (B65 17) from y73)  Y (lv_sub hl [0, 1, 2, 3, 4, 5, 6, 7] rfl)
      exact lp40 ((16) / 16) 0 B30 _ _ _ (by omega) (by omega) (fun j h12 h13 h15 h16 h17 h19 h20 h21 h56 => (hB31 j h12 h13 h15 h16 h17 h19 h20 h21 h56)) (show by8 (B30 16) from y32) (show by8 (B30 17) from y33) (show by8 (B30 12) from y34) (show by8 (B30 13) from y35)  Y (lv_sub hl [0, 1, 2, 3, 4, 5, 6] rfl)
    | succ n26 ih28 =>
      intro i27 B30 H locs ls hii27 hsi27 hB31 y32 y33 y34 y35  Y hl
      refine lv_iload X.1 X.2.1 d_derive_16 (lv_at hl 0 rfl) ?_
      refine lv_bipush (v := (nI 16)) X.1 X.2.1 d_derive_18 (by decide) ?_
      refine lv_icmp_ge (tgt := 47) X.1 X.2.1 d_derive_20 (by decide) (fun c91 => absurd c91 ?_) (fun c91 => ?_)
      · (rw [nI_leI (by omega) (by omega)] <;> omega)
      rw [nI_leI (by omega) (by omega)] at c91
      refine lv_aload_n X.1 X.2.1 d_derive_23 rfl (lv_at hl 1 rfl) ?_
      refine m_get X Y 16 (by decide) lk_state (gf_state _ _ _) rfl d_derive_24 ?_
      refine lv_iload X.1 X.2.1 d_derive_27 (lv_at hl 0 rfl) ?_
      refine lv_aload_n X.1 X.2.1 d_derive_29 rfl (lv_at hl 1 rfl) ?_
      refine m_get X Y 19 (by decide) lk_fold (gf_fold _ _ _) rfl d_derive_30 ?_
      refine lv_iload X.1 X.2.1 d_derive_33 (lv_at hl 0 rfl) ?_
      refine m_bald X Y (aw_fold _ _ _ _ _ _ _) (vp_in_nI (by omega) (by decide)) d_derive_35 ?_
      refine t_any (fun v92 => ?_)
      refine lv_sipush (v := (nI 255)) X.1 X.2.1 d_derive_36 (by decide) ?_
      refine lv_iand X.1 X.2.1 d_derive_39 ?_
      obtain ⟨j93, hj93, ej93⟩ := pk_andE v92 (m := nI 255) 8 (by decide)
      refine t_eq ej93 ?_
      have hj93 : j93 < 256 := hj93
      refine m_iast X Y (aw_state _ _ _ _ _ _ _) (vp_in_nI (by omega) (by decide)) (sw_state _ _ _ _ _ _ _ _) d_derive_40 (fun H locs Y => ?_)
      have y95 : by8 (upd (B30 16) ((nI i27)).toNatClampNeg (nI j93)) := by8_upd y32 (show j93 < 256 by omega)
      generalize (upd (B30 16) ((nI i27)).toNatClampNeg (nI j93)) = f94 at Y y95
      refine lv_iinc (v := (nI (i27 + 1))) (lv' := [(6, .int (nI (i27 + 1))), (0, .ref h), (1, .ref (q 27)), (2, .int (nI 16)), (3, .ref (q 28)), (4, .int (nI 8)), (5, .ref (q 56))]) X.1 X.2.1 d_derive_41 hl (k := 0) rfl (nI_add _ 1) (by decide) rfl (fun ls hl => ?_)
      refine lv_goto (tgt := 16) X.1 X.2.1 d_derive_44 (by decide) ?_
      exact ih28 (i27 + 1) (upB B30 16 f94) _ _ _ (by omega) (by omega) (fun j h12 h13 h15 h16 h17 h19 h20 h21 h56 => ((if_neg h16).trans (hB31 j h12 h13 h15 h16 h17 h19 h20 h21 h56))) (show by8 ((upB B30 16 f94) 16) from y95) (show by8 ((upB B30 16 f94) 17) from y33) (show by8 ((upB B30 16 f94) 12) from y34) (show by8 ((upB B30 16 f94) 13) from y35)  Y (lv_sub hl [0, 1, 2, 3, 4, 5, 6] rfl)
  exact lp29 (16) 0 B14 _ _ _ (by omega) (by omega) (fun j h12 h13 h15 h16 h17 h19 h20 h21 h56 => (hB25 j h12 h13 h15 h16 h17 h19 h20 h21 h56)) (show by8 (B14 16) from (by8_eq (hB17 16 (by decide) (by decide) (by decide)) (by8_eq (hB6 16 (by decide) (by decide)) y16))) (show by8 (B14 17) from (by8_eq (hB17 17 (by decide) (by decide) (by decide)) (by8_eq (hB6 17 (by decide) (by decide)) y17))) (show by8 (B14 12) from y21) (show by8 (B14 13) from y22)  Y (lv_sub hl [0, 1, 2, 3, 4, 5, 6] rfl)
set_option maxHeartbeats 4000000 in
set_option maxRecDepth 100000 in
theorem c_derive_32 (l : Launch) (D : mD) (E : mE) (h : Nat) (q : Nat → Nat) (sz : Nat) (I : Nat → Int32) (J : Nat → Int64) (B : Nat → Nat → Int32) (G : Nat → Nat → Int64)  (y12 : by8 (B 12)) (y13 : by8 (B 13)) (y16 : by8 (B 16)) (y17 : by8 (B 17)) : Met l y_derive (k_derive :: lw_tg) (mR 4 95) (va_Pc [.ref h, .ref (q 27), .int (nI 32), .ref (q 28), .int (nI 8), .ref (q 56)] (mPre D E h q (I, J, B, G) sz)) (va_Qv (fun (u : mS) => (∀ j, j ≠ 14 → j ≠ 18 → u.1 j = I j) ∧ u.2.1 = J ∧ (∀ j, j ≠ 12 → j ≠ 13 → j ≠ 15 → j ≠ 16 → j ≠ 17 → j ≠ 19 → j ≠ 20 → j ≠ 21 → j ≠ 56 → u.2.2.1 j = B j) ∧ u.2.2.2 = G ∧ by8 (u.2.2.1 12) ∧ by8 (u.2.2.1 13) ∧ by8 (u.2.2.1 16) ∧ by8 (u.2.2.1 17)) (mPost D E h q (mA E h q sz)) (mA E h q sz)) 0 0 (mA E h q sz) := by
  refine m_enter (by decide) rfl (Nat.le_of_ble_eq_true rfl) (fun p e s m below meth c ls AV QQ H locs hQQ X Y hZ hA hr hlk hml hl => ?_)
  have Y : mH D E (mA E h q sz) s.heap h q I J B G H locs := Y
  have hl : lv_has ls 8 [(0, .ref h), (1, .ref (q 27)), (2, .int (nI 32)), (3, .ref (q 28)), (4, .int (nI 8)), (5, .ref (q 56))] := hl
  refine lv_aload_n X.1 X.2.1 d_derive_0 rfl (lv_at hl 0 rfl) ?_
  refine lv_aload_n X.1 X.2.1 d_derive_1 rfl (lv_at hl 3 rfl) ?_
  refine lv_iload X.1 X.2.1 d_derive_2 (lv_at hl 4 rfl) ?_
  refine m_callv (As := [.ref (q 28), .int (nI 8)]) (rest := []) (n := 2) X Y hZ hA hml hl.1 (c_foldOf_kerberos l D E h q H.size I J B G ) kl_foldOf ks_foldOf kx_foldOf ki_foldOf ini_M hd_foldOf ⟨by decide, by decide⟩ rfl (Nat.le_of_ble_eq_true rfl) d_derive_4 ⟨Nat.le_refl _, Nat.le_refl _⟩ (fun u H locs hp Y => ?_)
  obtain ⟨I1, J2, B3, G4⟩ := u
  obtain ⟨hI5, eJ7, hB6, eG8⟩ := hp
  dsimp only at hI5 eJ7 hB6 eG8 Y
  rw [eJ7, eG8] at Y
  rw [show I1 = I from funext hI5] at Y
  have hB11 : (∀ j, j ≠ 12 → j ≠ 13 → j ≠ 15 → j ≠ 16 → j ≠ 17 → j ≠ 19 → j ≠ 20 → j ≠ 21 → j ≠ 56 → B3 j = B j) := fun j h12 h13 h15 h16 h17 h19 h20 h21 h56 => (hB6 j h19 h21).trans ((fun j h12 h13 h15 h16 h17 h19 h20 h21 h56 => rfl) j h12 h13 h15 h16 h17 h19 h20 h21 h56)
  refine lv_aload_n X.1 X.2.1 d_derive_7 rfl (lv_at hl 0 rfl) ?_
  refine lv_aload_n X.1 X.2.1 d_derive_8 rfl (lv_at hl 1 rfl) ?_
  refine lv_iload_n X.1 X.2.1 d_derive_9 rfl (lv_at hl 2 rfl) ?_
  refine m_callv (As := [.ref (q 27), .int (nI 32)]) (rest := []) (n := 2) X Y hZ hA hml hl.1 (c_aesKey_long0_32 l D E h q H.size I J B3 G  (show by8 (B3 12) from (by8_eq (hB6 12 (by decide) (by decide)) y12)) (show by8 (B3 13) from (by8_eq (hB6 13 (by decide) (by decide)) y13))) kl_aesKey ks_aesKey kx_aesKey ki_aesKey ini_M hd_aesKey ⟨by decide, by decide⟩ rfl (Nat.le_of_ble_eq_true rfl) d_derive_10 ⟨Nat.le_refl _, Nat.le_refl _⟩ (fun u H locs hp Y => ?_)
  obtain ⟨I12, J13, B14, G15⟩ := u
  obtain ⟨hI16, eJ18, hB17, eG19, hk23, y21, y22⟩ := hp
  dsimp only at hI16 eJ18 hB17 eG19 hk23 y21 y22 Y
  rw [eJ18, eG19] at Y
  have hI24 : (∀ j, j ≠ 14 → j ≠ 18 → I12 j = I j) := fun j h14 h18 => (hI16 j h14 h18).trans ((fun j h14 h18 => rfl) j h14 h18)
  have hB25 : (∀ j, j ≠ 12 → j ≠ 13 → j ≠ 15 → j ≠ 16 → j ≠ 17 → j ≠ 19 → j ≠ 20 → j ≠ 21 → j ≠ 56 → B14 j = B j) := fun j h12 h13 h15 h16 h17 h19 h20 h21 h56 => (hB17 j h12 h13 h15).trans ((fun j h12 h13 h15 h16 h17 h19 h20 h21 h56 => (hB11 j h12 h13 h15 h16 h17 h19 h20 h21 h56)) j h12 h13 h15 h16 h17 h19 h20 h21 h56)
  refine lv_iconst (v := (nI 0)) X.1 X.2.1 d_derive_13 (by decide) ?_
  refine lv_istore (lv' := [(6, .int (nI 0)), (0, .ref h), (1, .ref (q 27)), (2, .int (nI 32)), (3, .ref (q 28)), (4, .int (nI 8)), (5, .ref (q 56))]) X.1 X.2.1 d_derive_14 hl (by decide) rfl (fun ls hl => ?_)
  have lp29 : ∀ (n26 i27 : Nat) (B30 : Nat → Nat → Int32) (H : Heap) (locs : List Loc) (ls : Array Slot), i27 + n26 = 16 → 0 ≤ i27 → (∀ j, j ≠ 12 → j ≠ 13 → j ≠ 15 → j ≠ 16 → j ≠ 17 → j ≠ 19 → j ≠ 20 → j ≠ 21 → j ≠ 56 → B30 j = B j) → by8 (B30 16) → by8 (B30 17) → by8 (B30 12) → by8 (B30 13) → mH D E (mA E h q sz) s.heap h q I12 J B30 G H locs → lv_has ls 8 [(6, .int (nI i27)), (0, .ref h), (1, .ref (q 27)), (2, .int (nI 32)), (3, .ref (q 28)), (4, .int (nI 8)), (5, .ref (q 56))] → W p l e (mR 4 95) s m AV below meth c H locs 0 0 QQ (F0 m 16 ls []) := by
    intro n26
    induction n26 with
    | zero =>
      intro i27 B30 H locs ls hii27 hsi27 hB31 y32 y33 y34 y35  Y hl
      refine lv_iload X.1 X.2.1 d_derive_16 (lv_at hl 0 rfl) ?_
      refine lv_bipush (v := (nI 16)) X.1 X.2.1 d_derive_18 (by decide) ?_
      refine lv_icmp_ge (tgt := 47) X.1 X.2.1 d_derive_20 (by decide) (fun c36 => ?_) (fun c36 => absurd ?_ c36)
      rotate_left
      · (rw [nI_leI (by omega) (by omega)] <;> omega)
      rw [nI_leI (by omega) (by omega)] at c36
      refine lv_iconst (v := (nI 0)) X.1 X.2.1 d_derive_47 (by decide) ?_
      refine lv_istore (lv' := [(6, .int (nI 0)), (0, .ref h), (1, .ref (q 27)), (2, .int (nI 32)), (3, .ref (q 28)), (4, .int (nI 8)), (5, .ref (q 56))]) X.1 X.2.1 d_derive_48 hl (by decide) rfl (fun ls hl => ?_)
      have lp40 : ∀ (n37 i38 : Nat) (B41 : Nat → Nat → Int32) (H : Heap) (locs : List Loc) (ls : Array Slot), i38 + 16 * n37 = 32 → 0 ≤ i38 → (∀ j, j ≠ 12 → j ≠ 13 → j ≠ 15 → j ≠ 16 → j ≠ 17 → j ≠ 19 → j ≠ 20 → j ≠ 21 → j ≠ 56 → B41 j = B j) → by8 (B41 16) → by8 (B41 17) → by8 (B41 12) → by8 (B41 13) → mH D E (mA E h q sz) s.heap h q I12 J B41 G H locs → lv_has ls 8 [(6, .int (nI i38)), (0, .ref h), (1, .ref (q 27)), (2, .int (nI 32)), (3, .ref (q 28)), (4, .int (nI 8)), (5, .ref (q 56))] → W p l e (mR 4 95) s m AV below meth c H locs 0 0 QQ (F0 m 50 ls []) := by
        intro n37
        induction n37 with
        | zero =>
          intro i38 B41 H locs ls hii38 hsi38 hB42 y43 y44 y45 y46  Y hl
          refine lv_iload X.1 X.2.1 d_derive_50 (lv_at hl 0 rfl) ?_
          refine lv_iload_n X.1 X.2.1 d_derive_52 rfl (lv_at hl 3 rfl) ?_
          refine lv_icmp_ge (tgt := 100) X.1 X.2.1 d_derive_53 (by decide) (fun c47 => ?_) (fun c47 => absurd ?_ c47)
          rotate_left
          · (rw [nI_leI (by omega) (by omega)] <;> omega)
          rw [nI_leI (by omega) (by omega)] at c47
          refine lv_iconst (v := (nI 0)) X.1 X.2.1 d_derive_100 (by decide) ?_
          refine lv_istore (lv' := [(6, .int (nI 0)), (0, .ref h), (1, .ref (q 27)), (2, .int (nI 32)), (3, .ref (q 28)), (4, .int (nI 8)), (5, .ref (q 56))]) X.1 X.2.1 d_derive_101 hl (by decide) rfl (fun ls hl => ?_)
          have lp51 : ∀ (n48 i49 : Nat) (B52 : Nat → Nat → Int32) (H : Heap) (locs : List Loc) (ls : Array Slot), i49 + n48 = 32 → 0 ≤ i49 → (∀ j, j ≠ 12 → j ≠ 13 → j ≠ 15 → j ≠ 16 → j ≠ 17 → j ≠ 19 → j ≠ 20 → j ≠ 21 → j ≠ 56 → B52 j = B j) → by8 (B52 16) → by8 (B52 17) → by8 (B52 12) → by8 (B52 13) → mH D E (mA E h q sz) s.heap h q I12 J B52 G H locs → lv_has ls 8 [(6, .int (nI i49)), (0, .ref h), (1, .ref (q 27)), (2, .int (nI 32)), (3, .ref (q 28)), (4, .int (nI 8)), (5, .ref (q 56))] → W p l e (mR 4 95) s m AV below meth c H locs 0 0 QQ (F0 m 103 ls []) := by
            intro n48
            induction n48 with
            | zero =>
              intro i49 B52 H locs ls hii49 hsi49 hB53 y54 y55 y56 y57  Y hl
              refine lv_iload X.1 X.2.1 d_derive_103 (lv_at hl 0 rfl) ?_
              refine lv_iload_n X.1 X.2.1 d_derive_105 rfl (lv_at hl 3 rfl) ?_
              refine lv_icmp_ge (tgt := 127) X.1 X.2.1 d_derive_106 (by decide) (fun c58 => ?_) (fun c58 => absurd ?_ c58)
              rotate_left
              · (rw [nI_leI (by omega) (by omega)] <;> omega)
              rw [nI_leI (by omega) (by omega)] at c58
              exact m_retv hQQ X Y hr hlk ⟨(fun j h14 h18 => (hI24 j h14 h18)), rfl, (fun j h12 h13 h15 h16 h17 h19 h20 h21 h56 => (hB53 j h12 h13 h15 h16 h17 h19 h20 h21 h56)), rfl, (show by8 (B52 12) from y56), (show by8 (B52 13) from y57), (show by8 (B52 16) from y54), (show by8 (B52 17) from y55)⟩ d_derive_127
            | succ n48 ih50 =>
              intro i49 B52 H locs ls hii49 hsi49 hB53 y54 y55 y56 y57  Y hl
              refine lv_iload X.1 X.2.1 d_derive_103 (lv_at hl 0 rfl) ?_
              refine lv_iload_n X.1 X.2.1 d_derive_105 rfl (lv_at hl 3 rfl) ?_
              refine lv_icmp_ge (tgt := 127) X.1 X.2.1 d_derive_106 (by decide) (fun c59 => absurd c59 ?_) (fun c59 => ?_)
              · (rw [nI_leI (by omega) (by omega)] <;> omega)
              rw [nI_leI (by omega) (by omega)] at c59
              refine lv_aload X.1 X.2.1 d_derive_109 (lv_at hl 6 rfl) ?_
              refine lv_iload X.1 X.2.1 d_derive_111 (lv_at hl 0 rfl) ?_
              refine lv_aload_n X.1 X.2.1 d_derive_113 rfl (lv_at hl 1 rfl) ?_
              refine m_get X Y 20 (by decide) lk_derived (gf_derived _ _ _) rfl d_derive_114 ?_
              refine lv_iload X.1 X.2.1 d_derive_117 (lv_at hl 0 rfl) ?_
              refine m_bald X Y (aw_derived _ _ _ _ _ _ _) (vp_in_nI (by omega) (by decide)) d_derive_119 ?_
              refine t_any (fun v60 => ?_)
              refine m_bast X Y (aw_made _ _ _ _ _ _ _) (vp_in_nI (by omega) (by decide)) (sw_made _ _ _ _ _ _ _ _) d_derive_120 (fun H locs Y => ?_)
              generalize (upd (B52 56) ((nI i49)).toNatClampNeg (vp_nar .byte v60)) = f61 at Y
              refine lv_iinc (v := (nI (i49 + 1))) (lv' := [(6, .int (nI (i49 + 1))), (0, .ref h), (1, .ref (q 27)), (2, .int (nI 32)), (3, .ref (q 28)), (4, .int (nI 8)), (5, .ref (q 56))]) X.1 X.2.1 d_derive_121 hl (k := 0) rfl (nI_add _ 1) (by decide) rfl (fun ls hl => ?_)
              refine lv_goto (tgt := 103) X.1 X.2.1 d_derive_124 (by decide) ?_
              exact ih50 (i49 + 1) (upB B52 56 f61) _ _ _ (by omega) (by omega) (fun j h12 h13 h15 h16 h17 h19 h20 h21 h56 => ((if_neg h56).trans (hB53 j h12 h13 h15 h16 h17 h19 h20 h21 h56))) (show by8 ((upB B52 56 f61) 16) from y54) (show by8 ((upB B52 56 f61) 17) from y55) (show by8 ((upB B52 56 f61) 12) from y56) (show by8 ((upB B52 56 f61) 13) from y57)  Y (lv_sub hl [0, 1, 2, 3, 4, 5, 6] rfl)
          exact lp51 (32) 0 B41 _ _ _ (by omega) (by omega) (fun j h12 h13 h15 h16 h17 h19 h20 h21 h56 => (hB42 j h12 h13 h15 h16 h17 h19 h20 h21 h56)) (show by8 (B41 16) from y43) (show by8 (B41 17) from y44) (show by8 (B41 12) from y45) (show by8 (B41 13) from y46)  Y (lv_sub hl [0, 1, 2, 3, 4, 5, 6] rfl)
        | succ n37 ih39 =>
          intro i38 B41 H locs ls hii38 hsi38 hB42 y43 y44 y45 y46  Y hl
          refine lv_iload X.1 X.2.1 d_derive_50 (lv_at hl 0 rfl) ?_
          refine lv_iload_n X.1 X.2.1 d_derive_52 rfl (lv_at hl 3 rfl) ?_
          refine lv_icmp_ge (tgt := 100) X.1 X.2.1 d_derive_53 (by decide) (fun c62 => absurd c62 ?_) (fun c62 => ?_)
          · (rw [nI_leI (by omega) (by omega)] <;> omega)
          rw [nI_leI (by omega) (by omega)] at c62
          refine lv_aload_n X.1 X.2.1 d_derive_56 rfl (lv_at hl 1 rfl) ?_
          refine m_callv (As := []) (rest := []) (n := 0) X Y hZ hA hml hl.1 (c_cover l D E h q H.size I12 J B41 G (14) hk23 (by omega) (show by8 (B41 12) from y45) (show by8 (B41 16) from y43) (show by8 (B41 17) from y44)) kl_cover ks_cover kx_cover ki_cover ini_M hd_cover ⟨by decide, by decide⟩ rfl (Nat.le_of_ble_eq_true rfl) d_derive_57 ⟨Nat.le_refl _, Nat.le_refl _⟩ (fun u H locs hp Y => ?_)
          obtain ⟨I63, J64, B65, G66⟩ := u
          obtain ⟨hI67, eJ69, hB68, eG70, y72, y73⟩ := hp
          dsimp only at hI67 eJ69 hB68 eG70 y72 y73 Y
          rw [eJ69, eG70] at Y
          rw [show I63 = I12 from funext hI67] at Y
          have hB75 : (∀ j, j ≠ 12 → j ≠ 13 → j ≠ 15 → j ≠ 16 → j ≠ 17 → j ≠ 19 → j ≠ 20 → j ≠ 21 → j ≠ 56 → B65 j = B j) := fun j h12 h13 h15 h16 h17 h19 h20 h21 h56 => (hB68 j h16 h17).trans ((fun j h12 h13 h15 h16 h17 h19 h20 h21 h56 => (hB42 j h12 h13 h15 h16 h17 h19 h20 h21 h56)) j h12 h13 h15 h16 h17 h19 h20 h21 h56)
          refine lv_iconst (v := (nI 0)) X.1 X.2.1 d_derive_60 (by decide) ?_
          refine lv_istore (lv' := [(7, .int (nI 0)), (6, .int (nI i38)), (0, .ref h), (1, .ref (q 27)), (2, .int (nI 32)), (3, .ref (q 28)), (4, .int (nI 8)), (5, .ref (q 56))]) X.1 X.2.1 d_derive_61 hl (by decide) rfl (fun ls hl => ?_)
          have lp79 : ∀ (n76 i77 : Nat) (B80 : Nat → Nat → Int32) (H : Heap) (locs : List Loc) (ls : Array Slot), i77 + n76 = 16 → 0 ≤ i77 → (∀ j, j ≠ 12 → j ≠ 13 → j ≠ 15 → j ≠ 16 → j ≠ 17 → j ≠ 19 → j ≠ 20 → j ≠ 21 → j ≠ 56 → B80 j = B j) → by8 (B80 12) → by8 (B80 13) → by8 (B80 16) → by8 (B80 17) → mH D E (mA E h q sz) s.heap h q I12 J B80 G H locs → lv_has ls 8 [(7, .int (nI i77)), (6, .int (nI i38)), (0, .ref h), (1, .ref (q 27)), (2, .int (nI 32)), (3, .ref (q 28)), (4, .int (nI 8)), (5, .ref (q 56))] → W p l e (mR 4 95) s m AV below meth c H locs 0 0 QQ (F0 m 63 ls []) := by
            intro n76
            induction n76 with
            | zero =>
              intro i77 B80 H locs ls hii77 hsi77 hB81 y82 y83 y84 y85  Y hl
              refine lv_iload X.1 X.2.1 d_derive_63 (lv_at hl 0 rfl) ?_
              refine lv_bipush (v := (nI 16)) X.1 X.2.1 d_derive_65 (by decide) ?_
              refine lv_icmp_ge (tgt := 94) X.1 X.2.1 d_derive_67 (by decide) (fun c86 => ?_) (fun c86 => absurd ?_ c86)
              rotate_left
              · (rw [nI_leI (by omega) (by omega)] <;> omega)
              rw [nI_leI (by omega) (by omega)] at c86
              refine lv_iinc (v := (nI (i38 + 16))) (lv' := [(6, .int (nI (i38 + 16))), (7, .int (nI i77)), (0, .ref h), (1, .ref (q 27)), (2, .int (nI 32)), (3, .ref (q 28)), (4, .int (nI 8)), (5, .ref (q 56))]) X.1 X.2.1 d_derive_94 hl (k := 1) rfl (nI_add _ 16) (by decide) rfl (fun ls hl => ?_)
              refine lv_goto (tgt := 50) X.1 X.2.1 d_derive_97 (by decide) ?_
              exact ih39 (i38 + 16) B80 _ _ _ (by omega) (by omega) (fun j h12 h13 h15 h16 h17 h19 h20 h21 h56 => (hB81 j h12 h13 h15 h16 h17 h19 h20 h21 h56)) (show by8 (B80 16) from y84) (show by8 (B80 17) from y85) (show by8 (B80 12) from y82) (show by8 (B80 13) from y83)  Y (lv_sub hl [0, 2, 3, 4, 5, 6, 7] rfl)
            | succ n76 ih78 =>
              intro i77 B80 H locs ls hii77 hsi77 hB81 y82 y83 y84 y85  Y hl
              refine lv_iload X.1 X.2.1 d_derive_63 (lv_at hl 0 rfl) ?_
              refine lv_bipush (v := (nI 16)) X.1 X.2.1 d_derive_65 (by decide) ?_
              refine lv_icmp_ge (tgt := 94) X.1 X.2.1 d_derive_67 (by decide) (fun c87 => absurd c87 ?_) (fun c87 => ?_)
              · (rw [nI_leI (by omega) (by omega)] <;> omega)
              rw [nI_leI (by omega) (by omega)] at c87
              refine lv_aload_n X.1 X.2.1 d_derive_70 rfl (lv_at hl 2 rfl) ?_
              refine m_get X Y 20 (by decide) lk_derived (gf_derived _ _ _) rfl d_derive_71 ?_
              refine lv_iload X.1 X.2.1 d_derive_74 (lv_at hl 1 rfl) ?_
              refine lv_iload X.1 X.2.1 d_derive_76 (lv_at hl 0 rfl) ?_
              refine lv_iadd X.1 X.2.1 d_derive_78 ?_
              refine t_eq (y := nI (i38 + i77)) (nI_add _ _) ?_
              refine lv_aload_n X.1 X.2.1 d_derive_79 rfl (lv_at hl 2 rfl) ?_
              refine m_get X Y 16 (by decide) lk_state (gf_state _ _ _) rfl d_derive_80 ?_
              refine lv_iload X.1 X.2.1 d_derive_83 (lv_at hl 0 rfl) ?_
              refine m_iald X Y (aw_state _ _ _ _ _ _ _) (vp_in_nI (by omega) (by decide)) d_derive_85 ?_
              obtain ⟨j88, hj88, ej88⟩ := y84 ((nI i77)).toNatClampNeg
              refine t_eq (show B80 16 ((nI i77)).toNatClampNeg = nI j88 from ej88) ?_
              obtain ⟨v89, ev89⟩ : ∃ z : Int32, ((nI j88) : Int32).toInt8.toInt32 = z := ⟨_, rfl⟩
              refine lv_i2b (v := v89) X.1 X.2.1 d_derive_86 ev89 ?_
              refine m_bast X Y (aw_derived _ _ _ _ _ _ _) (vp_in_nI (by omega) (by decide)) (sw_derived _ _ _ _ _ _ _ _) d_derive_87 (fun H locs Y => ?_)
              generalize (upd (B80 20) ((nI (i38 + i77))).toNatClampNeg (vp_nar .byte v89)) = f90 at Y
              refine lv_iinc (v := (nI (i77 + 1))) (lv' := [(7, .int (nI (i77 + 1))), (6, .int (nI i38)), (0, .ref h), (1, .ref (q 27)), (2, .int (nI 32)), (3, .ref (q 28)), (4, .int (nI 8)), (5, .ref (q 56))]) X.1 X.2.1 d_derive_88 hl (k := 0) rfl (nI_add _ 1) (by decide) rfl (fun ls hl => ?_)
              refine lv_goto (tgt := 63) X.1 X.2.1 d_derive_91 (by decide) ?_
              exact ih78 (i77 + 1) (upB B80 20 f90) _ _ _ (by omega) (by omega) (fun j h12 h13 h15 h16 h17 h19 h20 h21 h56 => ((if_neg h20).trans (hB81 j h12 h13 h15 h16 h17 h19 h20 h21 h56))) (show by8 ((upB B80 20 f90) 12) from y82) (show by8 ((upB B80 20 f90) 13) from y83) (show by8 ((upB B80 20 f90) 16) from y84) (show by8 ((upB B80 20 f90) 17) from y85)  Y (lv_sub hl [0, 1, 2, 3, 4, 5, 6, 7] rfl)
          exact lp79 (16) 0 B65 _ _ _ (by omega) (by omega) (fun j h12 h13 h15 h16 h17 h19 h20 h21 h56 => (hB75 j h12 h13 h15 h16 h17 h19 h20 h21 h56)) (show by8 (B65 12) from (by8_eq (hB68 12 (by decide) (by decide)) y45)) (show by8 (B65 13) from (by8_eq (hB68 13 (by decide) (by decide)) y46)) (show by8 (B65 16) from y72) (show by8 (B65 17) from y73)  Y (lv_sub hl [0, 1, 2, 3, 4, 5, 6, 7] rfl)
      exact lp40 ((32) / 16) 0 B30 _ _ _ (by omega) (by omega) (fun j h12 h13 h15 h16 h17 h19 h20 h21 h56 => (hB31 j h12 h13 h15 h16 h17 h19 h20 h21 h56)) (show by8 (B30 16) from y32) (show by8 (B30 17) from y33) (show by8 (B30 12) from y34) (show by8 (B30 13) from y35)  Y (lv_sub hl [0, 1, 2, 3, 4, 5, 6] rfl)
    | succ n26 ih28 =>
      intro i27 B30 H locs ls hii27 hsi27 hB31 y32 y33 y34 y35  Y hl
      refine lv_iload X.1 X.2.1 d_derive_16 (lv_at hl 0 rfl) ?_
      refine lv_bipush (v := (nI 16)) X.1 X.2.1 d_derive_18 (by decide) ?_
      refine lv_icmp_ge (tgt := 47) X.1 X.2.1 d_derive_20 (by decide) (fun c91 => absurd c91 ?_) (fun c91 => ?_)
      · (rw [nI_leI (by omega) (by omega)] <;> omega)
      rw [nI_leI (by omega) (by omega)] at c91
      refine lv_aload_n X.1 X.2.1 d_derive_23 rfl (lv_at hl 1 rfl) ?_
      refine m_get X Y 16 (by decide) lk_state (gf_state _ _ _) rfl d_derive_24 ?_
      refine lv_iload X.1 X.2.1 d_derive_27 (lv_at hl 0 rfl) ?_
      refine lv_aload_n X.1 X.2.1 d_derive_29 rfl (lv_at hl 1 rfl) ?_
      refine m_get X Y 19 (by decide) lk_fold (gf_fold _ _ _) rfl d_derive_30 ?_
      refine lv_iload X.1 X.2.1 d_derive_33 (lv_at hl 0 rfl) ?_
      refine m_bald X Y (aw_fold _ _ _ _ _ _ _) (vp_in_nI (by omega) (by decide)) d_derive_35 ?_
      refine t_any (fun v92 => ?_)
      refine lv_sipush (v := (nI 255)) X.1 X.2.1 d_derive_36 (by decide) ?_
      refine lv_iand X.1 X.2.1 d_derive_39 ?_
      obtain ⟨j93, hj93, ej93⟩ := pk_andE v92 (m := nI 255) 8 (by decide)
      refine t_eq ej93 ?_
      have hj93 : j93 < 256 := hj93
      refine m_iast X Y (aw_state _ _ _ _ _ _ _) (vp_in_nI (by omega) (by decide)) (sw_state _ _ _ _ _ _ _ _) d_derive_40 (fun H locs Y => ?_)
      have y95 : by8 (upd (B30 16) ((nI i27)).toNatClampNeg (nI j93)) := by8_upd y32 (show j93 < 256 by omega)
      generalize (upd (B30 16) ((nI i27)).toNatClampNeg (nI j93)) = f94 at Y y95
      refine lv_iinc (v := (nI (i27 + 1))) (lv' := [(6, .int (nI (i27 + 1))), (0, .ref h), (1, .ref (q 27)), (2, .int (nI 32)), (3, .ref (q 28)), (4, .int (nI 8)), (5, .ref (q 56))]) X.1 X.2.1 d_derive_41 hl (k := 0) rfl (nI_add _ 1) (by decide) rfl (fun ls hl => ?_)
      refine lv_goto (tgt := 16) X.1 X.2.1 d_derive_44 (by decide) ?_
      exact ih28 (i27 + 1) (upB B30 16 f94) _ _ _ (by omega) (by omega) (fun j h12 h13 h15 h16 h17 h19 h20 h21 h56 => ((if_neg h16).trans (hB31 j h12 h13 h15 h16 h17 h19 h20 h21 h56))) (show by8 ((upB B30 16 f94) 16) from y95) (show by8 ((upB B30 16 f94) 17) from y33) (show by8 ((upB B30 16 f94) 12) from y34) (show by8 ((upB B30 16 f94) 13) from y35)  Y (lv_sub hl [0, 1, 2, 3, 4, 5, 6] rfl)
  exact lp29 (16) 0 B14 _ _ _ (by omega) (by omega) (fun j h12 h13 h15 h16 h17 h19 h20 h21 h56 => (hB25 j h12 h13 h15 h16 h17 h19 h20 h21 h56)) (show by8 (B14 16) from (by8_eq (hB17 16 (by decide) (by decide) (by decide)) (by8_eq (hB6 16 (by decide) (by decide)) y16))) (show by8 (B14 17) from (by8_eq (hB17 17 (by decide) (by decide) (by decide)) (by8_eq (hB6 17 (by decide) (by decide)) y17))) (show by8 (B14 12) from y21) (show by8 (B14 13) from y22)  Y (lv_sub hl [0, 1, 2, 3, 4, 5, 6] rfl)
set_option maxHeartbeats 4000000 in
set_option maxRecDepth 100000 in
theorem c_passwordKey_16 (l : Launch) (D : mD) (E : mE) (h : Nat) (q : Nat → Nat) (sz : Nat) (I : Nat → Int32) (J : Nat → Int64) (B : Nat → Nat → Int32) (G : Nat → Nat → Int64) (cnt pm sm : Nat) (hcnt1 : 1 ≤ cnt) (hcnt : cnt ≤ 200) (hpm : I 30 = nI pm) (hpm2 : pm ≤ 30) (hsm : I 29 = nI sm) (hsm2 : sm ≤ 60) (y12 : by8 (B 12)) (y13 : by8 (B 13)) (y16 : by8 (B 16)) (y17 : by8 (B 17)) : Met l y_passwordKey (k_passwordKey :: lw_tg) (mR 5 122) (va_Pc [.ref h, .int (nI 16), .int (nI cnt), .ref (q 56)] (mPre D E h q (I, J, B, G) sz)) (va_Qv (fun (u : mS) => (∀ j, j ≠ 8 → j ≠ 14 → j ≠ 18 → u.1 j = I j) ∧ u.2.1 = J ∧ (∀ j, j ≠ 5 → j ≠ 6 → j ≠ 7 → j ≠ 9 → j ≠ 10 → j ≠ 11 → j ≠ 12 → j ≠ 13 → j ≠ 15 → j ≠ 16 → j ≠ 17 → j ≠ 19 → j ≠ 20 → j ≠ 21 → j ≠ 26 → j ≠ 27 → j ≠ 56 → u.2.2.1 j = B j) ∧ u.2.2.2 = G ∧ by8 (u.2.2.1 12) ∧ by8 (u.2.2.1 13) ∧ by8 (u.2.2.1 16) ∧ by8 (u.2.2.1 17)) (mPost D E h q (mA E h q sz)) (mA E h q sz)) 0 0 (mA E h q sz) := by
  refine m_enter (by decide) rfl (Nat.le_of_ble_eq_true rfl) (fun p e s m below meth c ls AV QQ H locs hQQ X Y hZ hA hr hlk hml hl => ?_)
  have Y : mH D E (mA E h q sz) s.heap h q I J B G H locs := Y
  have hl : lv_has ls 7 [(0, .ref h), (1, .int (nI 16)), (2, .int (nI cnt)), (3, .ref (q 56))] := hl
  refine lv_iconst (v := (nI 0)) X.1 X.2.1 d_passwordKey_0 (by decide) ?_
  refine lv_istore (lv' := [(4, .int (nI 0)), (0, .ref h), (1, .int (nI 16)), (2, .int (nI cnt)), (3, .ref (q 56))]) X.1 X.2.1 d_passwordKey_1 hl (by decide) rfl (fun ls hl => ?_)
  have lp4 : ∀ (n1 i2 : Nat) (I5 : Nat → Int32) (B6 : Nat → Nat → Int32) (H : Heap) (locs : List Loc) (ls : Array Slot), i2 + n1 = 1 → 0 ≤ i2 → (∀ j, j ≠ 5 → j ≠ 6 → j ≠ 7 → j ≠ 9 → j ≠ 10 → j ≠ 11 → j ≠ 12 → j ≠ 13 → j ≠ 15 → j ≠ 16 → j ≠ 17 → j ≠ 19 → j ≠ 20 → j ≠ 21 → j ≠ 26 → j ≠ 27 → j ≠ 56 → B6 j = B j) → (∀ j, j ≠ 8 → j ≠ 14 → j ≠ 18 → I5 j = I j) → by8 (B6 12) → by8 (B6 13) → by8 (B6 16) → by8 (B6 17) → I5 30 = nI (pm) → I5 29 = nI (sm) → mH D E (mA E h q sz) s.heap h q I5 J B6 G H locs → lv_has ls 7 [(4, .int (nI i2)), (0, .ref h), (1, .int (nI 16)), (2, .int (nI cnt)), (3, .ref (q 56))] → W p l e (mR 5 122) s m AV below meth c H locs 0 0 QQ (F0 m 3 ls []) := by
    intro n1
    induction n1 with
    | zero =>
      intro i2 I5 B6 H locs ls hii2 hsi2 hB7 hI8 y9 y10 y11 y12 hk13 hk14  Y hl
      refine lv_bipush (v := (nI 20)) X.1 X.2.1 d_passwordKey_3 (by decide) ?_
      refine lv_iload X.1 X.2.1 d_passwordKey_5 (lv_at hl 0 rfl) ?_
      refine lv_imul X.1 X.2.1 d_passwordKey_7 ?_
      refine t_eq (y := nI ((20) * (i2))) (pk_mul _ _) ?_
      refine lv_iload_n X.1 X.2.1 d_passwordKey_8 rfl (lv_at hl 2 rfl) ?_
      refine lv_icmp_ge (tgt := 250) X.1 X.2.1 d_passwordKey_9 (by decide) (fun c15 => ?_) (fun c15 => absurd ?_ c15)
      rotate_left
      · (rw [nI_leI (by omega) (by omega)] <;> omega)
      rw [nI_leI (by omega) (by omega)] at c15
      refine lv_aload_n X.1 X.2.1 d_passwordKey_250 rfl (lv_at hl 1 rfl) ?_
      refine lv_aload_n X.1 X.2.1 d_passwordKey_251 rfl (lv_at hl 1 rfl) ?_
      refine m_get X Y 27 (by decide) lk_long0 (gf_long0 _ _ _) rfl d_passwordKey_252 ?_
      refine lv_iload_n X.1 X.2.1 d_passwordKey_255 rfl (lv_at hl 2 rfl) ?_
      refine lv_aload_n X.1 X.2.1 d_passwordKey_256 rfl (lv_at hl 1 rfl) ?_
      refine m_get X Y 28 (by decide) lk_kerberos (gf_kerberos _ _ _) rfl d_passwordKey_257 ?_
      refine lv_bipush (v := (nI 8)) X.1 X.2.1 d_passwordKey_260 (by decide) ?_
      refine lv_aload_n X.1 X.2.1 d_passwordKey_262 rfl (lv_at hl 4 rfl) ?_
      refine m_callv (As := [.ref (q 27), .int (nI 16), .ref (q 28), .int (nI 8), .ref (q 56)]) (rest := []) (n := 5) X Y hZ hA hml hl.1 (c_derive_16 l D E h q H.size I5 J B6 G  (show by8 (B6 12) from y9) (show by8 (B6 13) from y10) (show by8 (B6 16) from y11) (show by8 (B6 17) from y12)) kl_derive ks_derive kx_derive ki_derive ini_M hd_derive ⟨by decide, by decide⟩ rfl (Nat.le_of_ble_eq_true rfl) d_passwordKey_263 ⟨Nat.le_refl _, Nat.le_refl _⟩ (fun u H locs hp Y => ?_)
      obtain ⟨I16, J17, B18, G19⟩ := u
      obtain ⟨hI20, eJ22, hB21, eG23, y25, y26, y27, y28⟩ := hp
      dsimp only at hI20 eJ22 hB21 eG23 y25 y26 y27 y28 Y
      rw [eJ22, eG23] at Y
      have hI29 : (∀ j, j ≠ 8 → j ≠ 14 → j ≠ 18 → I16 j = I j) := fun j h8 h14 h18 => (hI20 j h14 h18).trans ((fun j h8 h14 h18 => (hI8 j h8 h14 h18)) j h8 h14 h18)
      have hB30 : (∀ j, j ≠ 5 → j ≠ 6 → j ≠ 7 → j ≠ 9 → j ≠ 10 → j ≠ 11 → j ≠ 12 → j ≠ 13 → j ≠ 15 → j ≠ 16 → j ≠ 17 → j ≠ 19 → j ≠ 20 → j ≠ 21 → j ≠ 26 → j ≠ 27 → j ≠ 56 → B18 j = B j) := fun j h5 h6 h7 h9 h10 h11 h12 h13 h15 h16 h17 h19 h20 h21 h26 h27 h56 => (hB21 j h12 h13 h15 h16 h17 h19 h20 h21 h56).trans ((fun j h5 h6 h7 h9 h10 h11 h12 h13 h15 h16 h17 h19 h20 h21 h26 h27 h56 => (hB7 j h5 h6 h7 h9 h10 h11 h12 h13 h15 h16 h17 h19 h20 h21 h26 h27 h56)) j h5 h6 h7 h9 h10 h11 h12 h13 h15 h16 h17 h19 h20 h21 h26 h27 h56)
      exact m_retv hQQ X Y hr hlk ⟨(fun j h8 h14 h18 => (hI29 j h8 h14 h18)), rfl, (fun j h5 h6 h7 h9 h10 h11 h12 h13 h15 h16 h17 h19 h20 h21 h26 h27 h56 => (hB30 j h5 h6 h7 h9 h10 h11 h12 h13 h15 h16 h17 h19 h20 h21 h26 h27 h56)), rfl, (show by8 (B18 12) from y25), (show by8 (B18 13) from y26), (show by8 (B18 16) from y27), (show by8 (B18 17) from y28)⟩ d_passwordKey_266
    | succ n1 ih3 =>
      intro i2 I5 B6 H locs ls hii2 hsi2 hB7 hI8 y9 y10 y11 y12 hk13 hk14  Y hl
      refine lv_bipush (v := (nI 20)) X.1 X.2.1 d_passwordKey_3 (by decide) ?_
      refine lv_iload X.1 X.2.1 d_passwordKey_5 (lv_at hl 0 rfl) ?_
      refine lv_imul X.1 X.2.1 d_passwordKey_7 ?_
      refine t_eq (y := nI ((20) * (i2))) (pk_mul _ _) ?_
      refine lv_iload_n X.1 X.2.1 d_passwordKey_8 rfl (lv_at hl 2 rfl) ?_
      refine lv_icmp_ge (tgt := 250) X.1 X.2.1 d_passwordKey_9 (by decide) (fun c31 => absurd c31 ?_) (fun c31 => ?_)
      · (rw [nI_leI (by omega) (by omega)] <;> omega)
      rw [nI_leI (by omega) (by omega)] at c31
      refine lv_aload_n X.1 X.2.1 d_passwordKey_12 rfl (lv_at hl 1 rfl) ?_
      refine lv_aload_n X.1 X.2.1 d_passwordKey_13 rfl (lv_at hl 1 rfl) ?_
      refine m_get X Y 25 (by decide) lk_password (gf_password _ _ _) rfl d_passwordKey_14 ?_
      refine lv_aload_n X.1 X.2.1 d_passwordKey_17 rfl (lv_at hl 1 rfl) ?_
      refine m_get X Y 30 (by decide) lk_passwordMany (gf_passwordMany _ _ _) rfl d_passwordKey_18 ?_
      refine t_eq (show I5 30 = nI (pm) from hk13) ?_
      refine m_callv (As := [.ref (q 25), .int (nI (pm))]) (rest := []) (n := 2) X Y hZ hA hml hl.1 (c_macKey_password l D E h q H.size I5 J B6 G (pm) (by omega)) kl_macKey ks_macKey kx_macKey ki_macKey ini_M hd_macKey ⟨by decide, by decide⟩ rfl (Nat.le_of_ble_eq_true rfl) d_passwordKey_21 ⟨Nat.le_refl _, Nat.le_refl _⟩ (fun u H locs hp Y => ?_)
      obtain ⟨I32, J33, B34, G35⟩ := u
      obtain ⟨hI36, eJ38, hB37, eG39⟩ := hp
      dsimp only at hI36 eJ38 hB37 eG39 Y
      rw [eJ38, eG39] at Y
      rw [show I32 = I5 from funext hI36] at Y
      have hB42 : (∀ j, j ≠ 5 → j ≠ 6 → j ≠ 7 → j ≠ 9 → j ≠ 10 → j ≠ 11 → j ≠ 12 → j ≠ 13 → j ≠ 15 → j ≠ 16 → j ≠ 17 → j ≠ 19 → j ≠ 20 → j ≠ 21 → j ≠ 26 → j ≠ 27 → j ≠ 56 → B34 j = B j) := fun j h5 h6 h7 h9 h10 h11 h12 h13 h15 h16 h17 h19 h20 h21 h26 h27 h56 => (hB37 j h11).trans ((fun j h5 h6 h7 h9 h10 h11 h12 h13 h15 h16 h17 h19 h20 h21 h26 h27 h56 => (hB7 j h5 h6 h7 h9 h10 h11 h12 h13 h15 h16 h17 h19 h20 h21 h26 h27 h56)) j h5 h6 h7 h9 h10 h11 h12 h13 h15 h16 h17 h19 h20 h21 h26 h27 h56)
      refine lv_aload_n X.1 X.2.1 d_passwordKey_24 rfl (lv_at hl 1 rfl) ?_
      refine m_callv (As := []) (rest := []) (n := 0) X Y hZ hA hml hl.1 (c_macBegin l D E h q H.size I5 J B34 G ) kl_macBegin ks_macBegin kx_macBegin ki_macBegin ini_M hd_macBegin ⟨by decide, by decide⟩ rfl (Nat.le_of_ble_eq_true rfl) d_passwordKey_25 ⟨Nat.le_refl _, Nat.le_refl _⟩ (fun u H locs hp Y => ?_)
      obtain ⟨I43, J44, B45, G46⟩ := u
      obtain ⟨hI47, eJ49, hB48, eG50, hk52⟩ := hp
      dsimp only at hI47 eJ49 hB48 eG50 hk52 Y
      rw [eJ49, eG50] at Y
      have hI53 : (∀ j, j ≠ 8 → j ≠ 14 → j ≠ 18 → I43 j = I j) := fun j h8 h14 h18 => (hI47 j h8).trans ((fun j h8 h14 h18 => (hI8 j h8 h14 h18)) j h8 h14 h18)
      have hB54 : (∀ j, j ≠ 5 → j ≠ 6 → j ≠ 7 → j ≠ 9 → j ≠ 10 → j ≠ 11 → j ≠ 12 → j ≠ 13 → j ≠ 15 → j ≠ 16 → j ≠ 17 → j ≠ 19 → j ≠ 20 → j ≠ 21 → j ≠ 26 → j ≠ 27 → j ≠ 56 → B45 j = B j) := fun j h5 h6 h7 h9 h10 h11 h12 h13 h15 h16 h17 h19 h20 h21 h26 h27 h56 => (hB48 j h5 h6 h7).trans ((fun j h5 h6 h7 h9 h10 h11 h12 h13 h15 h16 h17 h19 h20 h21 h26 h27 h56 => (hB42 j h5 h6 h7 h9 h10 h11 h12 h13 h15 h16 h17 h19 h20 h21 h26 h27 h56)) j h5 h6 h7 h9 h10 h11 h12 h13 h15 h16 h17 h19 h20 h21 h26 h27 h56)
      refine lv_iconst (v := (nI 0)) X.1 X.2.1 d_passwordKey_28 (by decide) ?_
      refine lv_istore (lv' := [(5, .int (nI 0)), (4, .int (nI i2)), (0, .ref h), (1, .int (nI 16)), (2, .int (nI cnt)), (3, .ref (q 56))]) X.1 X.2.1 d_passwordKey_29 hl (by decide) rfl (fun ls hl => ?_)
      have lp58 : ∀ (n55 i56 : Nat) (I59 : Nat → Int32) (B60 : Nat → Nat → Int32) (H : Heap) (locs : List Loc) (ls : Array Slot), i56 + n55 = sm → 0 ≤ i56 → (∀ j, j ≠ 5 → j ≠ 6 → j ≠ 7 → j ≠ 9 → j ≠ 10 → j ≠ 11 → j ≠ 12 → j ≠ 13 → j ≠ 15 → j ≠ 16 → j ≠ 17 → j ≠ 19 → j ≠ 20 → j ≠ 21 → j ≠ 26 → j ≠ 27 → j ≠ 56 → B60 j = B j) → (∀ j, j ≠ 8 → j ≠ 14 → j ≠ 18 → I59 j = I j) → by8 (B60 12) → by8 (B60 13) → by8 (B60 16) → by8 (B60 17) → I59 30 = nI (pm) → I59 29 = nI (sm) → I59 8 = nI (64 + i56) → mH D E (mA E h q sz) s.heap h q I59 J B60 G H locs → lv_has ls 7 [(5, .int (nI i56)), (4, .int (nI i2)), (0, .ref h), (1, .int (nI 16)), (2, .int (nI cnt)), (3, .ref (q 56))] → W p l e (mR 5 122) s m AV below meth c H locs 0 0 QQ (F0 m 31 ls []) := by
        intro n55
        induction n55 with
        | zero =>
          intro i56 I59 B60 H locs ls hii56 hsi56 hB61 hI62 y63 y64 y65 y66 hk67 hk68 hk69  Y hl
          refine lv_iload X.1 X.2.1 d_passwordKey_31 (lv_at hl 0 rfl) ?_
          refine lv_aload_n X.1 X.2.1 d_passwordKey_33 rfl (lv_at hl 2 rfl) ?_
          refine m_get X Y 29 (by decide) lk_saltMany (gf_saltMany _ _ _) rfl d_passwordKey_34 ?_
          refine t_eq (show I59 29 = nI (sm) from hk68) ?_
          refine lv_icmp_ge (tgt := 57) X.1 X.2.1 d_passwordKey_37 (by decide) (fun c70 => ?_) (fun c70 => absurd ?_ c70)
          rotate_left
          · (rw [nI_leI (by omega) (by omega)] <;> omega)
          rw [nI_leI (by omega) (by omega)] at c70
          refine lv_iconst (v := (nI 0)) X.1 X.2.1 d_passwordKey_57 (by decide) ?_
          refine lv_istore (lv' := [(5, .int (nI 0)), (4, .int (nI i2)), (0, .ref h), (1, .int (nI 16)), (2, .int (nI cnt)), (3, .ref (q 56))]) X.1 X.2.1 d_passwordKey_58 hl (by decide) rfl (fun ls hl => ?_)
          have lp74 : ∀ (n71 i72 : Nat) (I75 : Nat → Int32) (B76 : Nat → Nat → Int32) (H : Heap) (locs : List Loc) (ls : Array Slot), i72 + n71 = 4 → 0 ≤ i72 → (∀ j, j ≠ 5 → j ≠ 6 → j ≠ 7 → j ≠ 9 → j ≠ 10 → j ≠ 11 → j ≠ 12 → j ≠ 13 → j ≠ 15 → j ≠ 16 → j ≠ 17 → j ≠ 19 → j ≠ 20 → j ≠ 21 → j ≠ 26 → j ≠ 27 → j ≠ 56 → B76 j = B j) → (∀ j, j ≠ 8 → j ≠ 14 → j ≠ 18 → I75 j = I j) → by8 (B76 12) → by8 (B76 13) → by8 (B76 16) → by8 (B76 17) → I75 30 = nI (pm) → I75 29 = nI (sm) → I75 8 = nI (64 + sm + i72) → mH D E (mA E h q sz) s.heap h q I75 J B76 G H locs → lv_has ls 7 [(5, .int (nI i72)), (4, .int (nI i2)), (0, .ref h), (1, .int (nI 16)), (2, .int (nI cnt)), (3, .ref (q 56))] → W p l e (mR 5 122) s m AV below meth c H locs 0 0 QQ (F0 m 60 ls []) := by
            intro n71
            induction n71 with
            | zero =>
              intro i72 I75 B76 H locs ls hii72 hsi72 hB77 hI78 y79 y80 y81 y82 hk83 hk84 hk85  Y hl
              refine lv_iload X.1 X.2.1 d_passwordKey_60 (lv_at hl 0 rfl) ?_
              refine lv_iconst (v := (nI 4)) X.1 X.2.1 d_passwordKey_62 (by decide) ?_
              refine lv_icmp_ge (tgt := 90) X.1 X.2.1 d_passwordKey_63 (by decide) (fun c86 => ?_) (fun c86 => absurd ?_ c86)
              rotate_left
              · (rw [nI_leI (by omega) (by omega)] <;> omega)
              rw [nI_leI (by omega) (by omega)] at c86
              refine lv_aload_n X.1 X.2.1 d_passwordKey_90 rfl (lv_at hl 2 rfl) ?_
              refine m_callv (As := []) (rest := []) (n := 0) X Y hZ hA hml hl.1 (c_macEnd l D E h q H.size I75 J B76 G (64 + sm + i72) hk85 (by omega)) kl_macEnd ks_macEnd kx_macEnd ki_macEnd ini_M hd_macEnd ⟨by decide, by decide⟩ rfl (Nat.le_of_ble_eq_true rfl) d_passwordKey_91 ⟨Nat.le_refl _, Nat.le_refl _⟩ (fun u H locs hp Y => ?_)
              obtain ⟨I87, J88, B89, G90⟩ := u
              obtain ⟨hI91, eJ93, hB92, eG94⟩ := hp
              dsimp only at hI91 eJ93 hB92 eG94 Y
              rw [eJ93, eG94] at Y
              have hI96 : (∀ j, j ≠ 8 → j ≠ 14 → j ≠ 18 → I87 j = I j) := fun j h8 h14 h18 => (hI91 j h8).trans ((fun j h8 h14 h18 => (hI78 j h8 h14 h18)) j h8 h14 h18)
              have hB97 : (∀ j, j ≠ 5 → j ≠ 6 → j ≠ 7 → j ≠ 9 → j ≠ 10 → j ≠ 11 → j ≠ 12 → j ≠ 13 → j ≠ 15 → j ≠ 16 → j ≠ 17 → j ≠ 19 → j ≠ 20 → j ≠ 21 → j ≠ 26 → j ≠ 27 → j ≠ 56 → B89 j = B j) := fun j h5 h6 h7 h9 h10 h11 h12 h13 h15 h16 h17 h19 h20 h21 h26 h27 h56 => (hB92 j h5 h6 h7 h9 h10).trans ((fun j h5 h6 h7 h9 h10 h11 h12 h13 h15 h16 h17 h19 h20 h21 h26 h27 h56 => (hB77 j h5 h6 h7 h9 h10 h11 h12 h13 h15 h16 h17 h19 h20 h21 h26 h27 h56)) j h5 h6 h7 h9 h10 h11 h12 h13 h15 h16 h17 h19 h20 h21 h26 h27 h56)
              refine lv_iconst (v := (nI 0)) X.1 X.2.1 d_passwordKey_94 (by decide) ?_
              refine lv_istore (lv' := [(5, .int (nI 0)), (4, .int (nI i2)), (0, .ref h), (1, .int (nI 16)), (2, .int (nI cnt)), (3, .ref (q 56))]) X.1 X.2.1 d_passwordKey_95 hl (by decide) rfl (fun ls hl => ?_)
              have lp101 : ∀ (n98 i99 : Nat) (B102 : Nat → Nat → Int32) (H : Heap) (locs : List Loc) (ls : Array Slot), i99 + n98 = 20 → 0 ≤ i99 → (∀ j, j ≠ 5 → j ≠ 6 → j ≠ 7 → j ≠ 9 → j ≠ 10 → j ≠ 11 → j ≠ 12 → j ≠ 13 → j ≠ 15 → j ≠ 16 → j ≠ 17 → j ≠ 19 → j ≠ 20 → j ≠ 21 → j ≠ 26 → j ≠ 27 → j ≠ 56 → B102 j = B j) → by8 (B102 12) → by8 (B102 13) → by8 (B102 16) → by8 (B102 17) → mH D E (mA E h q sz) s.heap h q I87 J B102 G H locs → lv_has ls 7 [(5, .int (nI i99)), (4, .int (nI i2)), (0, .ref h), (1, .int (nI 16)), (2, .int (nI cnt)), (3, .ref (q 56))] → W p l e (mR 5 122) s m AV below meth c H locs 0 0 QQ (F0 m 97 ls []) := by
                intro n98
                induction n98 with
                | zero =>
                  intro i99 B102 H locs ls hii99 hsi99 hB103 y104 y105 y106 y107  Y hl
                  refine lv_iload X.1 X.2.1 d_passwordKey_97 (lv_at hl 0 rfl) ?_
                  refine lv_bipush (v := (nI 20)) X.1 X.2.1 d_passwordKey_99 (by decide) ?_
                  refine lv_icmp_ge (tgt := 124) X.1 X.2.1 d_passwordKey_101 (by decide) (fun c108 => ?_) (fun c108 => absurd ?_ c108)
                  rotate_left
                  · (rw [nI_leI (by omega) (by omega)] <;> omega)
                  rw [nI_leI (by omega) (by omega)] at c108
                  refine lv_iconst (v := (nI 1)) X.1 X.2.1 d_passwordKey_124 (by decide) ?_
                  refine lv_istore (lv' := [(5, .int (nI 1)), (4, .int (nI i2)), (0, .ref h), (1, .int (nI 16)), (2, .int (nI cnt)), (3, .ref (q 56))]) X.1 X.2.1 d_passwordKey_125 hl (by decide) rfl (fun ls hl => ?_)
                  have lp112 : ∀ (n109 i110 : Nat) (I113 : Nat → Int32) (B114 : Nat → Nat → Int32) (H : Heap) (locs : List Loc) (ls : Array Slot), i110 + n109 = cnt → 1 ≤ i110 → (∀ j, j ≠ 5 → j ≠ 6 → j ≠ 7 → j ≠ 9 → j ≠ 10 → j ≠ 11 → j ≠ 12 → j ≠ 13 → j ≠ 15 → j ≠ 16 → j ≠ 17 → j ≠ 19 → j ≠ 20 → j ≠ 21 → j ≠ 26 → j ≠ 27 → j ≠ 56 → B114 j = B j) → (∀ j, j ≠ 8 → j ≠ 14 → j ≠ 18 → I113 j = I j) → by8 (B114 12) → by8 (B114 13) → by8 (B114 16) → by8 (B114 17) → I113 30 = nI (pm) → I113 29 = nI (sm) → mH D E (mA E h q sz) s.heap h q I113 J B114 G H locs → lv_has ls 7 [(5, .int (nI i110)), (4, .int (nI i2)), (0, .ref h), (1, .int (nI 16)), (2, .int (nI cnt)), (3, .ref (q 56))] → W p l e (mR 5 122) s m AV below meth c H locs 0 0 QQ (F0 m 127 ls []) := by
                    intro n109
                    induction n109 with
                    | zero =>
                      intro i110 I113 B114 H locs ls hii110 hsi110 hB115 hI116 y117 y118 y119 y120 hk121 hk122  Y hl
                      refine lv_iload X.1 X.2.1 d_passwordKey_127 (lv_at hl 0 rfl) ?_
                      refine lv_iload_n X.1 X.2.1 d_passwordKey_129 rfl (lv_at hl 4 rfl) ?_
                      refine lv_icmp_ge (tgt := 208) X.1 X.2.1 d_passwordKey_130 (by decide) (fun c123 => ?_) (fun c123 => absurd ?_ c123)
                      rotate_left
                      · (rw [nI_leI (by omega) (by omega)] <;> omega)
                      rw [nI_leI (by omega) (by omega)] at c123
                      refine lv_iconst (v := (nI 0)) X.1 X.2.1 d_passwordKey_208 (by decide) ?_
                      refine lv_istore (lv' := [(5, .int (nI 0)), (4, .int (nI i2)), (0, .ref h), (1, .int (nI 16)), (2, .int (nI cnt)), (3, .ref (q 56))]) X.1 X.2.1 d_passwordKey_209 hl (by decide) rfl (fun ls hl => ?_)
                      have lp127 : ∀ (n124 i125 : Nat) (B128 : Nat → Nat → Int32) (H : Heap) (locs : List Loc) (ls : Array Slot), i125 + n124 = 20 → 0 ≤ i125 → (∀ j, j ≠ 5 → j ≠ 6 → j ≠ 7 → j ≠ 9 → j ≠ 10 → j ≠ 11 → j ≠ 12 → j ≠ 13 → j ≠ 15 → j ≠ 16 → j ≠ 17 → j ≠ 19 → j ≠ 20 → j ≠ 21 → j ≠ 26 → j ≠ 27 → j ≠ 56 → B128 j = B j) → by8 (B128 12) → by8 (B128 13) → by8 (B128 16) → by8 (B128 17) → mH D E (mA E h q sz) s.heap h q I113 J B128 G H locs → lv_has ls 7 [(5, .int (nI i125)), (4, .int (nI i2)), (0, .ref h), (1, .int (nI 16)), (2, .int (nI cnt)), (3, .ref (q 56))] → W p l e (mR 5 122) s m AV below meth c H locs 0 0 QQ (F0 m 211 ls []) := by
                        intro n124
                        induction n124 with
                        | zero =>
                          intro i125 B128 H locs ls hii125 hsi125 hB129 y130 y131 y132 y133  Y hl
                          refine lv_iload X.1 X.2.1 d_passwordKey_211 (lv_at hl 0 rfl) ?_
                          refine lv_bipush (v := (nI 20)) X.1 X.2.1 d_passwordKey_213 (by decide) ?_
                          refine lv_icmp_ge (tgt := 244) X.1 X.2.1 d_passwordKey_215 (by decide) (fun c134 => ?_) (fun c134 => absurd ?_ c134)
                          rotate_left
                          · (rw [nI_leI (by omega) (by omega)] <;> omega)
                          rw [nI_leI (by omega) (by omega)] at c134
                          refine lv_iinc (v := (nI (i2 + 1))) (lv' := [(4, .int (nI (i2 + 1))), (5, .int (nI i125)), (0, .ref h), (1, .int (nI 16)), (2, .int (nI cnt)), (3, .ref (q 56))]) X.1 X.2.1 d_passwordKey_244 hl (k := 1) rfl (nI_add _ 1) (by decide) rfl (fun ls hl => ?_)
                          refine lv_goto (tgt := 3) X.1 X.2.1 d_passwordKey_247 (by decide) ?_
                          exact ih3 (i2 + 1) I113 B128 _ _ _ (by omega) (by omega) (fun j h5 h6 h7 h9 h10 h11 h12 h13 h15 h16 h17 h19 h20 h21 h26 h27 h56 => (hB129 j h5 h6 h7 h9 h10 h11 h12 h13 h15 h16 h17 h19 h20 h21 h26 h27 h56)) (fun j h8 h14 h18 => (hI116 j h8 h14 h18)) (show by8 (B128 12) from y130) (show by8 (B128 13) from y131) (show by8 (B128 16) from y132) (show by8 (B128 17) from y133) ((show I113 30 = nI (pm) from hk121).trans (congrArg nI (show (pm : Nat) = pm by omega))) ((show I113 29 = nI (sm) from hk122).trans (congrArg nI (show (sm : Nat) = sm by omega)))  Y (lv_sub hl [0, 2, 3, 4, 5] rfl)
                        | succ n124 ih126 =>
                          intro i125 B128 H locs ls hii125 hsi125 hB129 y130 y131 y132 y133  Y hl
                          refine lv_iload X.1 X.2.1 d_passwordKey_211 (lv_at hl 0 rfl) ?_
                          refine lv_bipush (v := (nI 20)) X.1 X.2.1 d_passwordKey_213 (by decide) ?_
                          refine lv_icmp_ge (tgt := 244) X.1 X.2.1 d_passwordKey_215 (by decide) (fun c135 => absurd c135 ?_) (fun c135 => ?_)
                          · (rw [nI_leI (by omega) (by omega)] <;> omega)
                          rw [nI_leI (by omega) (by omega)] at c135
                          refine lv_aload_n X.1 X.2.1 d_passwordKey_218 rfl (lv_at hl 2 rfl) ?_
                          refine m_get X Y 27 (by decide) lk_long0 (gf_long0 _ _ _) rfl d_passwordKey_219 ?_
                          refine lv_bipush (v := (nI 20)) X.1 X.2.1 d_passwordKey_222 (by decide) ?_
                          refine lv_iload X.1 X.2.1 d_passwordKey_224 (lv_at hl 1 rfl) ?_
                          refine lv_imul X.1 X.2.1 d_passwordKey_226 ?_
                          refine t_eq (y := nI ((20) * (i2))) (pk_mul _ _) ?_
                          refine lv_iload X.1 X.2.1 d_passwordKey_227 (lv_at hl 0 rfl) ?_
                          refine lv_iadd X.1 X.2.1 d_passwordKey_229 ?_
                          refine t_eq (y := nI ((20) * (i2) + i125)) (nI_add _ _) ?_
                          refine lv_aload_n X.1 X.2.1 d_passwordKey_230 rfl (lv_at hl 2 rfl) ?_
                          refine m_get X Y 26 (by decide) lk_mixed (gf_mixed _ _ _) rfl d_passwordKey_231 ?_
                          refine lv_iload X.1 X.2.1 d_passwordKey_234 (lv_at hl 0 rfl) ?_
                          refine m_bald X Y (aw_mixed _ _ _ _ _ _ _) (vp_in_nI (by omega) (by decide)) d_passwordKey_236 ?_
                          refine t_any (fun v136 => ?_)
                          refine m_bast X Y (aw_long0 _ _ _ _ _ _ _) (vp_in_nI (by omega) (by decide)) (sw_long0 _ _ _ _ _ _ _ _) d_passwordKey_237 (fun H locs Y => ?_)
                          generalize (upd (B128 27) ((nI ((20) * (i2) + i125))).toNatClampNeg (vp_nar .byte v136)) = f137 at Y
                          refine lv_iinc (v := (nI (i125 + 1))) (lv' := [(5, .int (nI (i125 + 1))), (4, .int (nI i2)), (0, .ref h), (1, .int (nI 16)), (2, .int (nI cnt)), (3, .ref (q 56))]) X.1 X.2.1 d_passwordKey_238 hl (k := 0) rfl (nI_add _ 1) (by decide) rfl (fun ls hl => ?_)
                          refine lv_goto (tgt := 211) X.1 X.2.1 d_passwordKey_241 (by decide) ?_
                          exact ih126 (i125 + 1) (upB B128 27 f137) _ _ _ (by omega) (by omega) (fun j h5 h6 h7 h9 h10 h11 h12 h13 h15 h16 h17 h19 h20 h21 h26 h27 h56 => ((if_neg h27).trans (hB129 j h5 h6 h7 h9 h10 h11 h12 h13 h15 h16 h17 h19 h20 h21 h26 h27 h56))) (show by8 ((upB B128 27 f137) 12) from y130) (show by8 ((upB B128 27 f137) 13) from y131) (show by8 ((upB B128 27 f137) 16) from y132) (show by8 ((upB B128 27 f137) 17) from y133)  Y (lv_sub hl [0, 1, 2, 3, 4, 5] rfl)
                      exact lp127 (20) 0 B114 _ _ _ (by omega) (by omega) (fun j h5 h6 h7 h9 h10 h11 h12 h13 h15 h16 h17 h19 h20 h21 h26 h27 h56 => (hB115 j h5 h6 h7 h9 h10 h11 h12 h13 h15 h16 h17 h19 h20 h21 h26 h27 h56)) (show by8 (B114 12) from y117) (show by8 (B114 13) from y118) (show by8 (B114 16) from y119) (show by8 (B114 17) from y120)  Y (lv_sub hl [0, 1, 2, 3, 4, 5] rfl)
                    | succ n109 ih111 =>
                      intro i110 I113 B114 H locs ls hii110 hsi110 hB115 hI116 y117 y118 y119 y120 hk121 hk122  Y hl
                      refine lv_iload X.1 X.2.1 d_passwordKey_127 (lv_at hl 0 rfl) ?_
                      refine lv_iload_n X.1 X.2.1 d_passwordKey_129 rfl (lv_at hl 4 rfl) ?_
                      refine lv_icmp_ge (tgt := 208) X.1 X.2.1 d_passwordKey_130 (by decide) (fun c138 => absurd c138 ?_) (fun c138 => ?_)
                      · (rw [nI_leI (by omega) (by omega)] <;> omega)
                      rw [nI_leI (by omega) (by omega)] at c138
                      refine lv_aload_n X.1 X.2.1 d_passwordKey_133 rfl (lv_at hl 2 rfl) ?_
                      refine m_callv (As := []) (rest := []) (n := 0) X Y hZ hA hml hl.1 (c_macBegin l D E h q H.size I113 J B114 G ) kl_macBegin ks_macBegin kx_macBegin ki_macBegin ini_M hd_macBegin ⟨by decide, by decide⟩ rfl (Nat.le_of_ble_eq_true rfl) d_passwordKey_134 ⟨Nat.le_refl _, Nat.le_refl _⟩ (fun u H locs hp Y => ?_)
                      obtain ⟨I139, J140, B141, G142⟩ := u
                      obtain ⟨hI143, eJ145, hB144, eG146, hk148⟩ := hp
                      dsimp only at hI143 eJ145 hB144 eG146 hk148 Y
                      rw [eJ145, eG146] at Y
                      have hI149 : (∀ j, j ≠ 8 → j ≠ 14 → j ≠ 18 → I139 j = I j) := fun j h8 h14 h18 => (hI143 j h8).trans ((fun j h8 h14 h18 => (hI116 j h8 h14 h18)) j h8 h14 h18)
                      have hB150 : (∀ j, j ≠ 5 → j ≠ 6 → j ≠ 7 → j ≠ 9 → j ≠ 10 → j ≠ 11 → j ≠ 12 → j ≠ 13 → j ≠ 15 → j ≠ 16 → j ≠ 17 → j ≠ 19 → j ≠ 20 → j ≠ 21 → j ≠ 26 → j ≠ 27 → j ≠ 56 → B141 j = B j) := fun j h5 h6 h7 h9 h10 h11 h12 h13 h15 h16 h17 h19 h20 h21 h26 h27 h56 => (hB144 j h5 h6 h7).trans ((fun j h5 h6 h7 h9 h10 h11 h12 h13 h15 h16 h17 h19 h20 h21 h26 h27 h56 => (hB115 j h5 h6 h7 h9 h10 h11 h12 h13 h15 h16 h17 h19 h20 h21 h26 h27 h56)) j h5 h6 h7 h9 h10 h11 h12 h13 h15 h16 h17 h19 h20 h21 h26 h27 h56)
                      refine lv_iconst (v := (nI 0)) X.1 X.2.1 d_passwordKey_137 (by decide) ?_
                      refine lv_istore (lv' := [(6, .int (nI 0)), (5, .int (nI i110)), (4, .int (nI i2)), (0, .ref h), (1, .int (nI 16)), (2, .int (nI cnt)), (3, .ref (q 56))]) X.1 X.2.1 d_passwordKey_138 hl (by decide) rfl (fun ls hl => ?_)
                      have lp154 : ∀ (n151 i152 : Nat) (I155 : Nat → Int32) (B156 : Nat → Nat → Int32) (H : Heap) (locs : List Loc) (ls : Array Slot), i152 + n151 = 20 → 0 ≤ i152 → (∀ j, j ≠ 5 → j ≠ 6 → j ≠ 7 → j ≠ 9 → j ≠ 10 → j ≠ 11 → j ≠ 12 → j ≠ 13 → j ≠ 15 → j ≠ 16 → j ≠ 17 → j ≠ 19 → j ≠ 20 → j ≠ 21 → j ≠ 26 → j ≠ 27 → j ≠ 56 → B156 j = B j) → (∀ j, j ≠ 8 → j ≠ 14 → j ≠ 18 → I155 j = I j) → by8 (B156 12) → by8 (B156 13) → by8 (B156 16) → by8 (B156 17) → I155 30 = nI (pm) → I155 29 = nI (sm) → I155 8 = nI (64 + i152) → mH D E (mA E h q sz) s.heap h q I155 J B156 G H locs → lv_has ls 7 [(6, .int (nI i152)), (5, .int (nI i110)), (4, .int (nI i2)), (0, .ref h), (1, .int (nI 16)), (2, .int (nI cnt)), (3, .ref (q 56))] → W p l e (mR 5 122) s m AV below meth c H locs 0 0 QQ (F0 m 140 ls []) := by
                        intro n151
                        induction n151 with
                        | zero =>
                          intro i152 I155 B156 H locs ls hii152 hsi152 hB157 hI158 y159 y160 y161 y162 hk163 hk164 hk165  Y hl
                          refine lv_iload X.1 X.2.1 d_passwordKey_140 (lv_at hl 0 rfl) ?_
                          refine lv_bipush (v := (nI 20)) X.1 X.2.1 d_passwordKey_142 (by decide) ?_
                          refine lv_icmp_ge (tgt := 164) X.1 X.2.1 d_passwordKey_144 (by decide) (fun c166 => ?_) (fun c166 => absurd ?_ c166)
                          rotate_left
                          · (rw [nI_leI (by omega) (by omega)] <;> omega)
                          rw [nI_leI (by omega) (by omega)] at c166
                          refine lv_aload_n X.1 X.2.1 d_passwordKey_164 rfl (lv_at hl 3 rfl) ?_
                          refine m_callv (As := []) (rest := []) (n := 0) X Y hZ hA hml hl.1 (c_macEnd l D E h q H.size I155 J B156 G (64 + i152) hk165 (by omega)) kl_macEnd ks_macEnd kx_macEnd ki_macEnd ini_M hd_macEnd ⟨by decide, by decide⟩ rfl (Nat.le_of_ble_eq_true rfl) d_passwordKey_165 ⟨Nat.le_refl _, Nat.le_refl _⟩ (fun u H locs hp Y => ?_)
                          obtain ⟨I167, J168, B169, G170⟩ := u
                          obtain ⟨hI171, eJ173, hB172, eG174⟩ := hp
                          dsimp only at hI171 eJ173 hB172 eG174 Y
                          rw [eJ173, eG174] at Y
                          have hI176 : (∀ j, j ≠ 8 → j ≠ 14 → j ≠ 18 → I167 j = I j) := fun j h8 h14 h18 => (hI171 j h8).trans ((fun j h8 h14 h18 => (hI158 j h8 h14 h18)) j h8 h14 h18)
                          have hB177 : (∀ j, j ≠ 5 → j ≠ 6 → j ≠ 7 → j ≠ 9 → j ≠ 10 → j ≠ 11 → j ≠ 12 → j ≠ 13 → j ≠ 15 → j ≠ 16 → j ≠ 17 → j ≠ 19 → j ≠ 20 → j ≠ 21 → j ≠ 26 → j ≠ 27 → j ≠ 56 → B169 j = B j) := fun j h5 h6 h7 h9 h10 h11 h12 h13 h15 h16 h17 h19 h20 h21 h26 h27 h56 => (hB172 j h5 h6 h7 h9 h10).trans ((fun j h5 h6 h7 h9 h10 h11 h12 h13 h15 h16 h17 h19 h20 h21 h26 h27 h56 => (hB157 j h5 h6 h7 h9 h10 h11 h12 h13 h15 h16 h17 h19 h20 h21 h26 h27 h56)) j h5 h6 h7 h9 h10 h11 h12 h13 h15 h16 h17 h19 h20 h21 h26 h27 h56)
                          refine lv_iconst (v := (nI 0)) X.1 X.2.1 d_passwordKey_168 (by decide) ?_
                          refine lv_istore (lv' := [(6, .int (nI 0)), (5, .int (nI i110)), (4, .int (nI i2)), (0, .ref h), (1, .int (nI 16)), (2, .int (nI cnt)), (3, .ref (q 56))]) X.1 X.2.1 d_passwordKey_169 hl (by decide) rfl (fun ls hl => ?_)
                          have lp181 : ∀ (n178 i179 : Nat) (B182 : Nat → Nat → Int32) (H : Heap) (locs : List Loc) (ls : Array Slot), i179 + n178 = 20 → 0 ≤ i179 → (∀ j, j ≠ 5 → j ≠ 6 → j ≠ 7 → j ≠ 9 → j ≠ 10 → j ≠ 11 → j ≠ 12 → j ≠ 13 → j ≠ 15 → j ≠ 16 → j ≠ 17 → j ≠ 19 → j ≠ 20 → j ≠ 21 → j ≠ 26 → j ≠ 27 → j ≠ 56 → B182 j = B j) → by8 (B182 12) → by8 (B182 13) → by8 (B182 16) → by8 (B182 17) → mH D E (mA E h q sz) s.heap h q I167 J B182 G H locs → lv_has ls 7 [(6, .int (nI i179)), (5, .int (nI i110)), (4, .int (nI i2)), (0, .ref h), (1, .int (nI 16)), (2, .int (nI cnt)), (3, .ref (q 56))] → W p l e (mR 5 122) s m AV below meth c H locs 0 0 QQ (F0 m 171 ls []) := by
                            intro n178
                            induction n178 with
                            | zero =>
                              intro i179 B182 H locs ls hii179 hsi179 hB183 y184 y185 y186 y187  Y hl
                              refine lv_iload X.1 X.2.1 d_passwordKey_171 (lv_at hl 0 rfl) ?_
                              refine lv_bipush (v := (nI 20)) X.1 X.2.1 d_passwordKey_173 (by decide) ?_
                              refine lv_icmp_ge (tgt := 202) X.1 X.2.1 d_passwordKey_175 (by decide) (fun c188 => ?_) (fun c188 => absurd ?_ c188)
                              rotate_left
                              · (rw [nI_leI (by omega) (by omega)] <;> omega)
                              rw [nI_leI (by omega) (by omega)] at c188
                              refine lv_iinc (v := (nI (i110 + 1))) (lv' := [(5, .int (nI (i110 + 1))), (6, .int (nI i179)), (4, .int (nI i2)), (0, .ref h), (1, .int (nI 16)), (2, .int (nI cnt)), (3, .ref (q 56))]) X.1 X.2.1 d_passwordKey_202 hl (k := 1) rfl (nI_add _ 1) (by decide) rfl (fun ls hl => ?_)
                              refine lv_goto (tgt := 127) X.1 X.2.1 d_passwordKey_205 (by decide) ?_
                              exact ih111 (i110 + 1) I167 B182 _ _ _ (by omega) (by omega) (fun j h5 h6 h7 h9 h10 h11 h12 h13 h15 h16 h17 h19 h20 h21 h26 h27 h56 => (hB183 j h5 h6 h7 h9 h10 h11 h12 h13 h15 h16 h17 h19 h20 h21 h26 h27 h56)) (fun j h8 h14 h18 => (hI176 j h8 h14 h18)) (show by8 (B182 12) from y184) (show by8 (B182 13) from y185) (show by8 (B182 16) from y186) (show by8 (B182 17) from y187) ((show I167 30 = nI (pm) from ((hI171 30 (by decide)).trans hk163)).trans (congrArg nI (show (pm : Nat) = pm by omega))) ((show I167 29 = nI (sm) from ((hI171 29 (by decide)).trans hk164)).trans (congrArg nI (show (sm : Nat) = sm by omega)))  Y (lv_sub hl [0, 2, 3, 4, 5, 6] rfl)
                            | succ n178 ih180 =>
                              intro i179 B182 H locs ls hii179 hsi179 hB183 y184 y185 y186 y187  Y hl
                              refine lv_iload X.1 X.2.1 d_passwordKey_171 (lv_at hl 0 rfl) ?_
                              refine lv_bipush (v := (nI 20)) X.1 X.2.1 d_passwordKey_173 (by decide) ?_
                              refine lv_icmp_ge (tgt := 202) X.1 X.2.1 d_passwordKey_175 (by decide) (fun c189 => absurd c189 ?_) (fun c189 => ?_)
                              · (rw [nI_leI (by omega) (by omega)] <;> omega)
                              rw [nI_leI (by omega) (by omega)] at c189
                              refine lv_aload_n X.1 X.2.1 d_passwordKey_178 rfl (lv_at hl 3 rfl) ?_
                              refine m_get X Y 26 (by decide) lk_mixed (gf_mixed _ _ _) rfl d_passwordKey_179 ?_
                              refine lv_iload X.1 X.2.1 d_passwordKey_182 (lv_at hl 0 rfl) ?_
                              refine lv_dup2_11 X.1 X.2.1 d_passwordKey_184 rfl rfl ?_
                              refine m_bald X Y (aw_mixed _ _ _ _ _ _ _) (vp_in_nI (by omega) (by decide)) d_passwordKey_185 ?_
                              refine t_any (fun v190 => ?_)
                              refine lv_aload_n X.1 X.2.1 d_passwordKey_186 rfl (lv_at hl 3 rfl) ?_
                              refine m_get X Y 10 (by decide) lk_mac (gf_mac _ _ _) rfl d_passwordKey_187 ?_
                              refine lv_iload X.1 X.2.1 d_passwordKey_190 (lv_at hl 0 rfl) ?_
                              refine m_bald X Y (aw_mac _ _ _ _ _ _ _) (vp_in_nI (by omega) (by decide)) d_passwordKey_192 ?_
                              refine t_any (fun v191 => ?_)
                              refine lv_ixor X.1 X.2.1 d_passwordKey_193 ?_
                              refine t_any (fun v192 => ?_)
                              obtain ⟨v193, ev193⟩ : ∃ z : Int32, (v192 : Int32).toInt8.toInt32 = z := ⟨_, rfl⟩
                              refine lv_i2b (v := v193) X.1 X.2.1 d_passwordKey_194 ev193 ?_
                              refine m_bast X Y (aw_mixed _ _ _ _ _ _ _) (vp_in_nI (by omega) (by decide)) (sw_mixed _ _ _ _ _ _ _ _) d_passwordKey_195 (fun H locs Y => ?_)
                              generalize (upd (B182 26) ((nI i179)).toNatClampNeg (vp_nar .byte v193)) = f194 at Y
                              refine lv_iinc (v := (nI (i179 + 1))) (lv' := [(6, .int (nI (i179 + 1))), (5, .int (nI i110)), (4, .int (nI i2)), (0, .ref h), (1, .int (nI 16)), (2, .int (nI cnt)), (3, .ref (q 56))]) X.1 X.2.1 d_passwordKey_196 hl (k := 0) rfl (nI_add _ 1) (by decide) rfl (fun ls hl => ?_)
                              refine lv_goto (tgt := 171) X.1 X.2.1 d_passwordKey_199 (by decide) ?_
                              exact ih180 (i179 + 1) (upB B182 26 f194) _ _ _ (by omega) (by omega) (fun j h5 h6 h7 h9 h10 h11 h12 h13 h15 h16 h17 h19 h20 h21 h26 h27 h56 => ((if_neg h26).trans (hB183 j h5 h6 h7 h9 h10 h11 h12 h13 h15 h16 h17 h19 h20 h21 h26 h27 h56))) (show by8 ((upB B182 26 f194) 12) from y184) (show by8 ((upB B182 26 f194) 13) from y185) (show by8 ((upB B182 26 f194) 16) from y186) (show by8 ((upB B182 26 f194) 17) from y187)  Y (lv_sub hl [0, 1, 2, 3, 4, 5, 6] rfl)
                          exact lp181 (20) 0 B169 _ _ _ (by omega) (by omega) (fun j h5 h6 h7 h9 h10 h11 h12 h13 h15 h16 h17 h19 h20 h21 h26 h27 h56 => (hB177 j h5 h6 h7 h9 h10 h11 h12 h13 h15 h16 h17 h19 h20 h21 h26 h27 h56)) (show by8 (B169 12) from (by8_eq (hB172 12 (by decide) (by decide) (by decide) (by decide) (by decide)) y159)) (show by8 (B169 13) from (by8_eq (hB172 13 (by decide) (by decide) (by decide) (by decide) (by decide)) y160)) (show by8 (B169 16) from (by8_eq (hB172 16 (by decide) (by decide) (by decide) (by decide) (by decide)) y161)) (show by8 (B169 17) from (by8_eq (hB172 17 (by decide) (by decide) (by decide) (by decide) (by decide)) y162))  Y (lv_sub hl [0, 1, 2, 3, 4, 5, 6] rfl)
                        | succ n151 ih153 =>
                          intro i152 I155 B156 H locs ls hii152 hsi152 hB157 hI158 y159 y160 y161 y162 hk163 hk164 hk165  Y hl
                          refine lv_iload X.1 X.2.1 d_passwordKey_140 (lv_at hl 0 rfl) ?_
                          refine lv_bipush (v := (nI 20)) X.1 X.2.1 d_passwordKey_142 (by decide) ?_
                          refine lv_icmp_ge (tgt := 164) X.1 X.2.1 d_passwordKey_144 (by decide) (fun c195 => absurd c195 ?_) (fun c195 => ?_)
                          · (rw [nI_leI (by omega) (by omega)] <;> omega)
                          rw [nI_leI (by omega) (by omega)] at c195
                          refine lv_aload_n X.1 X.2.1 d_passwordKey_147 rfl (lv_at hl 3 rfl) ?_
                          refine lv_aload_n X.1 X.2.1 d_passwordKey_148 rfl (lv_at hl 3 rfl) ?_
                          refine m_get X Y 10 (by decide) lk_mac (gf_mac _ _ _) rfl d_passwordKey_149 ?_
                          refine lv_iload X.1 X.2.1 d_passwordKey_152 (lv_at hl 0 rfl) ?_
                          refine m_bald X Y (aw_mac _ _ _ _ _ _ _) (vp_in_nI (by omega) (by decide)) d_passwordKey_154 ?_
                          refine t_any (fun v196 => ?_)
                          refine m_callv (As := [.int v196]) (rest := []) (n := 1) X Y hZ hA hml hl.1 (c_hash l D E h q H.size I155 J B156 G v196 (64 + i152) hk165 (by omega)) kl_hash ks_hash kx_hash ki_hash ini_M hd_hash ⟨by decide, by decide⟩ rfl (Nat.le_of_ble_eq_true rfl) d_passwordKey_155 ⟨Nat.le_refl _, Nat.le_refl _⟩ (fun u H locs hp Y => ?_)
                          obtain ⟨I197, J198, B199, G200⟩ := u
                          obtain ⟨hI201, eJ203, hB202, eG204, hk206⟩ := hp
                          dsimp only at hI201 eJ203 hB202 eG204 hk206 Y
                          rw [eJ203, eG204] at Y
                          have hI207 : (∀ j, j ≠ 8 → j ≠ 14 → j ≠ 18 → I197 j = I j) := fun j h8 h14 h18 => (hI201 j h8).trans ((fun j h8 h14 h18 => (hI158 j h8 h14 h18)) j h8 h14 h18)
                          have hB208 : (∀ j, j ≠ 5 → j ≠ 6 → j ≠ 7 → j ≠ 9 → j ≠ 10 → j ≠ 11 → j ≠ 12 → j ≠ 13 → j ≠ 15 → j ≠ 16 → j ≠ 17 → j ≠ 19 → j ≠ 20 → j ≠ 21 → j ≠ 26 → j ≠ 27 → j ≠ 56 → B199 j = B j) := fun j h5 h6 h7 h9 h10 h11 h12 h13 h15 h16 h17 h19 h20 h21 h26 h27 h56 => (hB202 j h5 h6 h7).trans ((fun j h5 h6 h7 h9 h10 h11 h12 h13 h15 h16 h17 h19 h20 h21 h26 h27 h56 => (hB157 j h5 h6 h7 h9 h10 h11 h12 h13 h15 h16 h17 h19 h20 h21 h26 h27 h56)) j h5 h6 h7 h9 h10 h11 h12 h13 h15 h16 h17 h19 h20 h21 h26 h27 h56)
                          refine lv_iinc (v := (nI (i152 + 1))) (lv' := [(6, .int (nI (i152 + 1))), (5, .int (nI i110)), (4, .int (nI i2)), (0, .ref h), (1, .int (nI 16)), (2, .int (nI cnt)), (3, .ref (q 56))]) X.1 X.2.1 d_passwordKey_158 hl (k := 0) rfl (nI_add _ 1) (by decide) rfl (fun ls hl => ?_)
                          refine lv_goto (tgt := 140) X.1 X.2.1 d_passwordKey_161 (by decide) ?_
                          exact ih153 (i152 + 1) I197 B199 _ _ _ (by omega) (by omega) (fun j h5 h6 h7 h9 h10 h11 h12 h13 h15 h16 h17 h19 h20 h21 h26 h27 h56 => (hB208 j h5 h6 h7 h9 h10 h11 h12 h13 h15 h16 h17 h19 h20 h21 h26 h27 h56)) (fun j h8 h14 h18 => (hI207 j h8 h14 h18)) (show by8 (B199 12) from (by8_eq (hB202 12 (by decide) (by decide) (by decide)) y159)) (show by8 (B199 13) from (by8_eq (hB202 13 (by decide) (by decide) (by decide)) y160)) (show by8 (B199 16) from (by8_eq (hB202 16 (by decide) (by decide) (by decide)) y161)) (show by8 (B199 17) from (by8_eq (hB202 17 (by decide) (by decide) (by decide)) y162)) ((show I197 30 = nI (pm) from ((hI201 30 (by decide)).trans hk163)).trans (congrArg nI (show (pm : Nat) = pm by omega))) ((show I197 29 = nI (sm) from ((hI201 29 (by decide)).trans hk164)).trans (congrArg nI (show (sm : Nat) = sm by omega))) ((show I197 8 = nI ((64 + i152) + 1) from hk206).trans (congrArg nI (show ((64 + i152) + 1 : Nat) = 64 + (i152 + 1) by omega)))  Y (lv_sub hl [0, 1, 2, 3, 4, 5, 6] rfl)
                      exact lp154 (20) 0 I139 B141 _ _ _ (by omega) (by omega) (fun j h5 h6 h7 h9 h10 h11 h12 h13 h15 h16 h17 h19 h20 h21 h26 h27 h56 => (hB150 j h5 h6 h7 h9 h10 h11 h12 h13 h15 h16 h17 h19 h20 h21 h26 h27 h56)) (fun j h8 h14 h18 => (hI149 j h8 h14 h18)) (show by8 (B141 12) from (by8_eq (hB144 12 (by decide) (by decide) (by decide)) y117)) (show by8 (B141 13) from (by8_eq (hB144 13 (by decide) (by decide) (by decide)) y118)) (show by8 (B141 16) from (by8_eq (hB144 16 (by decide) (by decide) (by decide)) y119)) (show by8 (B141 17) from (by8_eq (hB144 17 (by decide) (by decide) (by decide)) y120)) ((show I139 30 = nI (pm) from ((hI143 30 (by decide)).trans hk121)).trans (congrArg nI (show (pm : Nat) = pm by omega))) ((show I139 29 = nI (sm) from ((hI143 29 (by decide)).trans hk122)).trans (congrArg nI (show (sm : Nat) = sm by omega))) ((show I139 8 = nI (64) from hk148).trans (congrArg nI (show (64 : Nat) = 64 + 0 by omega)))  Y (lv_sub hl [0, 1, 2, 3, 4, 5, 6] rfl)
                  exact lp112 (cnt - 1) 1 I87 B102 _ _ _ (by omega) (by omega) (fun j h5 h6 h7 h9 h10 h11 h12 h13 h15 h16 h17 h19 h20 h21 h26 h27 h56 => (hB103 j h5 h6 h7 h9 h10 h11 h12 h13 h15 h16 h17 h19 h20 h21 h26 h27 h56)) (fun j h8 h14 h18 => (hI96 j h8 h14 h18)) (show by8 (B102 12) from y104) (show by8 (B102 13) from y105) (show by8 (B102 16) from y106) (show by8 (B102 17) from y107) ((show I87 30 = nI (pm) from ((hI91 30 (by decide)).trans hk83)).trans (congrArg nI (show (pm : Nat) = pm by omega))) ((show I87 29 = nI (sm) from ((hI91 29 (by decide)).trans hk84)).trans (congrArg nI (show (sm : Nat) = sm by omega)))  Y (lv_sub hl [0, 1, 2, 3, 4, 5] rfl)
                | succ n98 ih100 =>
                  intro i99 B102 H locs ls hii99 hsi99 hB103 y104 y105 y106 y107  Y hl
                  refine lv_iload X.1 X.2.1 d_passwordKey_97 (lv_at hl 0 rfl) ?_
                  refine lv_bipush (v := (nI 20)) X.1 X.2.1 d_passwordKey_99 (by decide) ?_
                  refine lv_icmp_ge (tgt := 124) X.1 X.2.1 d_passwordKey_101 (by decide) (fun c209 => absurd c209 ?_) (fun c209 => ?_)
                  · (rw [nI_leI (by omega) (by omega)] <;> omega)
                  rw [nI_leI (by omega) (by omega)] at c209
                  refine lv_aload_n X.1 X.2.1 d_passwordKey_104 rfl (lv_at hl 2 rfl) ?_
                  refine m_get X Y 26 (by decide) lk_mixed (gf_mixed _ _ _) rfl d_passwordKey_105 ?_
                  refine lv_iload X.1 X.2.1 d_passwordKey_108 (lv_at hl 0 rfl) ?_
                  refine lv_aload_n X.1 X.2.1 d_passwordKey_110 rfl (lv_at hl 2 rfl) ?_
                  refine m_get X Y 10 (by decide) lk_mac (gf_mac _ _ _) rfl d_passwordKey_111 ?_
                  refine lv_iload X.1 X.2.1 d_passwordKey_114 (lv_at hl 0 rfl) ?_
                  refine m_bald X Y (aw_mac _ _ _ _ _ _ _) (vp_in_nI (by omega) (by decide)) d_passwordKey_116 ?_
                  refine t_any (fun v210 => ?_)
                  refine m_bast X Y (aw_mixed _ _ _ _ _ _ _) (vp_in_nI (by omega) (by decide)) (sw_mixed _ _ _ _ _ _ _ _) d_passwordKey_117 (fun H locs Y => ?_)
                  generalize (upd (B102 26) ((nI i99)).toNatClampNeg (vp_nar .byte v210)) = f211 at Y
                  refine lv_iinc (v := (nI (i99 + 1))) (lv' := [(5, .int (nI (i99 + 1))), (4, .int (nI i2)), (0, .ref h), (1, .int (nI 16)), (2, .int (nI cnt)), (3, .ref (q 56))]) X.1 X.2.1 d_passwordKey_118 hl (k := 0) rfl (nI_add _ 1) (by decide) rfl (fun ls hl => ?_)
                  refine lv_goto (tgt := 97) X.1 X.2.1 d_passwordKey_121 (by decide) ?_
                  exact ih100 (i99 + 1) (upB B102 26 f211) _ _ _ (by omega) (by omega) (fun j h5 h6 h7 h9 h10 h11 h12 h13 h15 h16 h17 h19 h20 h21 h26 h27 h56 => ((if_neg h26).trans (hB103 j h5 h6 h7 h9 h10 h11 h12 h13 h15 h16 h17 h19 h20 h21 h26 h27 h56))) (show by8 ((upB B102 26 f211) 12) from y104) (show by8 ((upB B102 26 f211) 13) from y105) (show by8 ((upB B102 26 f211) 16) from y106) (show by8 ((upB B102 26 f211) 17) from y107)  Y (lv_sub hl [0, 1, 2, 3, 4, 5] rfl)
              exact lp101 (20) 0 B89 _ _ _ (by omega) (by omega) (fun j h5 h6 h7 h9 h10 h11 h12 h13 h15 h16 h17 h19 h20 h21 h26 h27 h56 => (hB97 j h5 h6 h7 h9 h10 h11 h12 h13 h15 h16 h17 h19 h20 h21 h26 h27 h56)) (show by8 (B89 12) from (by8_eq (hB92 12 (by decide) (by decide) (by decide) (by decide) (by decide)) y79)) (show by8 (B89 13) from (by8_eq (hB92 13 (by decide) (by decide) (by decide) (by decide) (by decide)) y80)) (show by8 (B89 16) from (by8_eq (hB92 16 (by decide) (by decide) (by decide) (by decide) (by decide)) y81)) (show by8 (B89 17) from (by8_eq (hB92 17 (by decide) (by decide) (by decide) (by decide) (by decide)) y82))  Y (lv_sub hl [0, 1, 2, 3, 4, 5] rfl)
            | succ n71 ih73 =>
              intro i72 I75 B76 H locs ls hii72 hsi72 hB77 hI78 y79 y80 y81 y82 hk83 hk84 hk85  Y hl
              refine lv_iload X.1 X.2.1 d_passwordKey_60 (lv_at hl 0 rfl) ?_
              refine lv_iconst (v := (nI 4)) X.1 X.2.1 d_passwordKey_62 (by decide) ?_
              refine lv_icmp_ge (tgt := 90) X.1 X.2.1 d_passwordKey_63 (by decide) (fun c212 => absurd c212 ?_) (fun c212 => ?_)
              · (rw [nI_leI (by omega) (by omega)] <;> omega)
              rw [nI_leI (by omega) (by omega)] at c212
              refine lv_aload_n X.1 X.2.1 d_passwordKey_66 rfl (lv_at hl 2 rfl) ?_
              have jn214 : ∀ w213 : Int32, W p l e (mR 5 122) s m AV below meth c H locs 0 0 QQ (F0 m 81 ls [.int w213, .ref h]) := by
                intro w213
                refine m_callv (As := [.int w213]) (rest := []) (n := 1) X Y hZ hA hml hl.1 (c_hash l D E h q H.size I75 J B76 G w213 (64 + sm + i72) hk85 (by omega)) kl_hash ks_hash kx_hash ki_hash ini_M hd_hash ⟨by decide, by decide⟩ rfl (Nat.le_of_ble_eq_true rfl) d_passwordKey_81 ⟨Nat.le_refl _, Nat.le_refl _⟩ (fun u H locs hp Y => ?_)
                obtain ⟨I215, J216, B217, G218⟩ := u
                obtain ⟨hI219, eJ221, hB220, eG222, hk224⟩ := hp
                dsimp only at hI219 eJ221 hB220 eG222 hk224 Y
                rw [eJ221, eG222] at Y
                have hI225 : (∀ j, j ≠ 8 → j ≠ 14 → j ≠ 18 → I215 j = I j) := fun j h8 h14 h18 => (hI219 j h8).trans ((fun j h8 h14 h18 => (hI78 j h8 h14 h18)) j h8 h14 h18)
                have hB226 : (∀ j, j ≠ 5 → j ≠ 6 → j ≠ 7 → j ≠ 9 → j ≠ 10 → j ≠ 11 → j ≠ 12 → j ≠ 13 → j ≠ 15 → j ≠ 16 → j ≠ 17 → j ≠ 19 → j ≠ 20 → j ≠ 21 → j ≠ 26 → j ≠ 27 → j ≠ 56 → B217 j = B j) := fun j h5 h6 h7 h9 h10 h11 h12 h13 h15 h16 h17 h19 h20 h21 h26 h27 h56 => (hB220 j h5 h6 h7).trans ((fun j h5 h6 h7 h9 h10 h11 h12 h13 h15 h16 h17 h19 h20 h21 h26 h27 h56 => (hB77 j h5 h6 h7 h9 h10 h11 h12 h13 h15 h16 h17 h19 h20 h21 h26 h27 h56)) j h5 h6 h7 h9 h10 h11 h12 h13 h15 h16 h17 h19 h20 h21 h26 h27 h56)
                refine lv_iinc (v := (nI (i72 + 1))) (lv' := [(5, .int (nI (i72 + 1))), (4, .int (nI i2)), (0, .ref h), (1, .int (nI 16)), (2, .int (nI cnt)), (3, .ref (q 56))]) X.1 X.2.1 d_passwordKey_84 hl (k := 0) rfl (nI_add _ 1) (by decide) rfl (fun ls hl => ?_)
                refine lv_goto (tgt := 60) X.1 X.2.1 d_passwordKey_87 (by decide) ?_
                exact ih73 (i72 + 1) I215 B217 _ _ _ (by omega) (by omega) (fun j h5 h6 h7 h9 h10 h11 h12 h13 h15 h16 h17 h19 h20 h21 h26 h27 h56 => (hB226 j h5 h6 h7 h9 h10 h11 h12 h13 h15 h16 h17 h19 h20 h21 h26 h27 h56)) (fun j h8 h14 h18 => (hI225 j h8 h14 h18)) (show by8 (B217 12) from (by8_eq (hB220 12 (by decide) (by decide) (by decide)) y79)) (show by8 (B217 13) from (by8_eq (hB220 13 (by decide) (by decide) (by decide)) y80)) (show by8 (B217 16) from (by8_eq (hB220 16 (by decide) (by decide) (by decide)) y81)) (show by8 (B217 17) from (by8_eq (hB220 17 (by decide) (by decide) (by decide)) y82)) ((show I215 30 = nI (pm) from ((hI219 30 (by decide)).trans hk83)).trans (congrArg nI (show (pm : Nat) = pm by omega))) ((show I215 29 = nI (sm) from ((hI219 29 (by decide)).trans hk84)).trans (congrArg nI (show (sm : Nat) = sm by omega))) ((show I215 8 = nI ((64 + sm + i72) + 1) from hk224).trans (congrArg nI (show ((64 + sm + i72) + 1 : Nat) = 64 + sm + (i72 + 1) by omega)))  Y (lv_sub hl [0, 1, 2, 3, 4, 5] rfl)
              refine lv_iload X.1 X.2.1 d_passwordKey_67 (lv_at hl 0 rfl) ?_
              refine lv_iconst (v := (nI 3)) X.1 X.2.1 d_passwordKey_69 (by decide) ?_
              refine lv_icmp_ne (tgt := 80) X.1 X.2.1 d_passwordKey_70 (by decide) (fun c227 => ?_) (fun c227 => ?_)
              · skip
                rw [nI_eq (by omega) (by omega)] at c227
                refine lv_iconst (v := (nI 0)) X.1 X.2.1 d_passwordKey_80 (by decide) ?_
                exact jn214 _
              · skip
                rw [nI_eq (by omega) (by omega)] at c227
                refine lv_iload X.1 X.2.1 d_passwordKey_73 (lv_at hl 1 rfl) ?_
                refine lv_iconst (v := (nI 1)) X.1 X.2.1 d_passwordKey_75 (by decide) ?_
                refine lv_iadd X.1 X.2.1 d_passwordKey_76 ?_
                refine t_eq (y := nI (i2 + 1)) (nI_add _ _) ?_
                refine lv_goto (tgt := 81) X.1 X.2.1 d_passwordKey_77 (by decide) ?_
                exact jn214 _
          exact lp74 (4) 0 I59 B60 _ _ _ (by omega) (by omega) (fun j h5 h6 h7 h9 h10 h11 h12 h13 h15 h16 h17 h19 h20 h21 h26 h27 h56 => (hB61 j h5 h6 h7 h9 h10 h11 h12 h13 h15 h16 h17 h19 h20 h21 h26 h27 h56)) (fun j h8 h14 h18 => (hI62 j h8 h14 h18)) (show by8 (B60 12) from y63) (show by8 (B60 13) from y64) (show by8 (B60 16) from y65) (show by8 (B60 17) from y66) ((show I59 30 = nI (pm) from hk67).trans (congrArg nI (show (pm : Nat) = pm by omega))) ((show I59 29 = nI (sm) from hk68).trans (congrArg nI (show (sm : Nat) = sm by omega))) ((show I59 8 = nI (64 + i56) from hk69).trans (congrArg nI (show (64 + i56 : Nat) = 64 + sm + 0 by omega)))  Y (lv_sub hl [0, 1, 2, 3, 4, 5] rfl)
        | succ n55 ih57 =>
          intro i56 I59 B60 H locs ls hii56 hsi56 hB61 hI62 y63 y64 y65 y66 hk67 hk68 hk69  Y hl
          refine lv_iload X.1 X.2.1 d_passwordKey_31 (lv_at hl 0 rfl) ?_
          refine lv_aload_n X.1 X.2.1 d_passwordKey_33 rfl (lv_at hl 2 rfl) ?_
          refine m_get X Y 29 (by decide) lk_saltMany (gf_saltMany _ _ _) rfl d_passwordKey_34 ?_
          refine t_eq (show I59 29 = nI (sm) from hk68) ?_
          refine lv_icmp_ge (tgt := 57) X.1 X.2.1 d_passwordKey_37 (by decide) (fun c228 => absurd c228 ?_) (fun c228 => ?_)
          · (rw [nI_leI (by omega) (by omega)] <;> omega)
          rw [nI_leI (by omega) (by omega)] at c228
          refine lv_aload_n X.1 X.2.1 d_passwordKey_40 rfl (lv_at hl 2 rfl) ?_
          refine lv_aload_n X.1 X.2.1 d_passwordKey_41 rfl (lv_at hl 2 rfl) ?_
          refine m_get X Y 24 (by decide) lk_salt (gf_salt _ _ _) rfl d_passwordKey_42 ?_
          refine lv_iload X.1 X.2.1 d_passwordKey_45 (lv_at hl 0 rfl) ?_
          refine m_bald X Y (aw_salt _ _ _ _ _ _ _) (vp_in_nI (by omega) (by decide)) d_passwordKey_47 ?_
          refine t_any (fun v229 => ?_)
          refine m_callv (As := [.int v229]) (rest := []) (n := 1) X Y hZ hA hml hl.1 (c_hash l D E h q H.size I59 J B60 G v229 (64 + i56) hk69 (by omega)) kl_hash ks_hash kx_hash ki_hash ini_M hd_hash ⟨by decide, by decide⟩ rfl (Nat.le_of_ble_eq_true rfl) d_passwordKey_48 ⟨Nat.le_refl _, Nat.le_refl _⟩ (fun u H locs hp Y => ?_)
          obtain ⟨I230, J231, B232, G233⟩ := u
          obtain ⟨hI234, eJ236, hB235, eG237, hk239⟩ := hp
          dsimp only at hI234 eJ236 hB235 eG237 hk239 Y
          rw [eJ236, eG237] at Y
          have hI240 : (∀ j, j ≠ 8 → j ≠ 14 → j ≠ 18 → I230 j = I j) := fun j h8 h14 h18 => (hI234 j h8).trans ((fun j h8 h14 h18 => (hI62 j h8 h14 h18)) j h8 h14 h18)
          have hB241 : (∀ j, j ≠ 5 → j ≠ 6 → j ≠ 7 → j ≠ 9 → j ≠ 10 → j ≠ 11 → j ≠ 12 → j ≠ 13 → j ≠ 15 → j ≠ 16 → j ≠ 17 → j ≠ 19 → j ≠ 20 → j ≠ 21 → j ≠ 26 → j ≠ 27 → j ≠ 56 → B232 j = B j) := fun j h5 h6 h7 h9 h10 h11 h12 h13 h15 h16 h17 h19 h20 h21 h26 h27 h56 => (hB235 j h5 h6 h7).trans ((fun j h5 h6 h7 h9 h10 h11 h12 h13 h15 h16 h17 h19 h20 h21 h26 h27 h56 => (hB61 j h5 h6 h7 h9 h10 h11 h12 h13 h15 h16 h17 h19 h20 h21 h26 h27 h56)) j h5 h6 h7 h9 h10 h11 h12 h13 h15 h16 h17 h19 h20 h21 h26 h27 h56)
          refine lv_iinc (v := (nI (i56 + 1))) (lv' := [(5, .int (nI (i56 + 1))), (4, .int (nI i2)), (0, .ref h), (1, .int (nI 16)), (2, .int (nI cnt)), (3, .ref (q 56))]) X.1 X.2.1 d_passwordKey_51 hl (k := 0) rfl (nI_add _ 1) (by decide) rfl (fun ls hl => ?_)
          refine lv_goto (tgt := 31) X.1 X.2.1 d_passwordKey_54 (by decide) ?_
          exact ih57 (i56 + 1) I230 B232 _ _ _ (by omega) (by omega) (fun j h5 h6 h7 h9 h10 h11 h12 h13 h15 h16 h17 h19 h20 h21 h26 h27 h56 => (hB241 j h5 h6 h7 h9 h10 h11 h12 h13 h15 h16 h17 h19 h20 h21 h26 h27 h56)) (fun j h8 h14 h18 => (hI240 j h8 h14 h18)) (show by8 (B232 12) from (by8_eq (hB235 12 (by decide) (by decide) (by decide)) y63)) (show by8 (B232 13) from (by8_eq (hB235 13 (by decide) (by decide) (by decide)) y64)) (show by8 (B232 16) from (by8_eq (hB235 16 (by decide) (by decide) (by decide)) y65)) (show by8 (B232 17) from (by8_eq (hB235 17 (by decide) (by decide) (by decide)) y66)) ((show I230 30 = nI (pm) from ((hI234 30 (by decide)).trans hk67)).trans (congrArg nI (show (pm : Nat) = pm by omega))) ((show I230 29 = nI (sm) from ((hI234 29 (by decide)).trans hk68)).trans (congrArg nI (show (sm : Nat) = sm by omega))) ((show I230 8 = nI ((64 + i56) + 1) from hk239).trans (congrArg nI (show ((64 + i56) + 1 : Nat) = 64 + (i56 + 1) by omega)))  Y (lv_sub hl [0, 1, 2, 3, 4, 5] rfl)
      exact lp58 (sm) 0 I43 B45 _ _ _ (by omega) (by omega) (fun j h5 h6 h7 h9 h10 h11 h12 h13 h15 h16 h17 h19 h20 h21 h26 h27 h56 => (hB54 j h5 h6 h7 h9 h10 h11 h12 h13 h15 h16 h17 h19 h20 h21 h26 h27 h56)) (fun j h8 h14 h18 => (hI53 j h8 h14 h18)) (show by8 (B45 12) from (by8_eq (hB48 12 (by decide) (by decide) (by decide)) (by8_eq (hB37 12 (by decide)) y9))) (show by8 (B45 13) from (by8_eq (hB48 13 (by decide) (by decide) (by decide)) (by8_eq (hB37 13 (by decide)) y10))) (show by8 (B45 16) from (by8_eq (hB48 16 (by decide) (by decide) (by decide)) (by8_eq (hB37 16 (by decide)) y11))) (show by8 (B45 17) from (by8_eq (hB48 17 (by decide) (by decide) (by decide)) (by8_eq (hB37 17 (by decide)) y12))) ((show I43 30 = nI (pm) from ((hI47 30 (by decide)).trans hk13)).trans (congrArg nI (show (pm : Nat) = pm by omega))) ((show I43 29 = nI (sm) from ((hI47 29 (by decide)).trans hk14)).trans (congrArg nI (show (sm : Nat) = sm by omega))) ((show I43 8 = nI (64) from hk52).trans (congrArg nI (show (64 : Nat) = 64 + 0 by omega)))  Y (lv_sub hl [0, 1, 2, 3, 4, 5] rfl)
  exact lp4 (1) 0 I B _ _ _ (by omega) (by omega) (fun j h5 h6 h7 h9 h10 h11 h12 h13 h15 h16 h17 h19 h20 h21 h26 h27 h56 => rfl) (fun j h8 h14 h18 => rfl) (show by8 (B 12) from y12) (show by8 (B 13) from y13) (show by8 (B 16) from y16) (show by8 (B 17) from y17) ((show I 30 = nI (pm) from hpm).trans (congrArg nI (show (pm : Nat) = pm by omega))) ((show I 29 = nI (sm) from hsm).trans (congrArg nI (show (sm : Nat) = sm by omega)))  Y (lv_sub hl [0, 1, 2, 3, 4] rfl)
set_option maxHeartbeats 4000000 in
set_option maxRecDepth 100000 in
theorem c_passwordKey_32 (l : Launch) (D : mD) (E : mE) (h : Nat) (q : Nat → Nat) (sz : Nat) (I : Nat → Int32) (J : Nat → Int64) (B : Nat → Nat → Int32) (G : Nat → Nat → Int64) (cnt pm sm : Nat) (hcnt1 : 1 ≤ cnt) (hcnt : cnt ≤ 200) (hpm : I 30 = nI pm) (hpm2 : pm ≤ 30) (hsm : I 29 = nI sm) (hsm2 : sm ≤ 60) (y12 : by8 (B 12)) (y13 : by8 (B 13)) (y16 : by8 (B 16)) (y17 : by8 (B 17)) : Met l y_passwordKey (k_passwordKey :: lw_tg) (mR 5 122) (va_Pc [.ref h, .int (nI 32), .int (nI cnt), .ref (q 56)] (mPre D E h q (I, J, B, G) sz)) (va_Qv (fun (u : mS) => (∀ j, j ≠ 8 → j ≠ 14 → j ≠ 18 → u.1 j = I j) ∧ u.2.1 = J ∧ (∀ j, j ≠ 5 → j ≠ 6 → j ≠ 7 → j ≠ 9 → j ≠ 10 → j ≠ 11 → j ≠ 12 → j ≠ 13 → j ≠ 15 → j ≠ 16 → j ≠ 17 → j ≠ 19 → j ≠ 20 → j ≠ 21 → j ≠ 26 → j ≠ 27 → j ≠ 56 → u.2.2.1 j = B j) ∧ u.2.2.2 = G ∧ by8 (u.2.2.1 12) ∧ by8 (u.2.2.1 13) ∧ by8 (u.2.2.1 16) ∧ by8 (u.2.2.1 17)) (mPost D E h q (mA E h q sz)) (mA E h q sz)) 0 0 (mA E h q sz) := by
  refine m_enter (by decide) rfl (Nat.le_of_ble_eq_true rfl) (fun p e s m below meth c ls AV QQ H locs hQQ X Y hZ hA hr hlk hml hl => ?_)
  have Y : mH D E (mA E h q sz) s.heap h q I J B G H locs := Y
  have hl : lv_has ls 7 [(0, .ref h), (1, .int (nI 32)), (2, .int (nI cnt)), (3, .ref (q 56))] := hl
  refine lv_iconst (v := (nI 0)) X.1 X.2.1 d_passwordKey_0 (by decide) ?_
  refine lv_istore (lv' := [(4, .int (nI 0)), (0, .ref h), (1, .int (nI 32)), (2, .int (nI cnt)), (3, .ref (q 56))]) X.1 X.2.1 d_passwordKey_1 hl (by decide) rfl (fun ls hl => ?_)
  have lp4 : ∀ (n1 i2 : Nat) (I5 : Nat → Int32) (B6 : Nat → Nat → Int32) (H : Heap) (locs : List Loc) (ls : Array Slot), i2 + n1 = 2 → 0 ≤ i2 → (∀ j, j ≠ 5 → j ≠ 6 → j ≠ 7 → j ≠ 9 → j ≠ 10 → j ≠ 11 → j ≠ 12 → j ≠ 13 → j ≠ 15 → j ≠ 16 → j ≠ 17 → j ≠ 19 → j ≠ 20 → j ≠ 21 → j ≠ 26 → j ≠ 27 → j ≠ 56 → B6 j = B j) → (∀ j, j ≠ 8 → j ≠ 14 → j ≠ 18 → I5 j = I j) → by8 (B6 12) → by8 (B6 13) → by8 (B6 16) → by8 (B6 17) → I5 30 = nI (pm) → I5 29 = nI (sm) → mH D E (mA E h q sz) s.heap h q I5 J B6 G H locs → lv_has ls 7 [(4, .int (nI i2)), (0, .ref h), (1, .int (nI 32)), (2, .int (nI cnt)), (3, .ref (q 56))] → W p l e (mR 5 122) s m AV below meth c H locs 0 0 QQ (F0 m 3 ls []) := by
    intro n1
    induction n1 with
    | zero =>
      intro i2 I5 B6 H locs ls hii2 hsi2 hB7 hI8 y9 y10 y11 y12 hk13 hk14  Y hl
      refine lv_bipush (v := (nI 20)) X.1 X.2.1 d_passwordKey_3 (by decide) ?_
      refine lv_iload X.1 X.2.1 d_passwordKey_5 (lv_at hl 0 rfl) ?_
      refine lv_imul X.1 X.2.1 d_passwordKey_7 ?_
      refine t_eq (y := nI ((20) * (i2))) (pk_mul _ _) ?_
      refine lv_iload_n X.1 X.2.1 d_passwordKey_8 rfl (lv_at hl 2 rfl) ?_
      refine lv_icmp_ge (tgt := 250) X.1 X.2.1 d_passwordKey_9 (by decide) (fun c15 => ?_) (fun c15 => absurd ?_ c15)
      rotate_left
      · (rw [nI_leI (by omega) (by omega)] <;> omega)
      rw [nI_leI (by omega) (by omega)] at c15
      refine lv_aload_n X.1 X.2.1 d_passwordKey_250 rfl (lv_at hl 1 rfl) ?_
      refine lv_aload_n X.1 X.2.1 d_passwordKey_251 rfl (lv_at hl 1 rfl) ?_
      refine m_get X Y 27 (by decide) lk_long0 (gf_long0 _ _ _) rfl d_passwordKey_252 ?_
      refine lv_iload_n X.1 X.2.1 d_passwordKey_255 rfl (lv_at hl 2 rfl) ?_
      refine lv_aload_n X.1 X.2.1 d_passwordKey_256 rfl (lv_at hl 1 rfl) ?_
      refine m_get X Y 28 (by decide) lk_kerberos (gf_kerberos _ _ _) rfl d_passwordKey_257 ?_
      refine lv_bipush (v := (nI 8)) X.1 X.2.1 d_passwordKey_260 (by decide) ?_
      refine lv_aload_n X.1 X.2.1 d_passwordKey_262 rfl (lv_at hl 4 rfl) ?_
      refine m_callv (As := [.ref (q 27), .int (nI 32), .ref (q 28), .int (nI 8), .ref (q 56)]) (rest := []) (n := 5) X Y hZ hA hml hl.1 (c_derive_32 l D E h q H.size I5 J B6 G  (show by8 (B6 12) from y9) (show by8 (B6 13) from y10) (show by8 (B6 16) from y11) (show by8 (B6 17) from y12)) kl_derive ks_derive kx_derive ki_derive ini_M hd_derive ⟨by decide, by decide⟩ rfl (Nat.le_of_ble_eq_true rfl) d_passwordKey_263 ⟨Nat.le_refl _, Nat.le_refl _⟩ (fun u H locs hp Y => ?_)
      obtain ⟨I16, J17, B18, G19⟩ := u
      obtain ⟨hI20, eJ22, hB21, eG23, y25, y26, y27, y28⟩ := hp
      dsimp only at hI20 eJ22 hB21 eG23 y25 y26 y27 y28 Y
      rw [eJ22, eG23] at Y
      have hI29 : (∀ j, j ≠ 8 → j ≠ 14 → j ≠ 18 → I16 j = I j) := fun j h8 h14 h18 => (hI20 j h14 h18).trans ((fun j h8 h14 h18 => (hI8 j h8 h14 h18)) j h8 h14 h18)
      have hB30 : (∀ j, j ≠ 5 → j ≠ 6 → j ≠ 7 → j ≠ 9 → j ≠ 10 → j ≠ 11 → j ≠ 12 → j ≠ 13 → j ≠ 15 → j ≠ 16 → j ≠ 17 → j ≠ 19 → j ≠ 20 → j ≠ 21 → j ≠ 26 → j ≠ 27 → j ≠ 56 → B18 j = B j) := fun j h5 h6 h7 h9 h10 h11 h12 h13 h15 h16 h17 h19 h20 h21 h26 h27 h56 => (hB21 j h12 h13 h15 h16 h17 h19 h20 h21 h56).trans ((fun j h5 h6 h7 h9 h10 h11 h12 h13 h15 h16 h17 h19 h20 h21 h26 h27 h56 => (hB7 j h5 h6 h7 h9 h10 h11 h12 h13 h15 h16 h17 h19 h20 h21 h26 h27 h56)) j h5 h6 h7 h9 h10 h11 h12 h13 h15 h16 h17 h19 h20 h21 h26 h27 h56)
      exact m_retv hQQ X Y hr hlk ⟨(fun j h8 h14 h18 => (hI29 j h8 h14 h18)), rfl, (fun j h5 h6 h7 h9 h10 h11 h12 h13 h15 h16 h17 h19 h20 h21 h26 h27 h56 => (hB30 j h5 h6 h7 h9 h10 h11 h12 h13 h15 h16 h17 h19 h20 h21 h26 h27 h56)), rfl, (show by8 (B18 12) from y25), (show by8 (B18 13) from y26), (show by8 (B18 16) from y27), (show by8 (B18 17) from y28)⟩ d_passwordKey_266
    | succ n1 ih3 =>
      intro i2 I5 B6 H locs ls hii2 hsi2 hB7 hI8 y9 y10 y11 y12 hk13 hk14  Y hl
      refine lv_bipush (v := (nI 20)) X.1 X.2.1 d_passwordKey_3 (by decide) ?_
      refine lv_iload X.1 X.2.1 d_passwordKey_5 (lv_at hl 0 rfl) ?_
      refine lv_imul X.1 X.2.1 d_passwordKey_7 ?_
      refine t_eq (y := nI ((20) * (i2))) (pk_mul _ _) ?_
      refine lv_iload_n X.1 X.2.1 d_passwordKey_8 rfl (lv_at hl 2 rfl) ?_
      refine lv_icmp_ge (tgt := 250) X.1 X.2.1 d_passwordKey_9 (by decide) (fun c31 => absurd c31 ?_) (fun c31 => ?_)
      · (rw [nI_leI (by omega) (by omega)] <;> omega)
      rw [nI_leI (by omega) (by omega)] at c31
      refine lv_aload_n X.1 X.2.1 d_passwordKey_12 rfl (lv_at hl 1 rfl) ?_
      refine lv_aload_n X.1 X.2.1 d_passwordKey_13 rfl (lv_at hl 1 rfl) ?_
      refine m_get X Y 25 (by decide) lk_password (gf_password _ _ _) rfl d_passwordKey_14 ?_
      refine lv_aload_n X.1 X.2.1 d_passwordKey_17 rfl (lv_at hl 1 rfl) ?_
      refine m_get X Y 30 (by decide) lk_passwordMany (gf_passwordMany _ _ _) rfl d_passwordKey_18 ?_
      refine t_eq (show I5 30 = nI (pm) from hk13) ?_
      refine m_callv (As := [.ref (q 25), .int (nI (pm))]) (rest := []) (n := 2) X Y hZ hA hml hl.1 (c_macKey_password l D E h q H.size I5 J B6 G (pm) (by omega)) kl_macKey ks_macKey kx_macKey ki_macKey ini_M hd_macKey ⟨by decide, by decide⟩ rfl (Nat.le_of_ble_eq_true rfl) d_passwordKey_21 ⟨Nat.le_refl _, Nat.le_refl _⟩ (fun u H locs hp Y => ?_)
      obtain ⟨I32, J33, B34, G35⟩ := u
      obtain ⟨hI36, eJ38, hB37, eG39⟩ := hp
      dsimp only at hI36 eJ38 hB37 eG39 Y
      rw [eJ38, eG39] at Y
      rw [show I32 = I5 from funext hI36] at Y
      have hB42 : (∀ j, j ≠ 5 → j ≠ 6 → j ≠ 7 → j ≠ 9 → j ≠ 10 → j ≠ 11 → j ≠ 12 → j ≠ 13 → j ≠ 15 → j ≠ 16 → j ≠ 17 → j ≠ 19 → j ≠ 20 → j ≠ 21 → j ≠ 26 → j ≠ 27 → j ≠ 56 → B34 j = B j) := fun j h5 h6 h7 h9 h10 h11 h12 h13 h15 h16 h17 h19 h20 h21 h26 h27 h56 => (hB37 j h11).trans ((fun j h5 h6 h7 h9 h10 h11 h12 h13 h15 h16 h17 h19 h20 h21 h26 h27 h56 => (hB7 j h5 h6 h7 h9 h10 h11 h12 h13 h15 h16 h17 h19 h20 h21 h26 h27 h56)) j h5 h6 h7 h9 h10 h11 h12 h13 h15 h16 h17 h19 h20 h21 h26 h27 h56)
      refine lv_aload_n X.1 X.2.1 d_passwordKey_24 rfl (lv_at hl 1 rfl) ?_
      refine m_callv (As := []) (rest := []) (n := 0) X Y hZ hA hml hl.1 (c_macBegin l D E h q H.size I5 J B34 G ) kl_macBegin ks_macBegin kx_macBegin ki_macBegin ini_M hd_macBegin ⟨by decide, by decide⟩ rfl (Nat.le_of_ble_eq_true rfl) d_passwordKey_25 ⟨Nat.le_refl _, Nat.le_refl _⟩ (fun u H locs hp Y => ?_)
      obtain ⟨I43, J44, B45, G46⟩ := u
      obtain ⟨hI47, eJ49, hB48, eG50, hk52⟩ := hp
      dsimp only at hI47 eJ49 hB48 eG50 hk52 Y
      rw [eJ49, eG50] at Y
      have hI53 : (∀ j, j ≠ 8 → j ≠ 14 → j ≠ 18 → I43 j = I j) := fun j h8 h14 h18 => (hI47 j h8).trans ((fun j h8 h14 h18 => (hI8 j h8 h14 h18)) j h8 h14 h18)
      have hB54 : (∀ j, j ≠ 5 → j ≠ 6 → j ≠ 7 → j ≠ 9 → j ≠ 10 → j ≠ 11 → j ≠ 12 → j ≠ 13 → j ≠ 15 → j ≠ 16 → j ≠ 17 → j ≠ 19 → j ≠ 20 → j ≠ 21 → j ≠ 26 → j ≠ 27 → j ≠ 56 → B45 j = B j) := fun j h5 h6 h7 h9 h10 h11 h12 h13 h15 h16 h17 h19 h20 h21 h26 h27 h56 => (hB48 j h5 h6 h7).trans ((fun j h5 h6 h7 h9 h10 h11 h12 h13 h15 h16 h17 h19 h20 h21 h26 h27 h56 => (hB42 j h5 h6 h7 h9 h10 h11 h12 h13 h15 h16 h17 h19 h20 h21 h26 h27 h56)) j h5 h6 h7 h9 h10 h11 h12 h13 h15 h16 h17 h19 h20 h21 h26 h27 h56)
      refine lv_iconst (v := (nI 0)) X.1 X.2.1 d_passwordKey_28 (by decide) ?_
      refine lv_istore (lv' := [(5, .int (nI 0)), (4, .int (nI i2)), (0, .ref h), (1, .int (nI 32)), (2, .int (nI cnt)), (3, .ref (q 56))]) X.1 X.2.1 d_passwordKey_29 hl (by decide) rfl (fun ls hl => ?_)
      have lp58 : ∀ (n55 i56 : Nat) (I59 : Nat → Int32) (B60 : Nat → Nat → Int32) (H : Heap) (locs : List Loc) (ls : Array Slot), i56 + n55 = sm → 0 ≤ i56 → (∀ j, j ≠ 5 → j ≠ 6 → j ≠ 7 → j ≠ 9 → j ≠ 10 → j ≠ 11 → j ≠ 12 → j ≠ 13 → j ≠ 15 → j ≠ 16 → j ≠ 17 → j ≠ 19 → j ≠ 20 → j ≠ 21 → j ≠ 26 → j ≠ 27 → j ≠ 56 → B60 j = B j) → (∀ j, j ≠ 8 → j ≠ 14 → j ≠ 18 → I59 j = I j) → by8 (B60 12) → by8 (B60 13) → by8 (B60 16) → by8 (B60 17) → I59 30 = nI (pm) → I59 29 = nI (sm) → I59 8 = nI (64 + i56) → mH D E (mA E h q sz) s.heap h q I59 J B60 G H locs → lv_has ls 7 [(5, .int (nI i56)), (4, .int (nI i2)), (0, .ref h), (1, .int (nI 32)), (2, .int (nI cnt)), (3, .ref (q 56))] → W p l e (mR 5 122) s m AV below meth c H locs 0 0 QQ (F0 m 31 ls []) := by
        intro n55
        induction n55 with
        | zero =>
          intro i56 I59 B60 H locs ls hii56 hsi56 hB61 hI62 y63 y64 y65 y66 hk67 hk68 hk69  Y hl
          refine lv_iload X.1 X.2.1 d_passwordKey_31 (lv_at hl 0 rfl) ?_
          refine lv_aload_n X.1 X.2.1 d_passwordKey_33 rfl (lv_at hl 2 rfl) ?_
          refine m_get X Y 29 (by decide) lk_saltMany (gf_saltMany _ _ _) rfl d_passwordKey_34 ?_
          refine t_eq (show I59 29 = nI (sm) from hk68) ?_
          refine lv_icmp_ge (tgt := 57) X.1 X.2.1 d_passwordKey_37 (by decide) (fun c70 => ?_) (fun c70 => absurd ?_ c70)
          rotate_left
          · (rw [nI_leI (by omega) (by omega)] <;> omega)
          rw [nI_leI (by omega) (by omega)] at c70
          refine lv_iconst (v := (nI 0)) X.1 X.2.1 d_passwordKey_57 (by decide) ?_
          refine lv_istore (lv' := [(5, .int (nI 0)), (4, .int (nI i2)), (0, .ref h), (1, .int (nI 32)), (2, .int (nI cnt)), (3, .ref (q 56))]) X.1 X.2.1 d_passwordKey_58 hl (by decide) rfl (fun ls hl => ?_)
          have lp74 : ∀ (n71 i72 : Nat) (I75 : Nat → Int32) (B76 : Nat → Nat → Int32) (H : Heap) (locs : List Loc) (ls : Array Slot), i72 + n71 = 4 → 0 ≤ i72 → (∀ j, j ≠ 5 → j ≠ 6 → j ≠ 7 → j ≠ 9 → j ≠ 10 → j ≠ 11 → j ≠ 12 → j ≠ 13 → j ≠ 15 → j ≠ 16 → j ≠ 17 → j ≠ 19 → j ≠ 20 → j ≠ 21 → j ≠ 26 → j ≠ 27 → j ≠ 56 → B76 j = B j) → (∀ j, j ≠ 8 → j ≠ 14 → j ≠ 18 → I75 j = I j) → by8 (B76 12) → by8 (B76 13) → by8 (B76 16) → by8 (B76 17) → I75 30 = nI (pm) → I75 29 = nI (sm) → I75 8 = nI (64 + sm + i72) → mH D E (mA E h q sz) s.heap h q I75 J B76 G H locs → lv_has ls 7 [(5, .int (nI i72)), (4, .int (nI i2)), (0, .ref h), (1, .int (nI 32)), (2, .int (nI cnt)), (3, .ref (q 56))] → W p l e (mR 5 122) s m AV below meth c H locs 0 0 QQ (F0 m 60 ls []) := by
            intro n71
            induction n71 with
            | zero =>
              intro i72 I75 B76 H locs ls hii72 hsi72 hB77 hI78 y79 y80 y81 y82 hk83 hk84 hk85  Y hl
              refine lv_iload X.1 X.2.1 d_passwordKey_60 (lv_at hl 0 rfl) ?_
              refine lv_iconst (v := (nI 4)) X.1 X.2.1 d_passwordKey_62 (by decide) ?_
              refine lv_icmp_ge (tgt := 90) X.1 X.2.1 d_passwordKey_63 (by decide) (fun c86 => ?_) (fun c86 => absurd ?_ c86)
              rotate_left
              · (rw [nI_leI (by omega) (by omega)] <;> omega)
              rw [nI_leI (by omega) (by omega)] at c86
              refine lv_aload_n X.1 X.2.1 d_passwordKey_90 rfl (lv_at hl 2 rfl) ?_
              refine m_callv (As := []) (rest := []) (n := 0) X Y hZ hA hml hl.1 (c_macEnd l D E h q H.size I75 J B76 G (64 + sm + i72) hk85 (by omega)) kl_macEnd ks_macEnd kx_macEnd ki_macEnd ini_M hd_macEnd ⟨by decide, by decide⟩ rfl (Nat.le_of_ble_eq_true rfl) d_passwordKey_91 ⟨Nat.le_refl _, Nat.le_refl _⟩ (fun u H locs hp Y => ?_)
              obtain ⟨I87, J88, B89, G90⟩ := u
              obtain ⟨hI91, eJ93, hB92, eG94⟩ := hp
              dsimp only at hI91 eJ93 hB92 eG94 Y
              rw [eJ93, eG94] at Y
              have hI96 : (∀ j, j ≠ 8 → j ≠ 14 → j ≠ 18 → I87 j = I j) := fun j h8 h14 h18 => (hI91 j h8).trans ((fun j h8 h14 h18 => (hI78 j h8 h14 h18)) j h8 h14 h18)
              have hB97 : (∀ j, j ≠ 5 → j ≠ 6 → j ≠ 7 → j ≠ 9 → j ≠ 10 → j ≠ 11 → j ≠ 12 → j ≠ 13 → j ≠ 15 → j ≠ 16 → j ≠ 17 → j ≠ 19 → j ≠ 20 → j ≠ 21 → j ≠ 26 → j ≠ 27 → j ≠ 56 → B89 j = B j) := fun j h5 h6 h7 h9 h10 h11 h12 h13 h15 h16 h17 h19 h20 h21 h26 h27 h56 => (hB92 j h5 h6 h7 h9 h10).trans ((fun j h5 h6 h7 h9 h10 h11 h12 h13 h15 h16 h17 h19 h20 h21 h26 h27 h56 => (hB77 j h5 h6 h7 h9 h10 h11 h12 h13 h15 h16 h17 h19 h20 h21 h26 h27 h56)) j h5 h6 h7 h9 h10 h11 h12 h13 h15 h16 h17 h19 h20 h21 h26 h27 h56)
              refine lv_iconst (v := (nI 0)) X.1 X.2.1 d_passwordKey_94 (by decide) ?_
              refine lv_istore (lv' := [(5, .int (nI 0)), (4, .int (nI i2)), (0, .ref h), (1, .int (nI 32)), (2, .int (nI cnt)), (3, .ref (q 56))]) X.1 X.2.1 d_passwordKey_95 hl (by decide) rfl (fun ls hl => ?_)
              have lp101 : ∀ (n98 i99 : Nat) (B102 : Nat → Nat → Int32) (H : Heap) (locs : List Loc) (ls : Array Slot), i99 + n98 = 20 → 0 ≤ i99 → (∀ j, j ≠ 5 → j ≠ 6 → j ≠ 7 → j ≠ 9 → j ≠ 10 → j ≠ 11 → j ≠ 12 → j ≠ 13 → j ≠ 15 → j ≠ 16 → j ≠ 17 → j ≠ 19 → j ≠ 20 → j ≠ 21 → j ≠ 26 → j ≠ 27 → j ≠ 56 → B102 j = B j) → by8 (B102 12) → by8 (B102 13) → by8 (B102 16) → by8 (B102 17) → mH D E (mA E h q sz) s.heap h q I87 J B102 G H locs → lv_has ls 7 [(5, .int (nI i99)), (4, .int (nI i2)), (0, .ref h), (1, .int (nI 32)), (2, .int (nI cnt)), (3, .ref (q 56))] → W p l e (mR 5 122) s m AV below meth c H locs 0 0 QQ (F0 m 97 ls []) := by
                intro n98
                induction n98 with
                | zero =>
                  intro i99 B102 H locs ls hii99 hsi99 hB103 y104 y105 y106 y107  Y hl
                  refine lv_iload X.1 X.2.1 d_passwordKey_97 (lv_at hl 0 rfl) ?_
                  refine lv_bipush (v := (nI 20)) X.1 X.2.1 d_passwordKey_99 (by decide) ?_
                  refine lv_icmp_ge (tgt := 124) X.1 X.2.1 d_passwordKey_101 (by decide) (fun c108 => ?_) (fun c108 => absurd ?_ c108)
                  rotate_left
                  · (rw [nI_leI (by omega) (by omega)] <;> omega)
                  rw [nI_leI (by omega) (by omega)] at c108
                  refine lv_iconst (v := (nI 1)) X.1 X.2.1 d_passwordKey_124 (by decide) ?_
                  refine lv_istore (lv' := [(5, .int (nI 1)), (4, .int (nI i2)), (0, .ref h), (1, .int (nI 32)), (2, .int (nI cnt)), (3, .ref (q 56))]) X.1 X.2.1 d_passwordKey_125 hl (by decide) rfl (fun ls hl => ?_)
                  have lp112 : ∀ (n109 i110 : Nat) (I113 : Nat → Int32) (B114 : Nat → Nat → Int32) (H : Heap) (locs : List Loc) (ls : Array Slot), i110 + n109 = cnt → 1 ≤ i110 → (∀ j, j ≠ 5 → j ≠ 6 → j ≠ 7 → j ≠ 9 → j ≠ 10 → j ≠ 11 → j ≠ 12 → j ≠ 13 → j ≠ 15 → j ≠ 16 → j ≠ 17 → j ≠ 19 → j ≠ 20 → j ≠ 21 → j ≠ 26 → j ≠ 27 → j ≠ 56 → B114 j = B j) → (∀ j, j ≠ 8 → j ≠ 14 → j ≠ 18 → I113 j = I j) → by8 (B114 12) → by8 (B114 13) → by8 (B114 16) → by8 (B114 17) → I113 30 = nI (pm) → I113 29 = nI (sm) → mH D E (mA E h q sz) s.heap h q I113 J B114 G H locs → lv_has ls 7 [(5, .int (nI i110)), (4, .int (nI i2)), (0, .ref h), (1, .int (nI 32)), (2, .int (nI cnt)), (3, .ref (q 56))] → W p l e (mR 5 122) s m AV below meth c H locs 0 0 QQ (F0 m 127 ls []) := by
                    intro n109
                    induction n109 with
                    | zero =>
                      intro i110 I113 B114 H locs ls hii110 hsi110 hB115 hI116 y117 y118 y119 y120 hk121 hk122  Y hl
                      refine lv_iload X.1 X.2.1 d_passwordKey_127 (lv_at hl 0 rfl) ?_
                      refine lv_iload_n X.1 X.2.1 d_passwordKey_129 rfl (lv_at hl 4 rfl) ?_
                      refine lv_icmp_ge (tgt := 208) X.1 X.2.1 d_passwordKey_130 (by decide) (fun c123 => ?_) (fun c123 => absurd ?_ c123)
                      rotate_left
                      · (rw [nI_leI (by omega) (by omega)] <;> omega)
                      rw [nI_leI (by omega) (by omega)] at c123
                      refine lv_iconst (v := (nI 0)) X.1 X.2.1 d_passwordKey_208 (by decide) ?_
                      refine lv_istore (lv' := [(5, .int (nI 0)), (4, .int (nI i2)), (0, .ref h), (1, .int (nI 32)), (2, .int (nI cnt)), (3, .ref (q 56))]) X.1 X.2.1 d_passwordKey_209 hl (by decide) rfl (fun ls hl => ?_)
                      have lp127 : ∀ (n124 i125 : Nat) (B128 : Nat → Nat → Int32) (H : Heap) (locs : List Loc) (ls : Array Slot), i125 + n124 = 20 → 0 ≤ i125 → (∀ j, j ≠ 5 → j ≠ 6 → j ≠ 7 → j ≠ 9 → j ≠ 10 → j ≠ 11 → j ≠ 12 → j ≠ 13 → j ≠ 15 → j ≠ 16 → j ≠ 17 → j ≠ 19 → j ≠ 20 → j ≠ 21 → j ≠ 26 → j ≠ 27 → j ≠ 56 → B128 j = B j) → by8 (B128 12) → by8 (B128 13) → by8 (B128 16) → by8 (B128 17) → mH D E (mA E h q sz) s.heap h q I113 J B128 G H locs → lv_has ls 7 [(5, .int (nI i125)), (4, .int (nI i2)), (0, .ref h), (1, .int (nI 32)), (2, .int (nI cnt)), (3, .ref (q 56))] → W p l e (mR 5 122) s m AV below meth c H locs 0 0 QQ (F0 m 211 ls []) := by
                        intro n124
                        induction n124 with
                        | zero =>
                          intro i125 B128 H locs ls hii125 hsi125 hB129 y130 y131 y132 y133  Y hl
                          refine lv_iload X.1 X.2.1 d_passwordKey_211 (lv_at hl 0 rfl) ?_
                          refine lv_bipush (v := (nI 20)) X.1 X.2.1 d_passwordKey_213 (by decide) ?_
                          refine lv_icmp_ge (tgt := 244) X.1 X.2.1 d_passwordKey_215 (by decide) (fun c134 => ?_) (fun c134 => absurd ?_ c134)
                          rotate_left
                          · (rw [nI_leI (by omega) (by omega)] <;> omega)
                          rw [nI_leI (by omega) (by omega)] at c134
                          refine lv_iinc (v := (nI (i2 + 1))) (lv' := [(4, .int (nI (i2 + 1))), (5, .int (nI i125)), (0, .ref h), (1, .int (nI 32)), (2, .int (nI cnt)), (3, .ref (q 56))]) X.1 X.2.1 d_passwordKey_244 hl (k := 1) rfl (nI_add _ 1) (by decide) rfl (fun ls hl => ?_)
                          refine lv_goto (tgt := 3) X.1 X.2.1 d_passwordKey_247 (by decide) ?_
                          exact ih3 (i2 + 1) I113 B128 _ _ _ (by omega) (by omega) (fun j h5 h6 h7 h9 h10 h11 h12 h13 h15 h16 h17 h19 h20 h21 h26 h27 h56 => (hB129 j h5 h6 h7 h9 h10 h11 h12 h13 h15 h16 h17 h19 h20 h21 h26 h27 h56)) (fun j h8 h14 h18 => (hI116 j h8 h14 h18)) (show by8 (B128 12) from y130) (show by8 (B128 13) from y131) (show by8 (B128 16) from y132) (show by8 (B128 17) from y133) ((show I113 30 = nI (pm) from hk121).trans (congrArg nI (show (pm : Nat) = pm by omega))) ((show I113 29 = nI (sm) from hk122).trans (congrArg nI (show (sm : Nat) = sm by omega)))  Y (lv_sub hl [0, 2, 3, 4, 5] rfl)
                        | succ n124 ih126 =>
                          intro i125 B128 H locs ls hii125 hsi125 hB129 y130 y131 y132 y133  Y hl
                          refine lv_iload X.1 X.2.1 d_passwordKey_211 (lv_at hl 0 rfl) ?_
                          refine lv_bipush (v := (nI 20)) X.1 X.2.1 d_passwordKey_213 (by decide) ?_
                          refine lv_icmp_ge (tgt := 244) X.1 X.2.1 d_passwordKey_215 (by decide) (fun c135 => absurd c135 ?_) (fun c135 => ?_)
                          · (rw [nI_leI (by omega) (by omega)] <;> omega)
                          rw [nI_leI (by omega) (by omega)] at c135
                          refine lv_aload_n X.1 X.2.1 d_passwordKey_218 rfl (lv_at hl 2 rfl) ?_
                          refine m_get X Y 27 (by decide) lk_long0 (gf_long0 _ _ _) rfl d_passwordKey_219 ?_
                          refine lv_bipush (v := (nI 20)) X.1 X.2.1 d_passwordKey_222 (by decide) ?_
                          refine lv_iload X.1 X.2.1 d_passwordKey_224 (lv_at hl 1 rfl) ?_
                          refine lv_imul X.1 X.2.1 d_passwordKey_226 ?_
                          refine t_eq (y := nI ((20) * (i2))) (pk_mul _ _) ?_
                          refine lv_iload X.1 X.2.1 d_passwordKey_227 (lv_at hl 0 rfl) ?_
                          refine lv_iadd X.1 X.2.1 d_passwordKey_229 ?_
                          refine t_eq (y := nI ((20) * (i2) + i125)) (nI_add _ _) ?_
                          refine lv_aload_n X.1 X.2.1 d_passwordKey_230 rfl (lv_at hl 2 rfl) ?_
                          refine m_get X Y 26 (by decide) lk_mixed (gf_mixed _ _ _) rfl d_passwordKey_231 ?_
                          refine lv_iload X.1 X.2.1 d_passwordKey_234 (lv_at hl 0 rfl) ?_
                          refine m_bald X Y (aw_mixed _ _ _ _ _ _ _) (vp_in_nI (by omega) (by decide)) d_passwordKey_236 ?_
                          refine t_any (fun v136 => ?_)
                          refine m_bast X Y (aw_long0 _ _ _ _ _ _ _) (vp_in_nI (by omega) (by decide)) (sw_long0 _ _ _ _ _ _ _ _) d_passwordKey_237 (fun H locs Y => ?_)
                          generalize (upd (B128 27) ((nI ((20) * (i2) + i125))).toNatClampNeg (vp_nar .byte v136)) = f137 at Y
                          refine lv_iinc (v := (nI (i125 + 1))) (lv' := [(5, .int (nI (i125 + 1))), (4, .int (nI i2)), (0, .ref h), (1, .int (nI 32)), (2, .int (nI cnt)), (3, .ref (q 56))]) X.1 X.2.1 d_passwordKey_238 hl (k := 0) rfl (nI_add _ 1) (by decide) rfl (fun ls hl => ?_)
                          refine lv_goto (tgt := 211) X.1 X.2.1 d_passwordKey_241 (by decide) ?_
                          exact ih126 (i125 + 1) (upB B128 27 f137) _ _ _ (by omega) (by omega) (fun j h5 h6 h7 h9 h10 h11 h12 h13 h15 h16 h17 h19 h20 h21 h26 h27 h56 => ((if_neg h27).trans (hB129 j h5 h6 h7 h9 h10 h11 h12 h13 h15 h16 h17 h19 h20 h21 h26 h27 h56))) (show by8 ((upB B128 27 f137) 12) from y130) (show by8 ((upB B128 27 f137) 13) from y131) (show by8 ((upB B128 27 f137) 16) from y132) (show by8 ((upB B128 27 f137) 17) from y133)  Y (lv_sub hl [0, 1, 2, 3, 4, 5] rfl)
                      exact lp127 (20) 0 B114 _ _ _ (by omega) (by omega) (fun j h5 h6 h7 h9 h10 h11 h12 h13 h15 h16 h17 h19 h20 h21 h26 h27 h56 => (hB115 j h5 h6 h7 h9 h10 h11 h12 h13 h15 h16 h17 h19 h20 h21 h26 h27 h56)) (show by8 (B114 12) from y117) (show by8 (B114 13) from y118) (show by8 (B114 16) from y119) (show by8 (B114 17) from y120)  Y (lv_sub hl [0, 1, 2, 3, 4, 5] rfl)
                    | succ n109 ih111 =>
                      intro i110 I113 B114 H locs ls hii110 hsi110 hB115 hI116 y117 y118 y119 y120 hk121 hk122  Y hl
                      refine lv_iload X.1 X.2.1 d_passwordKey_127 (lv_at hl 0 rfl) ?_
                      refine lv_iload_n X.1 X.2.1 d_passwordKey_129 rfl (lv_at hl 4 rfl) ?_
                      refine lv_icmp_ge (tgt := 208) X.1 X.2.1 d_passwordKey_130 (by decide) (fun c138 => absurd c138 ?_) (fun c138 => ?_)
                      · (rw [nI_leI (by omega) (by omega)] <;> omega)
                      rw [nI_leI (by omega) (by omega)] at c138
                      refine lv_aload_n X.1 X.2.1 d_passwordKey_133 rfl (lv_at hl 2 rfl) ?_
                      refine m_callv (As := []) (rest := []) (n := 0) X Y hZ hA hml hl.1 (c_macBegin l D E h q H.size I113 J B114 G ) kl_macBegin ks_macBegin kx_macBegin ki_macBegin ini_M hd_macBegin ⟨by decide, by decide⟩ rfl (Nat.le_of_ble_eq_true rfl) d_passwordKey_134 ⟨Nat.le_refl _, Nat.le_refl _⟩ (fun u H locs hp Y => ?_)
                      obtain ⟨I139, J140, B141, G142⟩ := u
                      obtain ⟨hI143, eJ145, hB144, eG146, hk148⟩ := hp
                      dsimp only at hI143 eJ145 hB144 eG146 hk148 Y
                      rw [eJ145, eG146] at Y
                      have hI149 : (∀ j, j ≠ 8 → j ≠ 14 → j ≠ 18 → I139 j = I j) := fun j h8 h14 h18 => (hI143 j h8).trans ((fun j h8 h14 h18 => (hI116 j h8 h14 h18)) j h8 h14 h18)
                      have hB150 : (∀ j, j ≠ 5 → j ≠ 6 → j ≠ 7 → j ≠ 9 → j ≠ 10 → j ≠ 11 → j ≠ 12 → j ≠ 13 → j ≠ 15 → j ≠ 16 → j ≠ 17 → j ≠ 19 → j ≠ 20 → j ≠ 21 → j ≠ 26 → j ≠ 27 → j ≠ 56 → B141 j = B j) := fun j h5 h6 h7 h9 h10 h11 h12 h13 h15 h16 h17 h19 h20 h21 h26 h27 h56 => (hB144 j h5 h6 h7).trans ((fun j h5 h6 h7 h9 h10 h11 h12 h13 h15 h16 h17 h19 h20 h21 h26 h27 h56 => (hB115 j h5 h6 h7 h9 h10 h11 h12 h13 h15 h16 h17 h19 h20 h21 h26 h27 h56)) j h5 h6 h7 h9 h10 h11 h12 h13 h15 h16 h17 h19 h20 h21 h26 h27 h56)
                      refine lv_iconst (v := (nI 0)) X.1 X.2.1 d_passwordKey_137 (by decide) ?_
                      refine lv_istore (lv' := [(6, .int (nI 0)), (5, .int (nI i110)), (4, .int (nI i2)), (0, .ref h), (1, .int (nI 32)), (2, .int (nI cnt)), (3, .ref (q 56))]) X.1 X.2.1 d_passwordKey_138 hl (by decide) rfl (fun ls hl => ?_)
                      have lp154 : ∀ (n151 i152 : Nat) (I155 : Nat → Int32) (B156 : Nat → Nat → Int32) (H : Heap) (locs : List Loc) (ls : Array Slot), i152 + n151 = 20 → 0 ≤ i152 → (∀ j, j ≠ 5 → j ≠ 6 → j ≠ 7 → j ≠ 9 → j ≠ 10 → j ≠ 11 → j ≠ 12 → j ≠ 13 → j ≠ 15 → j ≠ 16 → j ≠ 17 → j ≠ 19 → j ≠ 20 → j ≠ 21 → j ≠ 26 → j ≠ 27 → j ≠ 56 → B156 j = B j) → (∀ j, j ≠ 8 → j ≠ 14 → j ≠ 18 → I155 j = I j) → by8 (B156 12) → by8 (B156 13) → by8 (B156 16) → by8 (B156 17) → I155 30 = nI (pm) → I155 29 = nI (sm) → I155 8 = nI (64 + i152) → mH D E (mA E h q sz) s.heap h q I155 J B156 G H locs → lv_has ls 7 [(6, .int (nI i152)), (5, .int (nI i110)), (4, .int (nI i2)), (0, .ref h), (1, .int (nI 32)), (2, .int (nI cnt)), (3, .ref (q 56))] → W p l e (mR 5 122) s m AV below meth c H locs 0 0 QQ (F0 m 140 ls []) := by
                        intro n151
                        induction n151 with
                        | zero =>
                          intro i152 I155 B156 H locs ls hii152 hsi152 hB157 hI158 y159 y160 y161 y162 hk163 hk164 hk165  Y hl
                          refine lv_iload X.1 X.2.1 d_passwordKey_140 (lv_at hl 0 rfl) ?_
                          refine lv_bipush (v := (nI 20)) X.1 X.2.1 d_passwordKey_142 (by decide) ?_
                          refine lv_icmp_ge (tgt := 164) X.1 X.2.1 d_passwordKey_144 (by decide) (fun c166 => ?_) (fun c166 => absurd ?_ c166)
                          rotate_left
                          · (rw [nI_leI (by omega) (by omega)] <;> omega)
                          rw [nI_leI (by omega) (by omega)] at c166
                          refine lv_aload_n X.1 X.2.1 d_passwordKey_164 rfl (lv_at hl 3 rfl) ?_
                          refine m_callv (As := []) (rest := []) (n := 0) X Y hZ hA hml hl.1 (c_macEnd l D E h q H.size I155 J B156 G (64 + i152) hk165 (by omega)) kl_macEnd ks_macEnd kx_macEnd ki_macEnd ini_M hd_macEnd ⟨by decide, by decide⟩ rfl (Nat.le_of_ble_eq_true rfl) d_passwordKey_165 ⟨Nat.le_refl _, Nat.le_refl _⟩ (fun u H locs hp Y => ?_)
                          obtain ⟨I167, J168, B169, G170⟩ := u
                          obtain ⟨hI171, eJ173, hB172, eG174⟩ := hp
                          dsimp only at hI171 eJ173 hB172 eG174 Y
                          rw [eJ173, eG174] at Y
                          have hI176 : (∀ j, j ≠ 8 → j ≠ 14 → j ≠ 18 → I167 j = I j) := fun j h8 h14 h18 => (hI171 j h8).trans ((fun j h8 h14 h18 => (hI158 j h8 h14 h18)) j h8 h14 h18)
                          have hB177 : (∀ j, j ≠ 5 → j ≠ 6 → j ≠ 7 → j ≠ 9 → j ≠ 10 → j ≠ 11 → j ≠ 12 → j ≠ 13 → j ≠ 15 → j ≠ 16 → j ≠ 17 → j ≠ 19 → j ≠ 20 → j ≠ 21 → j ≠ 26 → j ≠ 27 → j ≠ 56 → B169 j = B j) := fun j h5 h6 h7 h9 h10 h11 h12 h13 h15 h16 h17 h19 h20 h21 h26 h27 h56 => (hB172 j h5 h6 h7 h9 h10).trans ((fun j h5 h6 h7 h9 h10 h11 h12 h13 h15 h16 h17 h19 h20 h21 h26 h27 h56 => (hB157 j h5 h6 h7 h9 h10 h11 h12 h13 h15 h16 h17 h19 h20 h21 h26 h27 h56)) j h5 h6 h7 h9 h10 h11 h12 h13 h15 h16 h17 h19 h20 h21 h26 h27 h56)
                          refine lv_iconst (v := (nI 0)) X.1 X.2.1 d_passwordKey_168 (by decide) ?_
                          refine lv_istore (lv' := [(6, .int (nI 0)), (5, .int (nI i110)), (4, .int (nI i2)), (0, .ref h), (1, .int (nI 32)), (2, .int (nI cnt)), (3, .ref (q 56))]) X.1 X.2.1 d_passwordKey_169 hl (by decide) rfl (fun ls hl => ?_)
                          have lp181 : ∀ (n178 i179 : Nat) (B182 : Nat → Nat → Int32) (H : Heap) (locs : List Loc) (ls : Array Slot), i179 + n178 = 20 → 0 ≤ i179 → (∀ j, j ≠ 5 → j ≠ 6 → j ≠ 7 → j ≠ 9 → j ≠ 10 → j ≠ 11 → j ≠ 12 → j ≠ 13 → j ≠ 15 → j ≠ 16 → j ≠ 17 → j ≠ 19 → j ≠ 20 → j ≠ 21 → j ≠ 26 → j ≠ 27 → j ≠ 56 → B182 j = B j) → by8 (B182 12) → by8 (B182 13) → by8 (B182 16) → by8 (B182 17) → mH D E (mA E h q sz) s.heap h q I167 J B182 G H locs → lv_has ls 7 [(6, .int (nI i179)), (5, .int (nI i110)), (4, .int (nI i2)), (0, .ref h), (1, .int (nI 32)), (2, .int (nI cnt)), (3, .ref (q 56))] → W p l e (mR 5 122) s m AV below meth c H locs 0 0 QQ (F0 m 171 ls []) := by
                            intro n178
                            induction n178 with
                            | zero =>
                              intro i179 B182 H locs ls hii179 hsi179 hB183 y184 y185 y186 y187  Y hl
                              refine lv_iload X.1 X.2.1 d_passwordKey_171 (lv_at hl 0 rfl) ?_
                              refine lv_bipush (v := (nI 20)) X.1 X.2.1 d_passwordKey_173 (by decide) ?_
                              refine lv_icmp_ge (tgt := 202) X.1 X.2.1 d_passwordKey_175 (by decide) (fun c188 => ?_) (fun c188 => absurd ?_ c188)
                              rotate_left
                              · (rw [nI_leI (by omega) (by omega)] <;> omega)
                              rw [nI_leI (by omega) (by omega)] at c188
                              refine lv_iinc (v := (nI (i110 + 1))) (lv' := [(5, .int (nI (i110 + 1))), (6, .int (nI i179)), (4, .int (nI i2)), (0, .ref h), (1, .int (nI 32)), (2, .int (nI cnt)), (3, .ref (q 56))]) X.1 X.2.1 d_passwordKey_202 hl (k := 1) rfl (nI_add _ 1) (by decide) rfl (fun ls hl => ?_)
                              refine lv_goto (tgt := 127) X.1 X.2.1 d_passwordKey_205 (by decide) ?_
                              exact ih111 (i110 + 1) I167 B182 _ _ _ (by omega) (by omega) (fun j h5 h6 h7 h9 h10 h11 h12 h13 h15 h16 h17 h19 h20 h21 h26 h27 h56 => (hB183 j h5 h6 h7 h9 h10 h11 h12 h13 h15 h16 h17 h19 h20 h21 h26 h27 h56)) (fun j h8 h14 h18 => (hI176 j h8 h14 h18)) (show by8 (B182 12) from y184) (show by8 (B182 13) from y185) (show by8 (B182 16) from y186) (show by8 (B182 17) from y187) ((show I167 30 = nI (pm) from ((hI171 30 (by decide)).trans hk163)).trans (congrArg nI (show (pm : Nat) = pm by omega))) ((show I167 29 = nI (sm) from ((hI171 29 (by decide)).trans hk164)).trans (congrArg nI (show (sm : Nat) = sm by omega)))  Y (lv_sub hl [0, 2, 3, 4, 5, 6] rfl)
                            | succ n178 ih180 =>
                              intro i179 B182 H locs ls hii179 hsi179 hB183 y184 y185 y186 y187  Y hl
                              refine lv_iload X.1 X.2.1 d_passwordKey_171 (lv_at hl 0 rfl) ?_
                              refine lv_bipush (v := (nI 20)) X.1 X.2.1 d_passwordKey_173 (by decide) ?_
                              refine lv_icmp_ge (tgt := 202) X.1 X.2.1 d_passwordKey_175 (by decide) (fun c189 => absurd c189 ?_) (fun c189 => ?_)
                              · (rw [nI_leI (by omega) (by omega)] <;> omega)
                              rw [nI_leI (by omega) (by omega)] at c189
                              refine lv_aload_n X.1 X.2.1 d_passwordKey_178 rfl (lv_at hl 3 rfl) ?_
                              refine m_get X Y 26 (by decide) lk_mixed (gf_mixed _ _ _) rfl d_passwordKey_179 ?_
                              refine lv_iload X.1 X.2.1 d_passwordKey_182 (lv_at hl 0 rfl) ?_
                              refine lv_dup2_11 X.1 X.2.1 d_passwordKey_184 rfl rfl ?_
                              refine m_bald X Y (aw_mixed _ _ _ _ _ _ _) (vp_in_nI (by omega) (by decide)) d_passwordKey_185 ?_
                              refine t_any (fun v190 => ?_)
                              refine lv_aload_n X.1 X.2.1 d_passwordKey_186 rfl (lv_at hl 3 rfl) ?_
                              refine m_get X Y 10 (by decide) lk_mac (gf_mac _ _ _) rfl d_passwordKey_187 ?_
                              refine lv_iload X.1 X.2.1 d_passwordKey_190 (lv_at hl 0 rfl) ?_
                              refine m_bald X Y (aw_mac _ _ _ _ _ _ _) (vp_in_nI (by omega) (by decide)) d_passwordKey_192 ?_
                              refine t_any (fun v191 => ?_)
                              refine lv_ixor X.1 X.2.1 d_passwordKey_193 ?_
                              refine t_any (fun v192 => ?_)
                              obtain ⟨v193, ev193⟩ : ∃ z : Int32, (v192 : Int32).toInt8.toInt32 = z := ⟨_, rfl⟩
                              refine lv_i2b (v := v193) X.1 X.2.1 d_passwordKey_194 ev193 ?_
                              refine m_bast X Y (aw_mixed _ _ _ _ _ _ _) (vp_in_nI (by omega) (by decide)) (sw_mixed _ _ _ _ _ _ _ _) d_passwordKey_195 (fun H locs Y => ?_)
                              generalize (upd (B182 26) ((nI i179)).toNatClampNeg (vp_nar .byte v193)) = f194 at Y
                              refine lv_iinc (v := (nI (i179 + 1))) (lv' := [(6, .int (nI (i179 + 1))), (5, .int (nI i110)), (4, .int (nI i2)), (0, .ref h), (1, .int (nI 32)), (2, .int (nI cnt)), (3, .ref (q 56))]) X.1 X.2.1 d_passwordKey_196 hl (k := 0) rfl (nI_add _ 1) (by decide) rfl (fun ls hl => ?_)
                              refine lv_goto (tgt := 171) X.1 X.2.1 d_passwordKey_199 (by decide) ?_
                              exact ih180 (i179 + 1) (upB B182 26 f194) _ _ _ (by omega) (by omega) (fun j h5 h6 h7 h9 h10 h11 h12 h13 h15 h16 h17 h19 h20 h21 h26 h27 h56 => ((if_neg h26).trans (hB183 j h5 h6 h7 h9 h10 h11 h12 h13 h15 h16 h17 h19 h20 h21 h26 h27 h56))) (show by8 ((upB B182 26 f194) 12) from y184) (show by8 ((upB B182 26 f194) 13) from y185) (show by8 ((upB B182 26 f194) 16) from y186) (show by8 ((upB B182 26 f194) 17) from y187)  Y (lv_sub hl [0, 1, 2, 3, 4, 5, 6] rfl)
                          exact lp181 (20) 0 B169 _ _ _ (by omega) (by omega) (fun j h5 h6 h7 h9 h10 h11 h12 h13 h15 h16 h17 h19 h20 h21 h26 h27 h56 => (hB177 j h5 h6 h7 h9 h10 h11 h12 h13 h15 h16 h17 h19 h20 h21 h26 h27 h56)) (show by8 (B169 12) from (by8_eq (hB172 12 (by decide) (by decide) (by decide) (by decide) (by decide)) y159)) (show by8 (B169 13) from (by8_eq (hB172 13 (by decide) (by decide) (by decide) (by decide) (by decide)) y160)) (show by8 (B169 16) from (by8_eq (hB172 16 (by decide) (by decide) (by decide) (by decide) (by decide)) y161)) (show by8 (B169 17) from (by8_eq (hB172 17 (by decide) (by decide) (by decide) (by decide) (by decide)) y162))  Y (lv_sub hl [0, 1, 2, 3, 4, 5, 6] rfl)
                        | succ n151 ih153 =>
                          intro i152 I155 B156 H locs ls hii152 hsi152 hB157 hI158 y159 y160 y161 y162 hk163 hk164 hk165  Y hl
                          refine lv_iload X.1 X.2.1 d_passwordKey_140 (lv_at hl 0 rfl) ?_
                          refine lv_bipush (v := (nI 20)) X.1 X.2.1 d_passwordKey_142 (by decide) ?_
                          refine lv_icmp_ge (tgt := 164) X.1 X.2.1 d_passwordKey_144 (by decide) (fun c195 => absurd c195 ?_) (fun c195 => ?_)
                          · (rw [nI_leI (by omega) (by omega)] <;> omega)
                          rw [nI_leI (by omega) (by omega)] at c195
                          refine lv_aload_n X.1 X.2.1 d_passwordKey_147 rfl (lv_at hl 3 rfl) ?_
                          refine lv_aload_n X.1 X.2.1 d_passwordKey_148 rfl (lv_at hl 3 rfl) ?_
                          refine m_get X Y 10 (by decide) lk_mac (gf_mac _ _ _) rfl d_passwordKey_149 ?_
                          refine lv_iload X.1 X.2.1 d_passwordKey_152 (lv_at hl 0 rfl) ?_
                          refine m_bald X Y (aw_mac _ _ _ _ _ _ _) (vp_in_nI (by omega) (by decide)) d_passwordKey_154 ?_
                          refine t_any (fun v196 => ?_)
                          refine m_callv (As := [.int v196]) (rest := []) (n := 1) X Y hZ hA hml hl.1 (c_hash l D E h q H.size I155 J B156 G v196 (64 + i152) hk165 (by omega)) kl_hash ks_hash kx_hash ki_hash ini_M hd_hash ⟨by decide, by decide⟩ rfl (Nat.le_of_ble_eq_true rfl) d_passwordKey_155 ⟨Nat.le_refl _, Nat.le_refl _⟩ (fun u H locs hp Y => ?_)
                          obtain ⟨I197, J198, B199, G200⟩ := u
                          obtain ⟨hI201, eJ203, hB202, eG204, hk206⟩ := hp
                          dsimp only at hI201 eJ203 hB202 eG204 hk206 Y
                          rw [eJ203, eG204] at Y
                          have hI207 : (∀ j, j ≠ 8 → j ≠ 14 → j ≠ 18 → I197 j = I j) := fun j h8 h14 h18 => (hI201 j h8).trans ((fun j h8 h14 h18 => (hI158 j h8 h14 h18)) j h8 h14 h18)
                          have hB208 : (∀ j, j ≠ 5 → j ≠ 6 → j ≠ 7 → j ≠ 9 → j ≠ 10 → j ≠ 11 → j ≠ 12 → j ≠ 13 → j ≠ 15 → j ≠ 16 → j ≠ 17 → j ≠ 19 → j ≠ 20 → j ≠ 21 → j ≠ 26 → j ≠ 27 → j ≠ 56 → B199 j = B j) := fun j h5 h6 h7 h9 h10 h11 h12 h13 h15 h16 h17 h19 h20 h21 h26 h27 h56 => (hB202 j h5 h6 h7).trans ((fun j h5 h6 h7 h9 h10 h11 h12 h13 h15 h16 h17 h19 h20 h21 h26 h27 h56 => (hB157 j h5 h6 h7 h9 h10 h11 h12 h13 h15 h16 h17 h19 h20 h21 h26 h27 h56)) j h5 h6 h7 h9 h10 h11 h12 h13 h15 h16 h17 h19 h20 h21 h26 h27 h56)
                          refine lv_iinc (v := (nI (i152 + 1))) (lv' := [(6, .int (nI (i152 + 1))), (5, .int (nI i110)), (4, .int (nI i2)), (0, .ref h), (1, .int (nI 32)), (2, .int (nI cnt)), (3, .ref (q 56))]) X.1 X.2.1 d_passwordKey_158 hl (k := 0) rfl (nI_add _ 1) (by decide) rfl (fun ls hl => ?_)
                          refine lv_goto (tgt := 140) X.1 X.2.1 d_passwordKey_161 (by decide) ?_
                          exact ih153 (i152 + 1) I197 B199 _ _ _ (by omega) (by omega) (fun j h5 h6 h7 h9 h10 h11 h12 h13 h15 h16 h17 h19 h20 h21 h26 h27 h56 => (hB208 j h5 h6 h7 h9 h10 h11 h12 h13 h15 h16 h17 h19 h20 h21 h26 h27 h56)) (fun j h8 h14 h18 => (hI207 j h8 h14 h18)) (show by8 (B199 12) from (by8_eq (hB202 12 (by decide) (by decide) (by decide)) y159)) (show by8 (B199 13) from (by8_eq (hB202 13 (by decide) (by decide) (by decide)) y160)) (show by8 (B199 16) from (by8_eq (hB202 16 (by decide) (by decide) (by decide)) y161)) (show by8 (B199 17) from (by8_eq (hB202 17 (by decide) (by decide) (by decide)) y162)) ((show I197 30 = nI (pm) from ((hI201 30 (by decide)).trans hk163)).trans (congrArg nI (show (pm : Nat) = pm by omega))) ((show I197 29 = nI (sm) from ((hI201 29 (by decide)).trans hk164)).trans (congrArg nI (show (sm : Nat) = sm by omega))) ((show I197 8 = nI ((64 + i152) + 1) from hk206).trans (congrArg nI (show ((64 + i152) + 1 : Nat) = 64 + (i152 + 1) by omega)))  Y (lv_sub hl [0, 1, 2, 3, 4, 5, 6] rfl)
                      exact lp154 (20) 0 I139 B141 _ _ _ (by omega) (by omega) (fun j h5 h6 h7 h9 h10 h11 h12 h13 h15 h16 h17 h19 h20 h21 h26 h27 h56 => (hB150 j h5 h6 h7 h9 h10 h11 h12 h13 h15 h16 h17 h19 h20 h21 h26 h27 h56)) (fun j h8 h14 h18 => (hI149 j h8 h14 h18)) (show by8 (B141 12) from (by8_eq (hB144 12 (by decide) (by decide) (by decide)) y117)) (show by8 (B141 13) from (by8_eq (hB144 13 (by decide) (by decide) (by decide)) y118)) (show by8 (B141 16) from (by8_eq (hB144 16 (by decide) (by decide) (by decide)) y119)) (show by8 (B141 17) from (by8_eq (hB144 17 (by decide) (by decide) (by decide)) y120)) ((show I139 30 = nI (pm) from ((hI143 30 (by decide)).trans hk121)).trans (congrArg nI (show (pm : Nat) = pm by omega))) ((show I139 29 = nI (sm) from ((hI143 29 (by decide)).trans hk122)).trans (congrArg nI (show (sm : Nat) = sm by omega))) ((show I139 8 = nI (64) from hk148).trans (congrArg nI (show (64 : Nat) = 64 + 0 by omega)))  Y (lv_sub hl [0, 1, 2, 3, 4, 5, 6] rfl)
                  exact lp112 (cnt - 1) 1 I87 B102 _ _ _ (by omega) (by omega) (fun j h5 h6 h7 h9 h10 h11 h12 h13 h15 h16 h17 h19 h20 h21 h26 h27 h56 => (hB103 j h5 h6 h7 h9 h10 h11 h12 h13 h15 h16 h17 h19 h20 h21 h26 h27 h56)) (fun j h8 h14 h18 => (hI96 j h8 h14 h18)) (show by8 (B102 12) from y104) (show by8 (B102 13) from y105) (show by8 (B102 16) from y106) (show by8 (B102 17) from y107) ((show I87 30 = nI (pm) from ((hI91 30 (by decide)).trans hk83)).trans (congrArg nI (show (pm : Nat) = pm by omega))) ((show I87 29 = nI (sm) from ((hI91 29 (by decide)).trans hk84)).trans (congrArg nI (show (sm : Nat) = sm by omega)))  Y (lv_sub hl [0, 1, 2, 3, 4, 5] rfl)
                | succ n98 ih100 =>
                  intro i99 B102 H locs ls hii99 hsi99 hB103 y104 y105 y106 y107  Y hl
                  refine lv_iload X.1 X.2.1 d_passwordKey_97 (lv_at hl 0 rfl) ?_
                  refine lv_bipush (v := (nI 20)) X.1 X.2.1 d_passwordKey_99 (by decide) ?_
                  refine lv_icmp_ge (tgt := 124) X.1 X.2.1 d_passwordKey_101 (by decide) (fun c209 => absurd c209 ?_) (fun c209 => ?_)
                  · (rw [nI_leI (by omega) (by omega)] <;> omega)
                  rw [nI_leI (by omega) (by omega)] at c209
                  refine lv_aload_n X.1 X.2.1 d_passwordKey_104 rfl (lv_at hl 2 rfl) ?_
                  refine m_get X Y 26 (by decide) lk_mixed (gf_mixed _ _ _) rfl d_passwordKey_105 ?_
                  refine lv_iload X.1 X.2.1 d_passwordKey_108 (lv_at hl 0 rfl) ?_
                  refine lv_aload_n X.1 X.2.1 d_passwordKey_110 rfl (lv_at hl 2 rfl) ?_
                  refine m_get X Y 10 (by decide) lk_mac (gf_mac _ _ _) rfl d_passwordKey_111 ?_
                  refine lv_iload X.1 X.2.1 d_passwordKey_114 (lv_at hl 0 rfl) ?_
                  refine m_bald X Y (aw_mac _ _ _ _ _ _ _) (vp_in_nI (by omega) (by decide)) d_passwordKey_116 ?_
                  refine t_any (fun v210 => ?_)
                  refine m_bast X Y (aw_mixed _ _ _ _ _ _ _) (vp_in_nI (by omega) (by decide)) (sw_mixed _ _ _ _ _ _ _ _) d_passwordKey_117 (fun H locs Y => ?_)
                  generalize (upd (B102 26) ((nI i99)).toNatClampNeg (vp_nar .byte v210)) = f211 at Y
                  refine lv_iinc (v := (nI (i99 + 1))) (lv' := [(5, .int (nI (i99 + 1))), (4, .int (nI i2)), (0, .ref h), (1, .int (nI 32)), (2, .int (nI cnt)), (3, .ref (q 56))]) X.1 X.2.1 d_passwordKey_118 hl (k := 0) rfl (nI_add _ 1) (by decide) rfl (fun ls hl => ?_)
                  refine lv_goto (tgt := 97) X.1 X.2.1 d_passwordKey_121 (by decide) ?_
                  exact ih100 (i99 + 1) (upB B102 26 f211) _ _ _ (by omega) (by omega) (fun j h5 h6 h7 h9 h10 h11 h12 h13 h15 h16 h17 h19 h20 h21 h26 h27 h56 => ((if_neg h26).trans (hB103 j h5 h6 h7 h9 h10 h11 h12 h13 h15 h16 h17 h19 h20 h21 h26 h27 h56))) (show by8 ((upB B102 26 f211) 12) from y104) (show by8 ((upB B102 26 f211) 13) from y105) (show by8 ((upB B102 26 f211) 16) from y106) (show by8 ((upB B102 26 f211) 17) from y107)  Y (lv_sub hl [0, 1, 2, 3, 4, 5] rfl)
              exact lp101 (20) 0 B89 _ _ _ (by omega) (by omega) (fun j h5 h6 h7 h9 h10 h11 h12 h13 h15 h16 h17 h19 h20 h21 h26 h27 h56 => (hB97 j h5 h6 h7 h9 h10 h11 h12 h13 h15 h16 h17 h19 h20 h21 h26 h27 h56)) (show by8 (B89 12) from (by8_eq (hB92 12 (by decide) (by decide) (by decide) (by decide) (by decide)) y79)) (show by8 (B89 13) from (by8_eq (hB92 13 (by decide) (by decide) (by decide) (by decide) (by decide)) y80)) (show by8 (B89 16) from (by8_eq (hB92 16 (by decide) (by decide) (by decide) (by decide) (by decide)) y81)) (show by8 (B89 17) from (by8_eq (hB92 17 (by decide) (by decide) (by decide) (by decide) (by decide)) y82))  Y (lv_sub hl [0, 1, 2, 3, 4, 5] rfl)
            | succ n71 ih73 =>
              intro i72 I75 B76 H locs ls hii72 hsi72 hB77 hI78 y79 y80 y81 y82 hk83 hk84 hk85  Y hl
              refine lv_iload X.1 X.2.1 d_passwordKey_60 (lv_at hl 0 rfl) ?_
              refine lv_iconst (v := (nI 4)) X.1 X.2.1 d_passwordKey_62 (by decide) ?_
              refine lv_icmp_ge (tgt := 90) X.1 X.2.1 d_passwordKey_63 (by decide) (fun c212 => absurd c212 ?_) (fun c212 => ?_)
              · (rw [nI_leI (by omega) (by omega)] <;> omega)
              rw [nI_leI (by omega) (by omega)] at c212
              refine lv_aload_n X.1 X.2.1 d_passwordKey_66 rfl (lv_at hl 2 rfl) ?_
              have jn214 : ∀ w213 : Int32, W p l e (mR 5 122) s m AV below meth c H locs 0 0 QQ (F0 m 81 ls [.int w213, .ref h]) := by
                intro w213
                refine m_callv (As := [.int w213]) (rest := []) (n := 1) X Y hZ hA hml hl.1 (c_hash l D E h q H.size I75 J B76 G w213 (64 + sm + i72) hk85 (by omega)) kl_hash ks_hash kx_hash ki_hash ini_M hd_hash ⟨by decide, by decide⟩ rfl (Nat.le_of_ble_eq_true rfl) d_passwordKey_81 ⟨Nat.le_refl _, Nat.le_refl _⟩ (fun u H locs hp Y => ?_)
                obtain ⟨I215, J216, B217, G218⟩ := u
                obtain ⟨hI219, eJ221, hB220, eG222, hk224⟩ := hp
                dsimp only at hI219 eJ221 hB220 eG222 hk224 Y
                rw [eJ221, eG222] at Y
                have hI225 : (∀ j, j ≠ 8 → j ≠ 14 → j ≠ 18 → I215 j = I j) := fun j h8 h14 h18 => (hI219 j h8).trans ((fun j h8 h14 h18 => (hI78 j h8 h14 h18)) j h8 h14 h18)
                have hB226 : (∀ j, j ≠ 5 → j ≠ 6 → j ≠ 7 → j ≠ 9 → j ≠ 10 → j ≠ 11 → j ≠ 12 → j ≠ 13 → j ≠ 15 → j ≠ 16 → j ≠ 17 → j ≠ 19 → j ≠ 20 → j ≠ 21 → j ≠ 26 → j ≠ 27 → j ≠ 56 → B217 j = B j) := fun j h5 h6 h7 h9 h10 h11 h12 h13 h15 h16 h17 h19 h20 h21 h26 h27 h56 => (hB220 j h5 h6 h7).trans ((fun j h5 h6 h7 h9 h10 h11 h12 h13 h15 h16 h17 h19 h20 h21 h26 h27 h56 => (hB77 j h5 h6 h7 h9 h10 h11 h12 h13 h15 h16 h17 h19 h20 h21 h26 h27 h56)) j h5 h6 h7 h9 h10 h11 h12 h13 h15 h16 h17 h19 h20 h21 h26 h27 h56)
                refine lv_iinc (v := (nI (i72 + 1))) (lv' := [(5, .int (nI (i72 + 1))), (4, .int (nI i2)), (0, .ref h), (1, .int (nI 32)), (2, .int (nI cnt)), (3, .ref (q 56))]) X.1 X.2.1 d_passwordKey_84 hl (k := 0) rfl (nI_add _ 1) (by decide) rfl (fun ls hl => ?_)
                refine lv_goto (tgt := 60) X.1 X.2.1 d_passwordKey_87 (by decide) ?_
                exact ih73 (i72 + 1) I215 B217 _ _ _ (by omega) (by omega) (fun j h5 h6 h7 h9 h10 h11 h12 h13 h15 h16 h17 h19 h20 h21 h26 h27 h56 => (hB226 j h5 h6 h7 h9 h10 h11 h12 h13 h15 h16 h17 h19 h20 h21 h26 h27 h56)) (fun j h8 h14 h18 => (hI225 j h8 h14 h18)) (show by8 (B217 12) from (by8_eq (hB220 12 (by decide) (by decide) (by decide)) y79)) (show by8 (B217 13) from (by8_eq (hB220 13 (by decide) (by decide) (by decide)) y80)) (show by8 (B217 16) from (by8_eq (hB220 16 (by decide) (by decide) (by decide)) y81)) (show by8 (B217 17) from (by8_eq (hB220 17 (by decide) (by decide) (by decide)) y82)) ((show I215 30 = nI (pm) from ((hI219 30 (by decide)).trans hk83)).trans (congrArg nI (show (pm : Nat) = pm by omega))) ((show I215 29 = nI (sm) from ((hI219 29 (by decide)).trans hk84)).trans (congrArg nI (show (sm : Nat) = sm by omega))) ((show I215 8 = nI ((64 + sm + i72) + 1) from hk224).trans (congrArg nI (show ((64 + sm + i72) + 1 : Nat) = 64 + sm + (i72 + 1) by omega)))  Y (lv_sub hl [0, 1, 2, 3, 4, 5] rfl)
              refine lv_iload X.1 X.2.1 d_passwordKey_67 (lv_at hl 0 rfl) ?_
              refine lv_iconst (v := (nI 3)) X.1 X.2.1 d_passwordKey_69 (by decide) ?_
              refine lv_icmp_ne (tgt := 80) X.1 X.2.1 d_passwordKey_70 (by decide) (fun c227 => ?_) (fun c227 => ?_)
              · skip
                rw [nI_eq (by omega) (by omega)] at c227
                refine lv_iconst (v := (nI 0)) X.1 X.2.1 d_passwordKey_80 (by decide) ?_
                exact jn214 _
              · skip
                rw [nI_eq (by omega) (by omega)] at c227
                refine lv_iload X.1 X.2.1 d_passwordKey_73 (lv_at hl 1 rfl) ?_
                refine lv_iconst (v := (nI 1)) X.1 X.2.1 d_passwordKey_75 (by decide) ?_
                refine lv_iadd X.1 X.2.1 d_passwordKey_76 ?_
                refine t_eq (y := nI (i2 + 1)) (nI_add _ _) ?_
                refine lv_goto (tgt := 81) X.1 X.2.1 d_passwordKey_77 (by decide) ?_
                exact jn214 _
          exact lp74 (4) 0 I59 B60 _ _ _ (by omega) (by omega) (fun j h5 h6 h7 h9 h10 h11 h12 h13 h15 h16 h17 h19 h20 h21 h26 h27 h56 => (hB61 j h5 h6 h7 h9 h10 h11 h12 h13 h15 h16 h17 h19 h20 h21 h26 h27 h56)) (fun j h8 h14 h18 => (hI62 j h8 h14 h18)) (show by8 (B60 12) from y63) (show by8 (B60 13) from y64) (show by8 (B60 16) from y65) (show by8 (B60 17) from y66) ((show I59 30 = nI (pm) from hk67).trans (congrArg nI (show (pm : Nat) = pm by omega))) ((show I59 29 = nI (sm) from hk68).trans (congrArg nI (show (sm : Nat) = sm by omega))) ((show I59 8 = nI (64 + i56) from hk69).trans (congrArg nI (show (64 + i56 : Nat) = 64 + sm + 0 by omega)))  Y (lv_sub hl [0, 1, 2, 3, 4, 5] rfl)
        | succ n55 ih57 =>
          intro i56 I59 B60 H locs ls hii56 hsi56 hB61 hI62 y63 y64 y65 y66 hk67 hk68 hk69  Y hl
          refine lv_iload X.1 X.2.1 d_passwordKey_31 (lv_at hl 0 rfl) ?_
          refine lv_aload_n X.1 X.2.1 d_passwordKey_33 rfl (lv_at hl 2 rfl) ?_
          refine m_get X Y 29 (by decide) lk_saltMany (gf_saltMany _ _ _) rfl d_passwordKey_34 ?_
          refine t_eq (show I59 29 = nI (sm) from hk68) ?_
          refine lv_icmp_ge (tgt := 57) X.1 X.2.1 d_passwordKey_37 (by decide) (fun c228 => absurd c228 ?_) (fun c228 => ?_)
          · (rw [nI_leI (by omega) (by omega)] <;> omega)
          rw [nI_leI (by omega) (by omega)] at c228
          refine lv_aload_n X.1 X.2.1 d_passwordKey_40 rfl (lv_at hl 2 rfl) ?_
          refine lv_aload_n X.1 X.2.1 d_passwordKey_41 rfl (lv_at hl 2 rfl) ?_
          refine m_get X Y 24 (by decide) lk_salt (gf_salt _ _ _) rfl d_passwordKey_42 ?_
          refine lv_iload X.1 X.2.1 d_passwordKey_45 (lv_at hl 0 rfl) ?_
          refine m_bald X Y (aw_salt _ _ _ _ _ _ _) (vp_in_nI (by omega) (by decide)) d_passwordKey_47 ?_
          refine t_any (fun v229 => ?_)
          refine m_callv (As := [.int v229]) (rest := []) (n := 1) X Y hZ hA hml hl.1 (c_hash l D E h q H.size I59 J B60 G v229 (64 + i56) hk69 (by omega)) kl_hash ks_hash kx_hash ki_hash ini_M hd_hash ⟨by decide, by decide⟩ rfl (Nat.le_of_ble_eq_true rfl) d_passwordKey_48 ⟨Nat.le_refl _, Nat.le_refl _⟩ (fun u H locs hp Y => ?_)
          obtain ⟨I230, J231, B232, G233⟩ := u
          obtain ⟨hI234, eJ236, hB235, eG237, hk239⟩ := hp
          dsimp only at hI234 eJ236 hB235 eG237 hk239 Y
          rw [eJ236, eG237] at Y
          have hI240 : (∀ j, j ≠ 8 → j ≠ 14 → j ≠ 18 → I230 j = I j) := fun j h8 h14 h18 => (hI234 j h8).trans ((fun j h8 h14 h18 => (hI62 j h8 h14 h18)) j h8 h14 h18)
          have hB241 : (∀ j, j ≠ 5 → j ≠ 6 → j ≠ 7 → j ≠ 9 → j ≠ 10 → j ≠ 11 → j ≠ 12 → j ≠ 13 → j ≠ 15 → j ≠ 16 → j ≠ 17 → j ≠ 19 → j ≠ 20 → j ≠ 21 → j ≠ 26 → j ≠ 27 → j ≠ 56 → B232 j = B j) := fun j h5 h6 h7 h9 h10 h11 h12 h13 h15 h16 h17 h19 h20 h21 h26 h27 h56 => (hB235 j h5 h6 h7).trans ((fun j h5 h6 h7 h9 h10 h11 h12 h13 h15 h16 h17 h19 h20 h21 h26 h27 h56 => (hB61 j h5 h6 h7 h9 h10 h11 h12 h13 h15 h16 h17 h19 h20 h21 h26 h27 h56)) j h5 h6 h7 h9 h10 h11 h12 h13 h15 h16 h17 h19 h20 h21 h26 h27 h56)
          refine lv_iinc (v := (nI (i56 + 1))) (lv' := [(5, .int (nI (i56 + 1))), (4, .int (nI i2)), (0, .ref h), (1, .int (nI 32)), (2, .int (nI cnt)), (3, .ref (q 56))]) X.1 X.2.1 d_passwordKey_51 hl (k := 0) rfl (nI_add _ 1) (by decide) rfl (fun ls hl => ?_)
          refine lv_goto (tgt := 31) X.1 X.2.1 d_passwordKey_54 (by decide) ?_
          exact ih57 (i56 + 1) I230 B232 _ _ _ (by omega) (by omega) (fun j h5 h6 h7 h9 h10 h11 h12 h13 h15 h16 h17 h19 h20 h21 h26 h27 h56 => (hB241 j h5 h6 h7 h9 h10 h11 h12 h13 h15 h16 h17 h19 h20 h21 h26 h27 h56)) (fun j h8 h14 h18 => (hI240 j h8 h14 h18)) (show by8 (B232 12) from (by8_eq (hB235 12 (by decide) (by decide) (by decide)) y63)) (show by8 (B232 13) from (by8_eq (hB235 13 (by decide) (by decide) (by decide)) y64)) (show by8 (B232 16) from (by8_eq (hB235 16 (by decide) (by decide) (by decide)) y65)) (show by8 (B232 17) from (by8_eq (hB235 17 (by decide) (by decide) (by decide)) y66)) ((show I230 30 = nI (pm) from ((hI234 30 (by decide)).trans hk67)).trans (congrArg nI (show (pm : Nat) = pm by omega))) ((show I230 29 = nI (sm) from ((hI234 29 (by decide)).trans hk68)).trans (congrArg nI (show (sm : Nat) = sm by omega))) ((show I230 8 = nI ((64 + i56) + 1) from hk239).trans (congrArg nI (show ((64 + i56) + 1 : Nat) = 64 + (i56 + 1) by omega)))  Y (lv_sub hl [0, 1, 2, 3, 4, 5] rfl)
      exact lp58 (sm) 0 I43 B45 _ _ _ (by omega) (by omega) (fun j h5 h6 h7 h9 h10 h11 h12 h13 h15 h16 h17 h19 h20 h21 h26 h27 h56 => (hB54 j h5 h6 h7 h9 h10 h11 h12 h13 h15 h16 h17 h19 h20 h21 h26 h27 h56)) (fun j h8 h14 h18 => (hI53 j h8 h14 h18)) (show by8 (B45 12) from (by8_eq (hB48 12 (by decide) (by decide) (by decide)) (by8_eq (hB37 12 (by decide)) y9))) (show by8 (B45 13) from (by8_eq (hB48 13 (by decide) (by decide) (by decide)) (by8_eq (hB37 13 (by decide)) y10))) (show by8 (B45 16) from (by8_eq (hB48 16 (by decide) (by decide) (by decide)) (by8_eq (hB37 16 (by decide)) y11))) (show by8 (B45 17) from (by8_eq (hB48 17 (by decide) (by decide) (by decide)) (by8_eq (hB37 17 (by decide)) y12))) ((show I43 30 = nI (pm) from ((hI47 30 (by decide)).trans hk13)).trans (congrArg nI (show (pm : Nat) = pm by omega))) ((show I43 29 = nI (sm) from ((hI47 29 (by decide)).trans hk14)).trans (congrArg nI (show (sm : Nat) = sm by omega))) ((show I43 8 = nI (64) from hk52).trans (congrArg nI (show (64 : Nat) = 64 + 0 by omega)))  Y (lv_sub hl [0, 1, 2, 3, 4, 5] rfl)
  exact lp4 (2) 0 I B _ _ _ (by omega) (by omega) (fun j h5 h6 h7 h9 h10 h11 h12 h13 h15 h16 h17 h19 h20 h21 h26 h27 h56 => rfl) (fun j h8 h14 h18 => rfl) (show by8 (B 12) from y12) (show by8 (B 13) from y13) (show by8 (B 16) from y16) (show by8 (B 17) from y17) ((show I 30 = nI (pm) from hpm).trans (congrArg nI (show (pm : Nat) = pm by omega))) ((show I 29 = nI (sm) from hsm).trans (congrArg nI (show (sm : Nat) = sm by omega)))  Y (lv_sub hl [0, 1, 2, 3, 4] rfl)
