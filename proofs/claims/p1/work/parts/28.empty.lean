/-! Bytes: a copy; an empty tape. -/
abbrev b_By_stop : ByteArray := prog_4_method_31_code
def y_By_stop : MethodName := ⟨R_By, "stop", "(II)I"⟩
abbrev k_By_stop : Cond := .code y_By_stop b_By_stop 6 (some .int)
theorem ki_By_stop : k_By_stop ∈ lw_tg := in_t 582 (by decide +kernel)
theorem ks_By_stop : Cond.instanceMethod y_By_stop ∈ lw_tg := in_t 580 (by decide +kernel)
theorem kx_By_stop : Cond.selects R_By y_By_stop y_By_stop ∈ lw_tg := in_t 581 (by decide +kernel)
theorem kl_Va_By_stop : Cond.methodLink R_Va 80 y_By_stop ∈ lw_tg := in_t 579 (by decide +kernel)
theorem kl_By_By_stop : Cond.methodLink R_By 98 y_By_stop ∈ lw_tg := in_t 851 (by decide +kernel)
theorem kl_H_By_stop : Cond.methodLink R_H 157 y_By_stop ∈ lw_tg := in_t 956 (by decide +kernel)
theorem kl_Ga_By_stop : Cond.methodLink R_Ga 136 y_By_stop ∈ lw_tg := in_t 1078 (by decide +kernel)
theorem kl_Ce_By_stop : Cond.methodLink R_Ce 162 y_By_stop ∈ lw_tg := in_t 1139 (by decide +kernel)
theorem kl_Ti_By_stop : Cond.methodLink R_Ti 76 y_By_stop ∈ lw_tg := in_t 1514 (by decide +kernel)
theorem kl_So_By_stop : Cond.methodLink R_So 197 y_By_stop ∈ lw_tg := in_t 1676 (by decide +kernel)
theorem hd_By_stop : y_By_stop.cls = R_By ∧ y_By_stop.cls ≠ "java/lang/invoke/MethodHandle" ∧ y_By_stop.cls ≠ "java/lang/invoke/VarHandle" ∧ (parseMethodDescriptor y_By_stop.desc).map (fun d => d.parameters.length) = some 2 := by decide +kernel
theorem d_By_stop_0 : decode b_By_stop 0 = .ok (.iload_n 1, 1) := by decide +kernel
theorem d_By_stop_1 : decode b_By_stop 1 = .ok (.ifCond .lt 18, 3) := by decide +kernel
theorem d_By_stop_4 : decode b_By_stop 4 = .ok (.iload_n 2, 1) := by decide +kernel
theorem d_By_stop_5 : decode b_By_stop 5 = .ok (.aload_n 0, 1) := by decide +kernel
theorem d_By_stop_6 : decode b_By_stop 6 = .ok (.getfield 21, 3) := by decide +kernel
theorem d_By_stop_9 : decode b_By_stop 9 = .ok (.if_icmp .gt 10, 3) := by decide +kernel
theorem d_By_stop_12 : decode b_By_stop 12 = .ok (.iload_n 2, 1) := by decide +kernel
theorem d_By_stop_13 : decode b_By_stop 13 = .ok (.iload_n 1, 1) := by decide +kernel
theorem d_By_stop_14 : decode b_By_stop 14 = .ok (.isub, 1) := by decide +kernel
theorem d_By_stop_15 : decode b_By_stop 15 = .ok (.iconst 2, 1) := by decide +kernel
theorem d_By_stop_16 : decode b_By_stop 16 = .ok (.if_icmp .ge 5, 3) := by decide +kernel
theorem d_By_stop_19 : decode b_By_stop 19 = .ok (.iconst (-1), 1) := by decide +kernel
theorem d_By_stop_20 : decode b_By_stop 20 = .ok (.ireturn, 1) := by decide +kernel
theorem d_By_stop_21 : decode b_By_stop 21 = .ok (.aload_n 0, 1) := by decide +kernel
theorem d_By_stop_22 : decode b_By_stop 22 = .ok (.getfield 15, 3) := by decide +kernel
theorem d_By_stop_25 : decode b_By_stop 25 = .ok (.iload_n 1, 1) := by decide +kernel
theorem d_By_stop_26 : decode b_By_stop 26 = .ok (.iconst 1, 1) := by decide +kernel
theorem d_By_stop_27 : decode b_By_stop 27 = .ok (.iadd, 1) := by decide +kernel
theorem d_By_stop_28 : decode b_By_stop 28 = .ok (.baload, 1) := by decide +kernel
theorem d_By_stop_29 : decode b_By_stop 29 = .ok (.sipush 255, 3) := by decide +kernel
theorem d_By_stop_32 : decode b_By_stop 32 = .ok (.iand, 1) := by decide +kernel
theorem d_By_stop_33 : decode b_By_stop 33 = .ok (.istore_n 3, 1) := by decide +kernel
theorem d_By_stop_34 : decode b_By_stop 34 = .ok (.iload_n 1, 1) := by decide +kernel
theorem d_By_stop_35 : decode b_By_stop 35 = .ok (.iconst 2, 1) := by decide +kernel
theorem d_By_stop_36 : decode b_By_stop 36 = .ok (.iadd, 1) := by decide +kernel
theorem d_By_stop_37 : decode b_By_stop 37 = .ok (.istore 4, 2) := by decide +kernel
theorem d_By_stop_39 : decode b_By_stop 39 = .ok (.iload_n 3, 1) := by decide +kernel
theorem d_By_stop_40 : decode b_By_stop 40 = .ok (.sipush 128, 3) := by decide +kernel
theorem d_By_stop_43 : decode b_By_stop 43 = .ok (.if_icmp .lt 111, 3) := by decide +kernel
theorem d_By_stop_46 : decode b_By_stop 46 = .ok (.iload_n 3, 1) := by decide +kernel
theorem d_By_stop_47 : decode b_By_stop 47 = .ok (.sipush 128, 3) := by decide +kernel
theorem d_By_stop_50 : decode b_By_stop 50 = .ok (.isub, 1) := by decide +kernel
theorem d_By_stop_51 : decode b_By_stop 51 = .ok (.istore 5, 2) := by decide +kernel
theorem d_By_stop_53 : decode b_By_stop 53 = .ok (.iload 5, 2) := by decide +kernel
theorem d_By_stop_55 : decode b_By_stop 55 = .ok (.iconst 1, 1) := by decide +kernel
theorem d_By_stop_56 : decode b_By_stop 56 = .ok (.if_icmp .lt 18, 3) := by decide +kernel
theorem d_By_stop_59 : decode b_By_stop 59 = .ok (.iload 5, 2) := by decide +kernel
theorem d_By_stop_61 : decode b_By_stop 61 = .ok (.iconst 2, 1) := by decide +kernel
theorem d_By_stop_62 : decode b_By_stop 62 = .ok (.if_icmp .gt 12, 3) := by decide +kernel
theorem d_By_stop_65 : decode b_By_stop 65 = .ok (.iload 5, 2) := by decide +kernel
theorem d_By_stop_67 : decode b_By_stop 67 = .ok (.iload_n 2, 1) := by decide +kernel
theorem d_By_stop_68 : decode b_By_stop 68 = .ok (.iload 4, 2) := by decide +kernel
theorem d_By_stop_70 : decode b_By_stop 70 = .ok (.isub, 1) := by decide +kernel
theorem d_By_stop_71 : decode b_By_stop 71 = .ok (.if_icmp .le 5, 3) := by decide +kernel
theorem d_By_stop_74 : decode b_By_stop 74 = .ok (.iconst (-1), 1) := by decide +kernel
theorem d_By_stop_75 : decode b_By_stop 75 = .ok (.ireturn, 1) := by decide +kernel
theorem d_By_stop_76 : decode b_By_stop 76 = .ok (.iload 5, 2) := by decide +kernel
theorem d_By_stop_78 : decode b_By_stop 78 = .ok (.iconst 1, 1) := by decide +kernel
theorem d_By_stop_79 : decode b_By_stop 79 = .ok (.if_icmp .ne 17, 3) := by decide +kernel
theorem d_By_stop_82 : decode b_By_stop 82 = .ok (.aload_n 0, 1) := by decide +kernel
theorem d_By_stop_83 : decode b_By_stop 83 = .ok (.getfield 15, 3) := by decide +kernel
theorem d_By_stop_86 : decode b_By_stop 86 = .ok (.iload 4, 2) := by decide +kernel
theorem d_By_stop_88 : decode b_By_stop 88 = .ok (.baload, 1) := by decide +kernel
theorem d_By_stop_89 : decode b_By_stop 89 = .ok (.sipush 255, 3) := by decide +kernel
theorem d_By_stop_92 : decode b_By_stop 92 = .ok (.iand, 1) := by decide +kernel
theorem d_By_stop_93 : decode b_By_stop 93 = .ok (.goto 32, 3) := by decide +kernel
theorem d_By_stop_96 : decode b_By_stop 96 = .ok (.aload_n 0, 1) := by decide +kernel
theorem d_By_stop_97 : decode b_By_stop 97 = .ok (.getfield 15, 3) := by decide +kernel
theorem d_By_stop_100 : decode b_By_stop 100 = .ok (.iload 4, 2) := by decide +kernel
theorem d_By_stop_102 : decode b_By_stop 102 = .ok (.baload, 1) := by decide +kernel
theorem d_By_stop_103 : decode b_By_stop 103 = .ok (.sipush 255, 3) := by decide +kernel
theorem d_By_stop_106 : decode b_By_stop 106 = .ok (.iand, 1) := by decide +kernel
theorem d_By_stop_107 : decode b_By_stop 107 = .ok (.sipush 256, 3) := by decide +kernel
theorem d_By_stop_110 : decode b_By_stop 110 = .ok (.imul, 1) := by decide +kernel
theorem d_By_stop_111 : decode b_By_stop 111 = .ok (.aload_n 0, 1) := by decide +kernel
theorem d_By_stop_112 : decode b_By_stop 112 = .ok (.getfield 15, 3) := by decide +kernel
theorem d_By_stop_115 : decode b_By_stop 115 = .ok (.iload 4, 2) := by decide +kernel
theorem d_By_stop_117 : decode b_By_stop 117 = .ok (.iconst 1, 1) := by decide +kernel
theorem d_By_stop_118 : decode b_By_stop 118 = .ok (.iadd, 1) := by decide +kernel
theorem d_By_stop_119 : decode b_By_stop 119 = .ok (.baload, 1) := by decide +kernel
theorem d_By_stop_120 : decode b_By_stop 120 = .ok (.sipush 255, 3) := by decide +kernel
theorem d_By_stop_123 : decode b_By_stop 123 = .ok (.iand, 1) := by decide +kernel
theorem d_By_stop_124 : decode b_By_stop 124 = .ok (.iadd, 1) := by decide +kernel
theorem d_By_stop_125 : decode b_By_stop 125 = .ok (.istore_n 3, 1) := by decide +kernel
theorem d_By_stop_126 : decode b_By_stop 126 = .ok (.iload 4, 2) := by decide +kernel
theorem d_By_stop_128 : decode b_By_stop 128 = .ok (.iload 5, 2) := by decide +kernel
theorem d_By_stop_130 : decode b_By_stop 130 = .ok (.iadd, 1) := by decide +kernel
theorem d_By_stop_131 : decode b_By_stop 131 = .ok (.istore 4, 2) := by decide +kernel
theorem d_By_stop_133 : decode b_By_stop 133 = .ok (.iload_n 3, 1) := by decide +kernel
theorem d_By_stop_134 : decode b_By_stop 134 = .ok (.iload 5, 2) := by decide +kernel
theorem d_By_stop_136 : decode b_By_stop 136 = .ok (.iconst 1, 1) := by decide +kernel
theorem d_By_stop_137 : decode b_By_stop 137 = .ok (.if_icmp .ne 9, 3) := by decide +kernel
theorem d_By_stop_140 : decode b_By_stop 140 = .ok (.sipush 128, 3) := by decide +kernel
theorem d_By_stop_143 : decode b_By_stop 143 = .ok (.goto 6, 3) := by decide +kernel
theorem d_By_stop_146 : decode b_By_stop 146 = .ok (.sipush 256, 3) := by decide +kernel
theorem d_By_stop_149 : decode b_By_stop 149 = .ok (.if_icmp .ge 5, 3) := by decide +kernel
theorem d_By_stop_152 : decode b_By_stop 152 = .ok (.iconst (-1), 1) := by decide +kernel
theorem d_By_stop_153 : decode b_By_stop 153 = .ok (.ireturn, 1) := by decide +kernel
theorem d_By_stop_154 : decode b_By_stop 154 = .ok (.iload_n 3, 1) := by decide +kernel
theorem d_By_stop_155 : decode b_By_stop 155 = .ok (.iload_n 2, 1) := by decide +kernel
theorem d_By_stop_156 : decode b_By_stop 156 = .ok (.iload 4, 2) := by decide +kernel
theorem d_By_stop_158 : decode b_By_stop 158 = .ok (.isub, 1) := by decide +kernel
theorem d_By_stop_159 : decode b_By_stop 159 = .ok (.if_icmp .gt 10, 3) := by decide +kernel
theorem d_By_stop_162 : decode b_By_stop 162 = .ok (.iload 4, 2) := by decide +kernel
theorem d_By_stop_164 : decode b_By_stop 164 = .ok (.iload_n 3, 1) := by decide +kernel
theorem d_By_stop_165 : decode b_By_stop 165 = .ok (.iadd, 1) := by decide +kernel
theorem d_By_stop_166 : decode b_By_stop 166 = .ok (.goto 4, 3) := by decide +kernel
theorem d_By_stop_169 : decode b_By_stop 169 = .ok (.iconst (-1), 1) := by decide +kernel
theorem d_By_stop_170 : decode b_By_stop 170 = .ok (.ireturn, 1) := by decide +kernel
abbrev b_By_fits : ByteArray := prog_4_method_46_code
def y_By_fits : MethodName := ⟨R_By, "fits", "(IIII)Z"⟩
abbrev k_By_fits : Cond := .code y_By_fits b_By_fits 7 (some .boolean)
theorem ki_By_fits : k_By_fits ∈ lw_tg := in_t 850 (by decide +kernel)
theorem ks_By_fits : Cond.instanceMethod y_By_fits ∈ lw_tg := in_t 849 (by decide +kernel)
theorem kx_By_fits : Cond.selects R_By y_By_fits y_By_fits ∈ lw_tg := List.mem_filter.mpr ⟨List.mem_append_left _ (List.mem_of_getElem? (i := 10) (by decide +kernel)), rfl⟩
theorem kl_By_By_fits : Cond.methodLink R_By 147 y_By_fits ∈ lw_tg := in_t 847 (by decide +kernel)
theorem hd_By_fits : y_By_fits.cls = R_By ∧ y_By_fits.cls ≠ "java/lang/invoke/MethodHandle" ∧ y_By_fits.cls ≠ "java/lang/invoke/VarHandle" ∧ (parseMethodDescriptor y_By_fits.desc).map (fun d => d.parameters.length) = some 4 := by decide +kernel
theorem d_By_fits_0 : decode b_By_fits 0 = .ok (.iload 4, 2) := by decide +kernel
theorem d_By_fits_2 : decode b_By_fits 2 = .ok (.bipush 20, 2) := by decide +kernel
theorem d_By_fits_4 : decode b_By_fits 4 = .ok (.if_icmp .gt 17, 3) := by decide +kernel
theorem d_By_fits_7 : decode b_By_fits 7 = .ok (.iload_n 2, 1) := by decide +kernel
theorem d_By_fits_8 : decode b_By_fits 8 = .ok (.ifCond .lt 13, 3) := by decide +kernel
theorem d_By_fits_11 : decode b_By_fits 11 = .ok (.aload_n 0, 1) := by decide +kernel
theorem d_By_fits_12 : decode b_By_fits 12 = .ok (.iload_n 2, 1) := by decide +kernel
theorem d_By_fits_13 : decode b_By_fits 13 = .ok (.iload_n 3, 1) := by decide +kernel
theorem d_By_fits_14 : decode b_By_fits 14 = .ok (.invokevirtual 98, 3) := by decide +kernel
theorem d_By_fits_17 : decode b_By_fits 17 = .ok (.iload_n 3, 1) := by decide +kernel
theorem d_By_fits_18 : decode b_By_fits 18 = .ok (.if_icmp .eq 5, 3) := by decide +kernel
theorem d_By_fits_21 : decode b_By_fits 21 = .ok (.iconst 0, 1) := by decide +kernel
theorem d_By_fits_22 : decode b_By_fits 22 = .ok (.ireturn, 1) := by decide +kernel
theorem d_By_fits_23 : decode b_By_fits 23 = .ok (.aload_n 0, 1) := by decide +kernel
theorem d_By_fits_24 : decode b_By_fits 24 = .ok (.getfield 15, 3) := by decide +kernel
theorem d_By_fits_27 : decode b_By_fits 27 = .ok (.iload_n 2, 1) := by decide +kernel
theorem d_By_fits_28 : decode b_By_fits 28 = .ok (.baload, 1) := by decide +kernel
theorem d_By_fits_29 : decode b_By_fits 29 = .ok (.sipush 255, 3) := by decide +kernel
theorem d_By_fits_32 : decode b_By_fits 32 = .ok (.iand, 1) := by decide +kernel
theorem d_By_fits_33 : decode b_By_fits 33 = .ok (.istore 5, 2) := by decide +kernel
theorem d_By_fits_35 : decode b_By_fits 35 = .ok (.aload_n 0, 1) := by decide +kernel
theorem d_By_fits_36 : decode b_By_fits 36 = .ok (.iload_n 2, 1) := by decide +kernel
theorem d_By_fits_37 : decode b_By_fits 37 = .ok (.invokevirtual 126, 3) := by decide +kernel
theorem d_By_fits_40 : decode b_By_fits 40 = .ok (.istore 6, 2) := by decide +kernel
theorem d_By_fits_42 : decode b_By_fits 42 = .ok (.iload_n 1, 1) := by decide +kernel
theorem d_By_fits_43 : decode b_By_fits 43 = .ok (.tableswitch 261 98 117 #[219, 261, 261, 261, 261, 261, 261, 93, 261, 261, 261, 147, 261, 249, 261, 261, 261, 173, 196, 121], 93) := by decide +kernel
theorem d_By_fits_136 : decode b_By_fits 136 = .ok (.iload 5, 2) := by decide +kernel
theorem d_By_fits_138 : decode b_By_fits 138 = .ok (.iconst 2, 1) := by decide +kernel
theorem d_By_fits_139 : decode b_By_fits 139 = .ok (.if_icmp .ne 23, 3) := by decide +kernel
theorem d_By_fits_142 : decode b_By_fits 142 = .ok (.aload_n 0, 1) := by decide +kernel
theorem d_By_fits_143 : decode b_By_fits 143 = .ok (.iload 6, 2) := by decide +kernel
theorem d_By_fits_145 : decode b_By_fits 145 = .ok (.iload_n 3, 1) := by decide +kernel
theorem d_By_fits_146 : decode b_By_fits 146 = .ok (.ldc2_w 151, 3) := by decide +kernel
theorem cl_By_151 : Cond.constantLong R_By 151 (-2147483648) ∈ lw_tg := in_t 853 (by decide +kernel)
theorem d_By_fits_149 : decode b_By_fits 149 = .ok (.ldc2_w 153, 3) := by decide +kernel
theorem cl_By_153 : Cond.constantLong R_By 153 (2147483647) ∈ lw_tg := in_t 854 (by decide +kernel)
theorem d_By_fits_152 : decode b_By_fits 152 = .ok (.invokevirtual 155, 3) := by decide +kernel
theorem d_By_fits_155 : decode b_By_fits 155 = .ok (.ifCond .eq 7, 3) := by decide +kernel
theorem d_By_fits_158 : decode b_By_fits 158 = .ok (.iconst 1, 1) := by decide +kernel
theorem d_By_fits_159 : decode b_By_fits 159 = .ok (.goto 4, 3) := by decide +kernel
theorem d_By_fits_162 : decode b_By_fits 162 = .ok (.iconst 0, 1) := by decide +kernel
theorem d_By_fits_163 : decode b_By_fits 163 = .ok (.ireturn, 1) := by decide +kernel
theorem d_By_fits_164 : decode b_By_fits 164 = .ok (.iload 5, 2) := by decide +kernel
theorem d_By_fits_166 : decode b_By_fits 166 = .ok (.iconst 2, 1) := by decide +kernel
theorem d_By_fits_167 : decode b_By_fits 167 = .ok (.if_icmp .ne 21, 3) := by decide +kernel
theorem d_By_fits_170 : decode b_By_fits 170 = .ok (.aload_n 0, 1) := by decide +kernel
theorem d_By_fits_171 : decode b_By_fits 171 = .ok (.iload 6, 2) := by decide +kernel
theorem d_By_fits_173 : decode b_By_fits 173 = .ok (.iload_n 3, 1) := by decide +kernel
theorem d_By_fits_174 : decode b_By_fits 174 = .ok (.lconst 0, 1) := by decide +kernel
theorem d_By_fits_175 : decode b_By_fits 175 = .ok (.ldc2_w 159, 3) := by decide +kernel
theorem cl_By_159 : Cond.constantLong R_By 159 (4294967295) ∈ lw_tg := in_t 863 (by decide +kernel)
theorem d_By_fits_178 : decode b_By_fits 178 = .ok (.invokevirtual 155, 3) := by decide +kernel
theorem d_By_fits_181 : decode b_By_fits 181 = .ok (.ifCond .eq 7, 3) := by decide +kernel
theorem d_By_fits_184 : decode b_By_fits 184 = .ok (.iconst 1, 1) := by decide +kernel
theorem d_By_fits_185 : decode b_By_fits 185 = .ok (.goto 4, 3) := by decide +kernel
theorem d_By_fits_188 : decode b_By_fits 188 = .ok (.iconst 0, 1) := by decide +kernel
theorem d_By_fits_189 : decode b_By_fits 189 = .ok (.ireturn, 1) := by decide +kernel
theorem d_By_fits_190 : decode b_By_fits 190 = .ok (.iload 5, 2) := by decide +kernel
theorem d_By_fits_192 : decode b_By_fits 192 = .ok (.iconst 2, 1) := by decide +kernel
theorem d_By_fits_193 : decode b_By_fits 193 = .ok (.if_icmp .ne 21, 3) := by decide +kernel
theorem d_By_fits_196 : decode b_By_fits 196 = .ok (.aload_n 0, 1) := by decide +kernel
theorem d_By_fits_197 : decode b_By_fits 197 = .ok (.iload 6, 2) := by decide +kernel
theorem d_By_fits_199 : decode b_By_fits 199 = .ok (.iload_n 3, 1) := by decide +kernel
theorem d_By_fits_200 : decode b_By_fits 200 = .ok (.lconst 0, 1) := by decide +kernel
theorem d_By_fits_201 : decode b_By_fits 201 = .ok (.ldc2_w 161, 3) := by decide +kernel
theorem cl_By_161 : Cond.constantLong R_By 161 (999999) ∈ lw_tg := in_t 864 (by decide +kernel)
theorem d_By_fits_204 : decode b_By_fits 204 = .ok (.invokevirtual 155, 3) := by decide +kernel
theorem d_By_fits_207 : decode b_By_fits 207 = .ok (.ifCond .eq 7, 3) := by decide +kernel
theorem d_By_fits_210 : decode b_By_fits 210 = .ok (.iconst 1, 1) := by decide +kernel
theorem d_By_fits_211 : decode b_By_fits 211 = .ok (.goto 4, 3) := by decide +kernel
theorem d_By_fits_214 : decode b_By_fits 214 = .ok (.iconst 0, 1) := by decide +kernel
theorem d_By_fits_215 : decode b_By_fits 215 = .ok (.ireturn, 1) := by decide +kernel
theorem d_By_fits_216 : decode b_By_fits 216 = .ok (.iload 5, 2) := by decide +kernel
theorem d_By_fits_218 : decode b_By_fits 218 = .ok (.bipush 27, 2) := by decide +kernel
theorem d_By_fits_220 : decode b_By_fits 220 = .ok (.if_icmp .ne 17, 3) := by decide +kernel
theorem d_By_fits_223 : decode b_By_fits 223 = .ok (.aload_n 0, 1) := by decide +kernel
theorem d_By_fits_224 : decode b_By_fits 224 = .ok (.iload 6, 2) := by decide +kernel
theorem d_By_fits_226 : decode b_By_fits 226 = .ok (.iload_n 3, 1) := by decide +kernel
theorem d_By_fits_227 : decode b_By_fits 227 = .ok (.invokevirtual 163, 3) := by decide +kernel
theorem d_By_fits_230 : decode b_By_fits 230 = .ok (.ifCond .eq 7, 3) := by decide +kernel
theorem d_By_fits_233 : decode b_By_fits 233 = .ok (.iconst 1, 1) := by decide +kernel
theorem d_By_fits_234 : decode b_By_fits 234 = .ok (.goto 4, 3) := by decide +kernel
theorem d_By_fits_237 : decode b_By_fits 237 = .ok (.iconst 0, 1) := by decide +kernel
theorem d_By_fits_238 : decode b_By_fits 238 = .ok (.ireturn, 1) := by decide +kernel
theorem d_By_fits_239 : decode b_By_fits 239 = .ok (.iload 5, 2) := by decide +kernel
theorem d_By_fits_241 : decode b_By_fits 241 = .ok (.bipush 24, 2) := by decide +kernel
theorem d_By_fits_243 : decode b_By_fits 243 = .ok (.if_icmp .ne 17, 3) := by decide +kernel
theorem d_By_fits_246 : decode b_By_fits 246 = .ok (.aload_n 0, 1) := by decide +kernel
theorem d_By_fits_247 : decode b_By_fits 247 = .ok (.iload 6, 2) := by decide +kernel
theorem d_By_fits_249 : decode b_By_fits 249 = .ok (.iload_n 3, 1) := by decide +kernel
theorem d_By_fits_250 : decode b_By_fits 250 = .ok (.invokevirtual 167, 3) := by decide +kernel
theorem d_By_fits_253 : decode b_By_fits 253 = .ok (.ifCond .eq 7, 3) := by decide +kernel
theorem d_By_fits_256 : decode b_By_fits 256 = .ok (.iconst 1, 1) := by decide +kernel
theorem d_By_fits_257 : decode b_By_fits 257 = .ok (.goto 4, 3) := by decide +kernel
theorem d_By_fits_260 : decode b_By_fits 260 = .ok (.iconst 0, 1) := by decide +kernel
theorem d_By_fits_261 : decode b_By_fits 261 = .ok (.ireturn, 1) := by decide +kernel
theorem d_By_fits_262 : decode b_By_fits 262 = .ok (.iload 5, 2) := by decide +kernel
theorem d_By_fits_264 : decode b_By_fits 264 = .ok (.iconst 3, 1) := by decide +kernel
theorem d_By_fits_265 : decode b_By_fits 265 = .ok (.if_icmp .ne 25, 3) := by decide +kernel
theorem d_By_fits_268 : decode b_By_fits 268 = .ok (.iload_n 3, 1) := by decide +kernel
theorem d_By_fits_269 : decode b_By_fits 269 = .ok (.iload 6, 2) := by decide +kernel
theorem d_By_fits_271 : decode b_By_fits 271 = .ok (.isub, 1) := by decide +kernel
theorem d_By_fits_272 : decode b_By_fits 272 = .ok (.iconst 5, 1) := by decide +kernel
theorem d_By_fits_273 : decode b_By_fits 273 = .ok (.if_icmp .lt 17, 3) := by decide +kernel
theorem d_By_fits_276 : decode b_By_fits 276 = .ok (.aload_n 0, 1) := by decide +kernel
theorem d_By_fits_277 : decode b_By_fits 277 = .ok (.getfield 15, 3) := by decide +kernel
theorem d_By_fits_280 : decode b_By_fits 280 = .ok (.iload 6, 2) := by decide +kernel
theorem d_By_fits_282 : decode b_By_fits 282 = .ok (.baload, 1) := by decide +kernel
theorem d_By_fits_283 : decode b_By_fits 283 = .ok (.ifCond .ne 7, 3) := by decide +kernel
theorem d_By_fits_286 : decode b_By_fits 286 = .ok (.iconst 1, 1) := by decide +kernel
theorem d_By_fits_287 : decode b_By_fits 287 = .ok (.goto 4, 3) := by decide +kernel
theorem d_By_fits_290 : decode b_By_fits 290 = .ok (.iconst 0, 1) := by decide +kernel
theorem d_By_fits_291 : decode b_By_fits 291 = .ok (.ireturn, 1) := by decide +kernel
theorem d_By_fits_292 : decode b_By_fits 292 = .ok (.iload 5, 2) := by decide +kernel
theorem d_By_fits_294 : decode b_By_fits 294 = .ok (.iconst 4, 1) := by decide +kernel
theorem d_By_fits_295 : decode b_By_fits 295 = .ok (.if_icmp .ne 7, 3) := by decide +kernel
theorem d_By_fits_298 : decode b_By_fits 298 = .ok (.iconst 1, 1) := by decide +kernel
theorem d_By_fits_299 : decode b_By_fits 299 = .ok (.goto 4, 3) := by decide +kernel
theorem d_By_fits_302 : decode b_By_fits 302 = .ok (.iconst 0, 1) := by decide +kernel
theorem d_By_fits_303 : decode b_By_fits 303 = .ok (.ireturn, 1) := by decide +kernel
theorem d_By_fits_304 : decode b_By_fits 304 = .ok (.iload 5, 2) := by decide +kernel
theorem d_By_fits_306 : decode b_By_fits 306 = .ok (.iload_n 1, 1) := by decide +kernel
theorem d_By_fits_307 : decode b_By_fits 307 = .ok (.invokestatic 170, 3) := by decide +kernel
theorem d_By_fits_310 : decode b_By_fits 310 = .ok (.if_icmp .ne 20, 3) := by decide +kernel
theorem d_By_fits_313 : decode b_By_fits 313 = .ok (.aload_n 0, 1) := by decide +kernel
theorem d_By_fits_314 : decode b_By_fits 314 = .ok (.iload_n 1, 1) := by decide +kernel
theorem d_By_fits_315 : decode b_By_fits 315 = .ok (.iload 6, 2) := by decide +kernel
theorem d_By_fits_317 : decode b_By_fits 317 = .ok (.iload_n 3, 1) := by decide +kernel
theorem d_By_fits_318 : decode b_By_fits 318 = .ok (.iload 4, 2) := by decide +kernel
theorem d_By_fits_320 : decode b_By_fits 320 = .ok (.invokevirtual 173, 3) := by decide +kernel
theorem d_By_fits_323 : decode b_By_fits 323 = .ok (.ifCond .eq 7, 3) := by decide +kernel
theorem d_By_fits_326 : decode b_By_fits 326 = .ok (.iconst 1, 1) := by decide +kernel
theorem d_By_fits_327 : decode b_By_fits 327 = .ok (.goto 4, 3) := by decide +kernel
theorem d_By_fits_330 : decode b_By_fits 330 = .ok (.iconst 0, 1) := by decide +kernel
theorem d_By_fits_331 : decode b_By_fits 331 = .ok (.ireturn, 1) := by decide +kernel
abbrev b_By_isA : ByteArray := prog_4_method_45_code
def y_By_isA : MethodName := ⟨R_By, "isA", "(III)Z"⟩
abbrev k_By_isA : Cond := .code y_By_isA b_By_isA 4 (some .boolean)
theorem ki_By_isA : k_By_isA ∈ lw_tg := in_t 846 (by decide +kernel)
theorem ks_By_isA : Cond.instanceMethod y_By_isA ∈ lw_tg := in_t 844 (by decide +kernel)
theorem kx_By_isA : Cond.selects R_By y_By_isA y_By_isA ∈ lw_tg := in_t 845 (by decide +kernel)
theorem kl_Ce_By_isA : Cond.methodLink R_Ce 72 y_By_isA ∈ lw_tg := in_t 843 (by decide +kernel)
theorem kl_Ga_By_isA : Cond.methodLink R_Ga 38 y_By_isA ∈ lw_tg := in_t 962 (by decide +kernel)
theorem kl_Ag_By_isA : Cond.methodLink R_Ag 242 y_By_isA ∈ lw_tg := in_t 1484 (by decide +kernel)
theorem kl_So_By_isA : Cond.methodLink R_So 174 y_By_isA ∈ lw_tg := in_t 1664 (by decide +kernel)
theorem hd_By_isA : y_By_isA.cls = R_By ∧ y_By_isA.cls ≠ "java/lang/invoke/MethodHandle" ∧ y_By_isA.cls ≠ "java/lang/invoke/VarHandle" ∧ (parseMethodDescriptor y_By_isA.desc).map (fun d => d.parameters.length) = some 3 := by decide +kernel
theorem d_By_isA_0 : decode b_By_isA 0 = .ok (.aload_n 0, 1) := by decide +kernel
theorem d_By_isA_1 : decode b_By_isA 1 = .ok (.iload_n 1, 1) := by decide +kernel
theorem d_By_isA_2 : decode b_By_isA 2 = .ok (.iload_n 2, 1) := by decide +kernel
theorem d_By_isA_3 : decode b_By_isA 3 = .ok (.iload_n 3, 1) := by decide +kernel
theorem d_By_isA_4 : decode b_By_isA 4 = .ok (.iconst 0, 1) := by decide +kernel
theorem d_By_isA_5 : decode b_By_isA 5 = .ok (.invokevirtual 147, 3) := by decide +kernel
theorem d_By_isA_8 : decode b_By_isA 8 = .ok (.ireturn, 1) := by decide +kernel
abbrev b_By_isPrintable : ByteArray := prog_4_method_29_code
def y_By_isPrintable : MethodName := ⟨R_By, "isPrintable", "(II)Z"⟩
abbrev k_By_isPrintable : Cond := .code y_By_isPrintable b_By_isPrintable 5 (some .boolean)
theorem ki_By_isPrintable : k_By_isPrintable ∈ lw_tg := in_t 798 (by decide +kernel)
theorem ks_By_isPrintable : Cond.instanceMethod y_By_isPrintable ∈ lw_tg := in_t 796 (by decide +kernel)
theorem kx_By_isPrintable : Cond.selects R_By y_By_isPrintable y_By_isPrintable ∈ lw_tg := in_t 797 (by decide +kernel)
theorem kl_H_By_isPrintable : Cond.methodLink R_H 306 y_By_isPrintable ∈ lw_tg := in_t 795 (by decide +kernel)
theorem kl_By_By_isPrintable : Cond.methodLink R_By 163 y_By_isPrintable ∈ lw_tg := in_t 865 (by decide +kernel)
theorem hd_By_isPrintable : y_By_isPrintable.cls = R_By ∧ y_By_isPrintable.cls ≠ "java/lang/invoke/MethodHandle" ∧ y_By_isPrintable.cls ≠ "java/lang/invoke/VarHandle" ∧ (parseMethodDescriptor y_By_isPrintable.desc).map (fun d => d.parameters.length) = some 2 := by decide +kernel
theorem d_By_isPrintable_0 : decode b_By_isPrintable 0 = .ok (.iload_n 1, 1) := by decide +kernel
theorem d_By_isPrintable_1 : decode b_By_isPrintable 1 = .ok (.istore_n 3, 1) := by decide +kernel
theorem d_By_isPrintable_2 : decode b_By_isPrintable 2 = .ok (.iload_n 3, 1) := by decide +kernel
theorem d_By_isPrintable_3 : decode b_By_isPrintable 3 = .ok (.iload_n 2, 1) := by decide +kernel
theorem d_By_isPrintable_4 : decode b_By_isPrintable 4 = .ok (.if_icmp .ge 32, 3) := by decide +kernel
theorem d_By_isPrintable_7 : decode b_By_isPrintable 7 = .ok (.aload_n 0, 1) := by decide +kernel
theorem d_By_isPrintable_8 : decode b_By_isPrintable 8 = .ok (.iload_n 3, 1) := by decide +kernel
theorem d_By_isPrintable_9 : decode b_By_isPrintable 9 = .ok (.invokevirtual 123, 3) := by decide +kernel
theorem d_By_isPrintable_12 : decode b_By_isPrintable 12 = .ok (.istore 4, 2) := by decide +kernel
theorem d_By_isPrintable_14 : decode b_By_isPrintable 14 = .ok (.iload 4, 2) := by decide +kernel
theorem d_By_isPrintable_16 : decode b_By_isPrintable 16 = .ok (.bipush 32, 2) := by decide +kernel
theorem d_By_isPrintable_18 : decode b_By_isPrintable 18 = .ok (.if_icmp .lt 10, 3) := by decide +kernel
theorem d_By_isPrintable_21 : decode b_By_isPrintable 21 = .ok (.iload 4, 2) := by decide +kernel
theorem d_By_isPrintable_23 : decode b_By_isPrintable 23 = .ok (.bipush 126, 2) := by decide +kernel
theorem d_By_isPrintable_25 : decode b_By_isPrintable 25 = .ok (.if_icmp .le 5, 3) := by decide +kernel
theorem d_By_isPrintable_28 : decode b_By_isPrintable 28 = .ok (.iconst 0, 1) := by decide +kernel
theorem d_By_isPrintable_29 : decode b_By_isPrintable 29 = .ok (.ireturn, 1) := by decide +kernel
theorem d_By_isPrintable_30 : decode b_By_isPrintable 30 = .ok (.iinc 3 1, 3) := by decide +kernel
theorem d_By_isPrintable_33 : decode b_By_isPrintable 33 = .ok (.goto (-31), 3) := by decide +kernel
theorem d_By_isPrintable_36 : decode b_By_isPrintable 36 = .ok (.iconst 1, 1) := by decide +kernel
theorem d_By_isPrintable_37 : decode b_By_isPrintable 37 = .ok (.ireturn, 1) := by decide +kernel
set_option maxHeartbeats 4000000 in
set_option maxRecDepth 100000 in
theorem c_By_copyOf (l : Launch) (D : va_G) (E : cE) (L : List Nat) (f : pF) (sz : Nat) (N M : Nat) (b r b2 r2 n n3 : Nat) (g_r g_r2 : Nat → Int32) (m_b : b ∈ L) (m_r : r ∈ L) (m_b2 : b2 ∈ L) (m_r2 : r2 ∈ L) (e_b : f b = .inr (3, [.ref r, .int (nI n)])) (e_r : f r = .inl (E.1, N, .inl g_r)) (e_b2 : f b2 = .inr (3, [.ref r2, .int (nI n3)])) (e_r2 : f r2 = .inl (E.1, M, .inl g_r2)) (f_r : fB g_r) (f_r2 : fB g_r2) (ap_b_b2 : b ≠ b2) (ap_r_r2 : r ≠ r2) (hh0 : n ≤ N) (hh1 : N < 100000) (hh2 : n3 ≤ M) (hh3 : M < 100000) : Met l y_By_copyOf (k_By_copyOf :: lw_tg) (mR 2 83) (va_Pc [.ref b, .ref b2] (cPre D E L f sz)) (va_Qv (fun (u : cU) => u.1 = L ∧ (∀ x, x ≠ b → x ≠ r → u.2 x = f x) ∧ ∃ (n2 : Nat) (g2_r : Nat → Int32), fB g2_r ∧ n2 ≤ N ∧ u.2 b = .inr (3, [.ref r, .int (nI n2)]) ∧ u.2 r = .inl (E.1, N, .inl g2_r)) (cPost D E (pA L sz)) (pA L sz)) 0 0 (pA L sz) := by
  refine c_enter (own := R_By) (by decide) rfl (Nat.le_of_ble_eq_true rfl) ⟨rfl, rfl⟩ (fun p e s m below meth c ls AV QQ H locs hQQ X Y hA hin hr hlk hml hl => ?_)
  have hl : lv_has ls 2 [(0, .ref b), (1, .ref b2)] := hl
  refine lv_aload_n X.1 X.2.1 d_By_copyOf_0 rfl (lv_at hl 0 rfl) ?_
  refine lv_iconst (v := (nI 0)) X.1 X.2.1 d_By_copyOf_1 (by decide) ?_
  refine q_put X.1 X.2.1 X.2.2.1 i_By t_By t_By_ok n_By X.2.2.2.1 X.2.2.2.2 Y m_b e_b rfl 1 (by decide) (X.2.2.1 _ lk_By_21) (fun _ h9 => h9) rfl (t_By_ok 1 (by decide)) rfl rfl (Nat.le_of_ble_eq_true rfl) d_By_copyOf_2 (fun H locs Y => ?_)
  have e2 : (va_up f b (.inr (3, [.ref r, .int (nI 0)]))) b = .inr (3, [.ref r, .int (nI 0)]) := q_up
  have e3 : (va_up f b (.inr (3, [.ref r, .int (nI 0)]))) r = .inl (E.1, N, .inl g_r) := (q_ne (q_tag e_r e_b (show (1000 : Nat) ≠ 3 by decide))).trans e_r
  have e4 : (va_up f b (.inr (3, [.ref r, .int (nI 0)]))) b2 = .inr (3, [.ref r2, .int (nI n3)]) := (q_ne ap_b_b2.symm).trans e_b2
  have e5 : (va_up f b (.inr (3, [.ref r, .int (nI 0)]))) r2 = .inl (E.1, M, .inl g_r2) := (q_ne (q_tag e_r2 e_b (show (1000 : Nat) ≠ 3 by decide))).trans e_r2
  have hF6 : ∀ x, x ≠ b → x ≠ r → (va_up f b (.inr (3, [.ref r, .int (nI 0)]))) x = f x := fun x h0 h1 => (q_ne h0).trans rfl
  have Y : pH D cCl (pA L sz) s.heap L (va_up f b (.inr (3, [.ref r, .int (nI 0)]))) H locs := Y
  generalize (va_up f b (.inr (3, [.ref r, .int (nI 0)]))) = f1 at Y e2 e3 e4 e5 hF6
  refine lv_aload_n X.1 X.2.1 d_By_copyOf_5 rfl (lv_at hl 0 rfl) ?_
  refine lv_aload_n X.1 X.2.1 d_By_copyOf_6 rfl (lv_at hl 1 rfl) ?_
  refine q_get X.1 X.2.1 X.2.2.1 i_By X.2.2.2.1 X.2.2.2.2 Y m_b2 e4 rfl 0 (by decide) (X.2.2.1 _ lk_By_15) (fun _ h9 => h9) rfl d_By_copyOf_7 ?_
  refine lv_iconst (v := (nI 0)) X.1 X.2.1 d_By_copyOf_10 (by decide) ?_
  refine lv_aload_n X.1 X.2.1 d_By_copyOf_11 rfl (lv_at hl 1 rfl) ?_
  refine q_get X.1 X.2.1 X.2.2.1 i_By X.2.2.2.1 X.2.2.2.2 Y m_b2 e4 rfl 1 (by decide) (X.2.2.1 _ lk_By_21) (fun _ h9 => h9) rfl d_By_copyOf_12 ?_
  refine c_callv (As := [.ref r2, .int (nI 0), .int (nI n3)]) (rest := []) (n := 3) X Y hA hml hl.1 (c_By_append l D E L f1 H.size (nI 0) (nI n3) b r (N) (0) g_r m_b e2 m_r e3 (by omega) (by omega) f_r r2 (M) g_r2 m_r2 e5 f_r2 (by omega) ap_r_r2.symm) m_b e2 rfl kl_By_By_append ks_By_append kx_By_append ki_By_append ini_By ⟨rfl, rfl⟩ hd_By_append ⟨by decide, by decide⟩ rfl (Nat.le_of_ble_eq_true rfl) d_By_copyOf_15 ⟨Nat.le_refl _, Nat.le_refl _⟩ (fun u H locs hp Y => ?_)
  obtain ⟨L8, f7⟩ := u
  obtain ⟨eL18, hF9, n10, g11, h13, h14, h15, e16, e17⟩ := hp
  dsimp only at eL18 hF9 e16 e17 Y
  rw [eL18] at Y
  have e20 : f7 b2 = .inr (3, [.ref r2, .int (nI n3)]) := (hF9 b2 ap_b_b2.symm (q_tag e4 e3 (show (3 : Nat) ≠ 1000 by decide))).trans e4
  have e21 : f7 r2 = .inl (E.1, M, .inl g_r2) := (hF9 r2 (q_tag e5 e2 (show (1000 : Nat) ≠ 3 by decide)) ap_r_r2.symm).trans e5
  have hF22 : ∀ x, x ≠ b → x ≠ r → f7 x = f x := fun x h0 h1 => (hF9 x h0 h1).trans (hF6 x h0 h1)
  exact c_retv hQQ X Y hr hlk ⟨rfl, hF22, n10, g11, h14, (by omega), e16, e17⟩ d_By_copyOf_18
set_option maxHeartbeats 4000000 in
set_option maxRecDepth 100000 in
theorem c_By_stop_empty (l : Launch) (D : va_G) (E : cE) (L : List Nat) (f : pF) (sz : Nat) (N : Nat) (b r n : Nat) (g_r : Nat → Int32) (m_b : b ∈ L) (m_r : r ∈ L) (e_b : f b = .inr (3, [.ref r, .int (nI n)])) (e_r : f r = .inl (E.1, N, .inl g_r)) (f_r : fB g_r) (hh0 : n = 0) : Met l y_By_stop (k_By_stop :: lw_tg) (mR 0 0) (va_Pc [.ref b, .int (nI 0), .int (nI 0)] (cPre D E L f sz)) (va_Qi (fun (r0 : Int32) (u : cU) => u.1 = L ∧ (∀ x, u.2 x = f x) ∧ (r0 = (-1))) (cPost D E (pA L sz)) (pA L sz)) 0 0 (pA L sz) := by
  refine c_enter (own := R_By) (by decide) rfl (Nat.le_of_ble_eq_true rfl) ⟨rfl, rfl⟩ (fun p e s m below meth c ls AV QQ H locs hQQ X Y hA hin hr hlk hml hl => ?_)
  have hl : lv_has ls 6 [(0, .ref b), (1, .int (nI 0)), (2, .int (nI 0))] := hl
  refine lv_iload_n X.1 X.2.1 d_By_stop_0 rfl (lv_at hl 1 rfl) ?_
  refine lv_if_lt (tgt := 19) X.1 X.2.1 d_By_stop_1 (by decide) (fun c1 => absurd c1 ?_) (fun c1 => ?_)
  · (rw [← nI_0, nI_ltI (by omega) (by omega)] <;> omega)
  rw [← nI_0] at c1
  rw [nI_ltI (by omega) (by omega)] at c1
  refine lv_iload_n X.1 X.2.1 d_By_stop_4 rfl (lv_at hl 2 rfl) ?_
  refine lv_aload_n X.1 X.2.1 d_By_stop_5 rfl (lv_at hl 0 rfl) ?_
  refine q_get X.1 X.2.1 X.2.2.1 i_By X.2.2.2.1 X.2.2.2.2 Y m_b e_b rfl 1 (by decide) (X.2.2.1 _ lk_By_21) (fun _ h9 => h9) rfl d_By_stop_6 ?_
  refine lv_icmp_gt (tgt := 19) X.1 X.2.1 d_By_stop_9 (by decide) (fun c2 => ?_) (fun c2 => ?_)
  · skip
    rw [nI_ltI (by omega) (by omega)] at c2
    refine lv_iconst (v := (-1)) X.1 X.2.1 d_By_stop_19 (by decide) ?_
    exact c_reti hQQ X Y hr hlk ⟨rfl, (fun _ => rfl), rfl⟩ d_By_stop_20
  · skip
    rw [nI_ltI (by omega) (by omega)] at c2
    refine lv_iload_n X.1 X.2.1 d_By_stop_12 rfl (lv_at hl 2 rfl) ?_
    refine lv_iload_n X.1 X.2.1 d_By_stop_13 rfl (lv_at hl 1 rfl) ?_
    refine lv_isub X.1 X.2.1 d_By_stop_14 ?_
    refine t_eq (y := nI 0) (by decide) ?_
    refine lv_iconst (v := (nI 2)) X.1 X.2.1 d_By_stop_15 (by decide) ?_
    refine lv_icmp_ge (tgt := 21) X.1 X.2.1 d_By_stop_16 (by decide) (fun c3 => absurd c3 ?_) (fun c3 => ?_)
    · (rw [nI_leI (by omega) (by omega)] <;> omega)
    rw [nI_leI (by omega) (by omega)] at c3
    refine lv_iconst (v := (-1)) X.1 X.2.1 d_By_stop_19 (by decide) ?_
    exact c_reti hQQ X Y hr hlk ⟨rfl, (fun _ => rfl), rfl⟩ d_By_stop_20
set_option maxHeartbeats 4000000 in
set_option maxRecDepth 100000 in
theorem c_By_fits_empty (l : Launch) (D : va_G) (E : cE) (L : List Nat) (f : pF) (sz : Nat) (N : Nat) (a1 : Int32) (b r n : Nat) (g_r : Nat → Int32) (m_b : b ∈ L) (m_r : r ∈ L) (e_b : f b = .inr (3, [.ref r, .int (nI n)])) (e_r : f r = .inl (E.1, N, .inl g_r)) (f_r : fB g_r) (hh0 : n = 0) : Met l y_By_fits (k_By_fits :: lw_tg) (mR 1 25) (va_Pc [.ref b, .int a1, .int (nI 0), .int (nI 0), .int (nI 0)] (cPre D E L f sz)) (va_Qi (fun (r0 : Int32) (u : cU) => u.1 = L ∧ (∀ x, u.2 x = f x) ∧ (r0 = nI 0)) (cPost D E (pA L sz)) (pA L sz)) 0 0 (pA L sz) := by
  refine c_enter (own := R_By) (by decide) rfl (Nat.le_of_ble_eq_true rfl) ⟨rfl, rfl⟩ (fun p e s m below meth c ls AV QQ H locs hQQ X Y hA hin hr hlk hml hl => ?_)
  have hl : lv_has ls 7 [(0, .ref b), (1, .int a1), (2, .int (nI 0)), (3, .int (nI 0)), (4, .int (nI 0))] := hl
  refine lv_iload X.1 X.2.1 d_By_fits_0 (lv_at hl 4 rfl) ?_
  refine lv_bipush (v := (nI 20)) X.1 X.2.1 d_By_fits_2 (by decide) ?_
  refine lv_icmp_gt (tgt := 21) X.1 X.2.1 d_By_fits_4 (by decide) (fun c1 => absurd c1 ?_) (fun c1 => ?_)
  · (rw [nI_ltI (by omega) (by omega)] <;> omega)
  rw [nI_ltI (by omega) (by omega)] at c1
  refine lv_iload_n X.1 X.2.1 d_By_fits_7 rfl (lv_at hl 2 rfl) ?_
  refine lv_if_lt (tgt := 21) X.1 X.2.1 d_By_fits_8 (by decide) (fun c2 => absurd c2 ?_) (fun c2 => ?_)
  · (rw [← nI_0, nI_ltI (by omega) (by omega)] <;> omega)
  rw [← nI_0] at c2
  rw [nI_ltI (by omega) (by omega)] at c2
  refine lv_aload_n X.1 X.2.1 d_By_fits_11 rfl (lv_at hl 0 rfl) ?_
  refine lv_iload_n X.1 X.2.1 d_By_fits_12 rfl (lv_at hl 2 rfl) ?_
  refine lv_iload_n X.1 X.2.1 d_By_fits_13 rfl (lv_at hl 3 rfl) ?_
  refine c_calli (As := [.int (nI 0), .int (nI 0)]) (rest := []) (n := 2) X Y hA hml hl.1 (c_By_stop_empty l D E L f H.size (N) b r (n) g_r m_b m_r e_b e_r f_r (by omega)) m_b e_b rfl kl_By_By_stop ks_By_stop kx_By_stop ki_By_stop ini_By ⟨rfl, rfl⟩ hd_By_stop ⟨by decide, by decide⟩ rfl (Nat.le_of_ble_eq_true rfl) d_By_fits_14 ⟨Nat.le_refl _, Nat.le_refl _⟩ (fun r6 u H locs hp Y => ?_)
  obtain ⟨L4, f3⟩ := u
  obtain ⟨eL7, hF5, pr8⟩ := hp
  dsimp only at eL7 hF5 pr8 Y
  rw [eL7] at Y
  have e9 : f3 b = .inr (3, [.ref r, .int (nI n)]) := (hF5 b ).trans e_b
  have e10 : f3 r = .inl (E.1, N, .inl g_r) := (hF5 r ).trans e_r
  have hF11 : ∀ x, f3 x = f x := fun x  => (hF5 x ).trans rfl
  refine t_eq pr8 ?_
  refine lv_iload_n X.1 X.2.1 d_By_fits_17 rfl (lv_at hl 3 rfl) ?_
  refine lv_icmp_eq (tgt := 23) X.1 X.2.1 d_By_fits_18 (by decide) (fun c12 => absurd c12 ?_) (fun c12 => ?_)
  · decide
  refine lv_iconst (v := (nI 0)) X.1 X.2.1 d_By_fits_21 (by decide) ?_
  exact c_retz hQQ X Y hr hlk rfl ⟨rfl, hF11, rfl⟩ d_By_fits_22
set_option maxHeartbeats 4000000 in
set_option maxRecDepth 100000 in
theorem c_By_isA_empty (l : Launch) (D : va_G) (E : cE) (L : List Nat) (f : pF) (sz : Nat) (N : Nat) (a1 : Int32) (b r n : Nat) (g_r : Nat → Int32) (m_b : b ∈ L) (m_r : r ∈ L) (e_b : f b = .inr (3, [.ref r, .int (nI n)])) (e_r : f r = .inl (E.1, N, .inl g_r)) (f_r : fB g_r) (hh0 : n = 0) : Met l y_By_isA (k_By_isA :: lw_tg) (mR 2 51) (va_Pc [.ref b, .int a1, .int (nI 0), .int (nI 0)] (cPre D E L f sz)) (va_Qi (fun (r0 : Int32) (u : cU) => u.1 = L ∧ (∀ x, u.2 x = f x) ∧ (r0 = nI 0)) (cPost D E (pA L sz)) (pA L sz)) 0 0 (pA L sz) := by
  refine c_enter (own := R_By) (by decide) rfl (Nat.le_of_ble_eq_true rfl) ⟨rfl, rfl⟩ (fun p e s m below meth c ls AV QQ H locs hQQ X Y hA hin hr hlk hml hl => ?_)
  have hl : lv_has ls 4 [(0, .ref b), (1, .int a1), (2, .int (nI 0)), (3, .int (nI 0))] := hl
  refine lv_aload_n X.1 X.2.1 d_By_isA_0 rfl (lv_at hl 0 rfl) ?_
  refine lv_iload_n X.1 X.2.1 d_By_isA_1 rfl (lv_at hl 1 rfl) ?_
  refine lv_iload_n X.1 X.2.1 d_By_isA_2 rfl (lv_at hl 2 rfl) ?_
  refine lv_iload_n X.1 X.2.1 d_By_isA_3 rfl (lv_at hl 3 rfl) ?_
  refine lv_iconst (v := (nI 0)) X.1 X.2.1 d_By_isA_4 (by decide) ?_
  refine c_calli (As := [.int a1, .int (nI 0), .int (nI 0), .int (nI 0)]) (rest := []) (n := 4) X Y hA hml hl.1 (c_By_fits_empty l D E L f H.size (N) a1 b r (n) g_r m_b m_r e_b e_r f_r (by omega)) m_b e_b rfl kl_By_By_fits ks_By_fits kx_By_fits ki_By_fits ini_By ⟨rfl, rfl⟩ hd_By_fits ⟨by decide, by decide⟩ rfl (Nat.le_of_ble_eq_true rfl) d_By_isA_5 ⟨Nat.le_refl _, Nat.le_refl _⟩ (fun r4 u H locs hp Y => ?_)
  obtain ⟨L2, f1⟩ := u
  obtain ⟨eL5, hF3, pr6⟩ := hp
  dsimp only at eL5 hF3 pr6 Y
  rw [eL5] at Y
  have e7 : f1 b = .inr (3, [.ref r, .int (nI n)]) := (hF3 b ).trans e_b
  have e8 : f1 r = .inl (E.1, N, .inl g_r) := (hF3 r ).trans e_r
  have hF9 : ∀ x, f1 x = f x := fun x  => (hF3 x ).trans rfl
  refine t_eq pr6 ?_
  exact c_retz hQQ X Y hr hlk rfl ⟨rfl, hF9, rfl⟩ d_By_isA_8
set_option maxHeartbeats 4000000 in
set_option maxRecDepth 100000 in
theorem c_By_isPrintable_empty (l : Launch) (D : va_G) (E : cE) (L : List Nat) (f : pF) (sz : Nat) (N : Nat) (b r n : Nat) (g_r : Nat → Int32) (m_b : b ∈ L) (m_r : r ∈ L) (e_b : f b = .inr (3, [.ref r, .int (nI n)])) (e_r : f r = .inl (E.1, N, .inl g_r)) (f_r : fB g_r) (hh0 : n = 0) : Met l y_By_isPrintable (k_By_isPrintable :: lw_tg) (mR 0 0) (va_Pc [.ref b, .int (nI 0), .int (nI 0)] (cPre D E L f sz)) (va_Qi (fun (r0 : Int32) (u : cU) => u.1 = L ∧ (∀ x, u.2 x = f x) ∧ (r0 = nI 1)) (cPost D E (pA L sz)) (pA L sz)) 0 0 (pA L sz) := by
  refine c_enter (own := R_By) (by decide) rfl (Nat.le_of_ble_eq_true rfl) ⟨rfl, rfl⟩ (fun p e s m below meth c ls AV QQ H locs hQQ X Y hA hin hr hlk hml hl => ?_)
  have hl : lv_has ls 5 [(0, .ref b), (1, .int (nI 0)), (2, .int (nI 0))] := hl
  refine lv_iload_n X.1 X.2.1 d_By_isPrintable_0 rfl (lv_at hl 1 rfl) ?_
  refine lv_istore_n (lv' := [(3, .int (nI 0)), (0, .ref b), (1, .int (nI 0)), (2, .int (nI 0))]) X.1 X.2.1 d_By_isPrintable_1 rfl hl (by decide) rfl (fun ls hl => ?_)
  refine lv_iload_n X.1 X.2.1 d_By_isPrintable_2 rfl (lv_at hl 0 rfl) ?_
  refine lv_iload_n X.1 X.2.1 d_By_isPrintable_3 rfl (lv_at hl 3 rfl) ?_
  refine lv_icmp_ge (tgt := 36) X.1 X.2.1 d_By_isPrintable_4 (by decide) (fun c1 => ?_) (fun c1 => absurd ?_ c1)
  rotate_left
  · (rw [nI_leI (by omega) (by omega)] <;> omega)
  rw [nI_leI (by omega) (by omega)] at c1
  refine lv_iconst (v := (nI 1)) X.1 X.2.1 d_By_isPrintable_36 (by decide) ?_
  exact c_retz hQQ X Y hr hlk rfl ⟨rfl, (fun _ => rfl), rfl⟩ d_By_isPrintable_37
