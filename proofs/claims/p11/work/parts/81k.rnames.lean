abbrev b_M_heard : ByteArray := prog_14_method_152_code
def y_M_heard : MethodName := ⟨R_M, "heard", "(II)I"⟩
abbrev k_M_heard : Cond := .code y_M_heard b_M_heard 4 (some .int)
theorem ki_M_heard : k_M_heard ∈ lw_tg := in_t 2853 (by decide +kernel)
theorem ks_M_heard : Cond.instanceMethod y_M_heard ∈ lw_tg := in_t 2852 (by decide +kernel)
theorem kx_M_heard : Cond.selects R_M y_M_heard y_M_heard ∈ lw_tg := List.mem_filter.mpr ⟨List.mem_append_left _ (List.mem_of_getElem? (i := 187) (by decide +kernel)), rfl⟩
theorem kl_M_heard : Cond.methodLink R_M 1000 y_M_heard ∈ lw_tg := in_t 2850 (by decide +kernel)
theorem hd_M_heard : y_M_heard.cls = R_M ∧ y_M_heard.cls ≠ "java/lang/invoke/MethodHandle" ∧ y_M_heard.cls ≠ "java/lang/invoke/VarHandle" ∧ (parseMethodDescriptor y_M_heard.desc).map (fun d => d.parameters.length) = some 2 := by decide +kernel
theorem d_M_heard_0 : decode b_M_heard 0 = .ok (.aload_n 0, 1) := by decide +kernel
theorem d_M_heard_1 : decode b_M_heard 1 = .ok (.iconst 4, 1) := by decide +kernel
theorem d_M_heard_2 : decode b_M_heard 2 = .ok (.iconst 1, 1) := by decide +kernel
theorem d_M_heard_3 : decode b_M_heard 3 = .ok (.invokevirtual 675, 3) := by decide +kernel
theorem d_M_heard_6 : decode b_M_heard 6 = .ok (.ifCond .eq 22, 3) := by decide +kernel
theorem d_M_heard_9 : decode b_M_heard 9 = .ok (.aload_n 0, 1) := by decide +kernel
theorem d_M_heard_10 : decode b_M_heard 10 = .ok (.aload_n 0, 1) := by decide +kernel
theorem d_M_heard_11 : decode b_M_heard 11 = .ok (.iconst 4, 1) := by decide +kernel
theorem d_M_heard_12 : decode b_M_heard 12 = .ok (.iconst 1, 1) := by decide +kernel
theorem d_M_heard_13 : decode b_M_heard 13 = .ok (.invokevirtual 731, 3) := by decide +kernel
theorem d_M_heard_16 : decode b_M_heard 16 = .ok (.aload_n 0, 1) := by decide +kernel
theorem d_M_heard_17 : decode b_M_heard 17 = .ok (.iload_n 1, 1) := by decide +kernel
theorem d_M_heard_18 : decode b_M_heard 18 = .ok (.iload_n 2, 1) := by decide +kernel
theorem d_M_heard_19 : decode b_M_heard 19 = .ok (.invokevirtual 987, 3) := by decide +kernel
theorem d_M_heard_22 : decode b_M_heard 22 = .ok (.invokevirtual 771, 3) := by decide +kernel
theorem d_M_heard_25 : decode b_M_heard 25 = .ok (.ifCond .eq 6, 3) := by decide +kernel
theorem d_M_heard_28 : decode b_M_heard 28 = .ok (.bipush (-37), 2) := by decide +kernel
theorem d_M_heard_30 : decode b_M_heard 30 = .ok (.ireturn, 1) := by decide +kernel
theorem d_M_heard_31 : decode b_M_heard 31 = .ok (.aload_n 0, 1) := by decide +kernel
theorem d_M_heard_32 : decode b_M_heard 32 = .ok (.ldc_w 518, 3) := by decide +kernel
theorem d_M_heard_35 : decode b_M_heard 35 = .ok (.aload_n 0, 1) := by decide +kernel
theorem d_M_heard_36 : decode b_M_heard 36 = .ok (.iconst 4, 1) := by decide +kernel
theorem d_M_heard_37 : decode b_M_heard 37 = .ok (.iconst 4, 1) := by decide +kernel
theorem d_M_heard_38 : decode b_M_heard 38 = .ok (.invokevirtual 536, 3) := by decide +kernel
theorem d_M_heard_41 : decode b_M_heard 41 = .ok (.aload_n 0, 1) := by decide +kernel
theorem d_M_heard_42 : decode b_M_heard 42 = .ok (.iconst 4, 1) := by decide +kernel
theorem d_M_heard_43 : decode b_M_heard 43 = .ok (.iconst 4, 1) := by decide +kernel
theorem d_M_heard_44 : decode b_M_heard 44 = .ok (.invokevirtual 539, 3) := by decide +kernel
theorem d_M_heard_47 : decode b_M_heard 47 = .ok (.bipush 7, 2) := by decide +kernel
theorem d_M_heard_49 : decode b_M_heard 49 = .ok (.invokevirtual 487, 3) := by decide +kernel
theorem d_M_heard_52 : decode b_M_heard 52 = .ok (.pop, 1) := by decide +kernel
theorem d_M_heard_53 : decode b_M_heard 53 = .ok (.aload_n 0, 1) := by decide +kernel
theorem d_M_heard_54 : decode b_M_heard 54 = .ok (.aload_n 0, 1) := by decide +kernel
theorem d_M_heard_55 : decode b_M_heard 55 = .ok (.bipush 7, 2) := by decide +kernel
theorem d_M_heard_57 : decode b_M_heard 57 = .ok (.iconst 1, 1) := by decide +kernel
theorem d_M_heard_58 : decode b_M_heard 58 = .ok (.invokevirtual 536, 3) := by decide +kernel
theorem d_M_heard_61 : decode b_M_heard 61 = .ok (.aload_n 0, 1) := by decide +kernel
theorem d_M_heard_62 : decode b_M_heard 62 = .ok (.bipush 7, 2) := by decide +kernel
theorem d_M_heard_64 : decode b_M_heard 64 = .ok (.iconst 1, 1) := by decide +kernel
theorem d_M_heard_65 : decode b_M_heard 65 = .ok (.invokevirtual 539, 3) := by decide +kernel
theorem d_M_heard_68 : decode b_M_heard 68 = .ok (.iconst 4, 1) := by decide +kernel
theorem d_M_heard_69 : decode b_M_heard 69 = .ok (.invokevirtual 476, 3) := by decide +kernel
theorem d_M_heard_72 : decode b_M_heard 72 = .ok (.pop, 1) := by decide +kernel
theorem d_M_heard_73 : decode b_M_heard 73 = .ok (.aload_n 0, 1) := by decide +kernel
theorem d_M_heard_74 : decode b_M_heard 74 = .ok (.getfield 473, 3) := by decide +kernel
theorem d_M_heard_77 : decode b_M_heard 77 = .ok (.aload_n 0, 1) := by decide +kernel
theorem d_M_heard_78 : decode b_M_heard 78 = .ok (.getfield 470, 3) := by decide +kernel
theorem d_M_heard_81 : decode b_M_heard 81 = .ok (.isub, 1) := by decide +kernel
theorem d_M_heard_82 : decode b_M_heard 82 = .ok (.iconst 4, 1) := by decide +kernel
theorem d_M_heard_83 : decode b_M_heard 83 = .ok (.if_icmp .ne 66, 3) := by decide +kernel
theorem d_M_heard_86 : decode b_M_heard 86 = .ok (.aload_n 0, 1) := by decide +kernel
theorem d_M_heard_87 : decode b_M_heard 87 = .ok (.getfield 10, 3) := by decide +kernel
theorem d_M_heard_90 : decode b_M_heard 90 = .ok (.aload_n 0, 1) := by decide +kernel
theorem d_M_heard_91 : decode b_M_heard 91 = .ok (.getfield 470, 3) := by decide +kernel
theorem d_M_heard_94 : decode b_M_heard 94 = .ok (.baload, 1) := by decide +kernel
theorem d_M_heard_95 : decode b_M_heard 95 = .ok (.bipush 10, 2) := by decide +kernel
theorem d_M_heard_97 : decode b_M_heard 97 = .ok (.if_icmp .ne 52, 3) := by decide +kernel
theorem d_M_heard_100 : decode b_M_heard 100 = .ok (.aload_n 0, 1) := by decide +kernel
theorem d_M_heard_101 : decode b_M_heard 101 = .ok (.getfield 10, 3) := by decide +kernel
theorem d_M_heard_104 : decode b_M_heard 104 = .ok (.aload_n 0, 1) := by decide +kernel
theorem d_M_heard_105 : decode b_M_heard 105 = .ok (.getfield 470, 3) := by decide +kernel
theorem d_M_heard_108 : decode b_M_heard 108 = .ok (.iconst 1, 1) := by decide +kernel
theorem d_M_heard_109 : decode b_M_heard 109 = .ok (.iadd, 1) := by decide +kernel
theorem d_M_heard_110 : decode b_M_heard 110 = .ok (.baload, 1) := by decide +kernel
theorem d_M_heard_111 : decode b_M_heard 111 = .ok (.ifCond .ne 38, 3) := by decide +kernel
theorem d_M_heard_114 : decode b_M_heard 114 = .ok (.aload_n 0, 1) := by decide +kernel
theorem d_M_heard_115 : decode b_M_heard 115 = .ok (.getfield 10, 3) := by decide +kernel
theorem d_M_heard_118 : decode b_M_heard 118 = .ok (.aload_n 0, 1) := by decide +kernel
theorem d_M_heard_119 : decode b_M_heard 119 = .ok (.getfield 470, 3) := by decide +kernel
theorem d_M_heard_122 : decode b_M_heard 122 = .ok (.iconst 2, 1) := by decide +kernel
theorem d_M_heard_123 : decode b_M_heard 123 = .ok (.iadd, 1) := by decide +kernel
theorem d_M_heard_124 : decode b_M_heard 124 = .ok (.baload, 1) := by decide +kernel
theorem d_M_heard_125 : decode b_M_heard 125 = .ok (.ifCond .ne 24, 3) := by decide +kernel
theorem d_M_heard_128 : decode b_M_heard 128 = .ok (.aload_n 0, 1) := by decide +kernel
theorem d_M_heard_129 : decode b_M_heard 129 = .ok (.getfield 10, 3) := by decide +kernel
theorem d_M_heard_132 : decode b_M_heard 132 = .ok (.aload_n 0, 1) := by decide +kernel
theorem d_M_heard_133 : decode b_M_heard 133 = .ok (.getfield 470, 3) := by decide +kernel
theorem d_M_heard_136 : decode b_M_heard 136 = .ok (.iconst 3, 1) := by decide +kernel
theorem d_M_heard_137 : decode b_M_heard 137 = .ok (.iadd, 1) := by decide +kernel
theorem d_M_heard_138 : decode b_M_heard 138 = .ok (.baload, 1) := by decide +kernel
theorem d_M_heard_139 : decode b_M_heard 139 = .ok (.iconst 1, 1) := by decide +kernel
theorem d_M_heard_140 : decode b_M_heard 140 = .ok (.iload_n 2, 1) := by decide +kernel
theorem d_M_heard_141 : decode b_M_heard 141 = .ok (.isub, 1) := by decide +kernel
theorem d_M_heard_142 : decode b_M_heard 142 = .ok (.if_icmp .ne 7, 3) := by decide +kernel
theorem d_M_heard_145 : decode b_M_heard 145 = .ok (.iconst 1, 1) := by decide +kernel
theorem d_M_heard_146 : decode b_M_heard 146 = .ok (.goto 4, 3) := by decide +kernel
theorem d_M_heard_149 : decode b_M_heard 149 = .ok (.iconst 0, 1) := by decide +kernel
theorem d_M_heard_150 : decode b_M_heard 150 = .ok (.istore_n 3, 1) := by decide +kernel
theorem d_M_heard_151 : decode b_M_heard 151 = .ok (.iload_n 3, 1) := by decide +kernel
theorem d_M_heard_152 : decode b_M_heard 152 = .ok (.ifCond .eq 17, 3) := by decide +kernel
theorem d_M_heard_155 : decode b_M_heard 155 = .ok (.aload_n 0, 1) := by decide +kernel
theorem d_M_heard_156 : decode b_M_heard 156 = .ok (.bipush 7, 2) := by decide +kernel
theorem d_M_heard_158 : decode b_M_heard 158 = .ok (.iconst 0, 1) := by decide +kernel
theorem d_M_heard_159 : decode b_M_heard 159 = .ok (.invokevirtual 665, 3) := by decide +kernel
theorem d_M_heard_162 : decode b_M_heard 162 = .ok (.ldc2_w 810, 3) := by decide +kernel
theorem d_M_heard_165 : decode b_M_heard 165 = .ok (.lcmp, 1) := by decide +kernel
theorem d_M_heard_166 : decode b_M_heard 166 = .ok (.ifCond .eq 6, 3) := by decide +kernel
theorem d_M_heard_169 : decode b_M_heard 169 = .ok (.bipush (-38), 2) := by decide +kernel
theorem d_M_heard_171 : decode b_M_heard 171 = .ok (.ireturn, 1) := by decide +kernel
theorem d_M_heard_172 : decode b_M_heard 172 = .ok (.aload_n 0, 1) := by decide +kernel
theorem d_M_heard_173 : decode b_M_heard 173 = .ok (.iconst 4, 1) := by decide +kernel
theorem d_M_heard_174 : decode b_M_heard 174 = .ok (.iconst 3, 1) := by decide +kernel
theorem d_M_heard_175 : decode b_M_heard 175 = .ok (.invokevirtual 675, 3) := by decide +kernel
theorem d_M_heard_178 : decode b_M_heard 178 = .ok (.ifCond .eq 23, 3) := by decide +kernel
theorem d_M_heard_181 : decode b_M_heard 181 = .ok (.aload_n 0, 1) := by decide +kernel
theorem d_M_heard_182 : decode b_M_heard 182 = .ok (.iconst 4, 1) := by decide +kernel
theorem d_M_heard_183 : decode b_M_heard 183 = .ok (.iconst 3, 1) := by decide +kernel
theorem d_M_heard_184 : decode b_M_heard 184 = .ok (.invokevirtual 665, 3) := by decide +kernel
theorem d_M_heard_187 : decode b_M_heard 187 = .ok (.aload_n 0, 1) := by decide +kernel
theorem d_M_heard_188 : decode b_M_heard 188 = .ok (.getfield 305, 3) := by decide +kernel
theorem d_M_heard_191 : decode b_M_heard 191 = .ok (.iconst 2, 1) := by decide +kernel
theorem d_M_heard_192 : decode b_M_heard 192 = .ok (.iload_n 1, 1) := by decide +kernel
theorem d_M_heard_193 : decode b_M_heard 193 = .ok (.imul, 1) := by decide +kernel
theorem d_M_heard_194 : decode b_M_heard 194 = .ok (.iload_n 2, 1) := by decide +kernel
theorem d_M_heard_195 : decode b_M_heard 195 = .ok (.iadd, 1) := by decide +kernel
theorem d_M_heard_196 : decode b_M_heard 196 = .ok (.laload, 1) := by decide +kernel
theorem d_M_heard_197 : decode b_M_heard 197 = .ok (.lcmp, 1) := by decide +kernel
theorem d_M_heard_198 : decode b_M_heard 198 = .ok (.ifCond .eq 6, 3) := by decide +kernel
theorem d_M_heard_201 : decode b_M_heard 201 = .ok (.bipush (-42), 2) := by decide +kernel
theorem d_M_heard_203 : decode b_M_heard 203 = .ok (.ireturn, 1) := by decide +kernel
theorem d_M_heard_204 : decode b_M_heard 204 = .ok (.aload_n 0, 1) := by decide +kernel
theorem d_M_heard_205 : decode b_M_heard 205 = .ok (.getfield 305, 3) := by decide +kernel
theorem d_M_heard_208 : decode b_M_heard 208 = .ok (.iconst 2, 1) := by decide +kernel
theorem d_M_heard_209 : decode b_M_heard 209 = .ok (.iload_n 1, 1) := by decide +kernel
theorem d_M_heard_210 : decode b_M_heard 210 = .ok (.imul, 1) := by decide +kernel
theorem d_M_heard_211 : decode b_M_heard 211 = .ok (.iload_n 2, 1) := by decide +kernel
theorem d_M_heard_212 : decode b_M_heard 212 = .ok (.iadd, 1) := by decide +kernel
theorem d_M_heard_213 : decode b_M_heard 213 = .ok (.aload_n 0, 1) := by decide +kernel
theorem d_M_heard_214 : decode b_M_heard 214 = .ok (.getfield 305, 3) := by decide +kernel
theorem d_M_heard_217 : decode b_M_heard 217 = .ok (.iconst 2, 1) := by decide +kernel
theorem d_M_heard_218 : decode b_M_heard 218 = .ok (.iload_n 1, 1) := by decide +kernel
theorem d_M_heard_219 : decode b_M_heard 219 = .ok (.imul, 1) := by decide +kernel
theorem d_M_heard_220 : decode b_M_heard 220 = .ok (.iload_n 2, 1) := by decide +kernel
theorem d_M_heard_221 : decode b_M_heard 221 = .ok (.iadd, 1) := by decide +kernel
theorem d_M_heard_222 : decode b_M_heard 222 = .ok (.laload, 1) := by decide +kernel
theorem d_M_heard_223 : decode b_M_heard 223 = .ok (.lconst 1, 1) := by decide +kernel
theorem d_M_heard_224 : decode b_M_heard 224 = .ok (.ladd, 1) := by decide +kernel
theorem d_M_heard_225 : decode b_M_heard 225 = .ok (.ldc2_w 503, 3) := by decide +kernel
theorem d_M_heard_228 : decode b_M_heard 228 = .ok (.land, 1) := by decide +kernel
theorem d_M_heard_229 : decode b_M_heard 229 = .ok (.lastore, 1) := by decide +kernel
theorem d_M_heard_230 : decode b_M_heard 230 = .ok (.aload_n 0, 1) := by decide +kernel
theorem d_M_heard_231 : decode b_M_heard 231 = .ok (.aload_n 0, 1) := by decide +kernel
theorem d_M_heard_232 : decode b_M_heard 232 = .ok (.iconst 4, 1) := by decide +kernel
theorem d_M_heard_233 : decode b_M_heard 233 = .ok (.iconst 0, 1) := by decide +kernel
theorem d_M_heard_234 : decode b_M_heard 234 = .ok (.invokevirtual 536, 3) := by decide +kernel
theorem d_M_heard_237 : decode b_M_heard 237 = .ok (.aload_n 0, 1) := by decide +kernel
theorem d_M_heard_238 : decode b_M_heard 238 = .ok (.iconst 4, 1) := by decide +kernel
theorem d_M_heard_239 : decode b_M_heard 239 = .ok (.iconst 0, 1) := by decide +kernel
theorem d_M_heard_240 : decode b_M_heard 240 = .ok (.invokevirtual 539, 3) := by decide +kernel
theorem d_M_heard_243 : decode b_M_heard 243 = .ok (.iconst 4, 1) := by decide +kernel
theorem d_M_heard_244 : decode b_M_heard 244 = .ok (.invokevirtual 476, 3) := by decide +kernel
theorem d_M_heard_247 : decode b_M_heard 247 = .ok (.pop, 1) := by decide +kernel
theorem d_M_heard_248 : decode b_M_heard 248 = .ok (.aload_n 0, 1) := by decide +kernel
theorem d_M_heard_249 : decode b_M_heard 249 = .ok (.aload_n 0, 1) := by decide +kernel
theorem d_M_heard_250 : decode b_M_heard 250 = .ok (.getfield 470, 3) := by decide +kernel
theorem d_M_heard_253 : decode b_M_heard 253 = .ok (.aload_n 0, 1) := by decide +kernel
theorem d_M_heard_254 : decode b_M_heard 254 = .ok (.getfield 473, 3) := by decide +kernel
theorem d_M_heard_257 : decode b_M_heard 257 = .ok (.invokevirtual 598, 3) := by decide +kernel
theorem d_M_heard_260 : decode b_M_heard 260 = .ok (.aload_n 0, 1) := by decide +kernel
theorem d_M_heard_261 : decode b_M_heard 261 = .ok (.getfield 348, 3) := by decide +kernel
theorem d_M_heard_264 : decode b_M_heard 264 = .ok (.ireturn, 1) := by decide +kernel
abbrev b_M_ends : ByteArray := prog_14_method_153_code
def y_M_ends : MethodName := ⟨R_M, "ends", "(I)Z"⟩
abbrev k_M_ends : Cond := .code y_M_ends b_M_ends 2 (some .boolean)
theorem ki_M_ends : k_M_ends ∈ lw_tg := in_t 2857 (by decide +kernel)
theorem ks_M_ends : Cond.instanceMethod y_M_ends ∈ lw_tg := in_t 2855 (by decide +kernel)
theorem kx_M_ends : Cond.selects R_M y_M_ends y_M_ends ∈ lw_tg := in_t 2856 (by decide +kernel)
theorem hd_M_ends : y_M_ends.cls = R_M ∧ y_M_ends.cls ≠ "java/lang/invoke/MethodHandle" ∧ y_M_ends.cls ≠ "java/lang/invoke/VarHandle" ∧ (parseMethodDescriptor y_M_ends.desc).map (fun d => d.parameters.length) = some 1 := by decide +kernel
theorem d_M_ends_0 : decode b_M_ends 0 = .ok (.iload_n 1, 1) := by decide +kernel
theorem d_M_ends_1 : decode b_M_ends 1 = .ok (.ifCond .lt 18, 3) := by decide +kernel
theorem d_M_ends_4 : decode b_M_ends 4 = .ok (.iload_n 1, 1) := by decide +kernel
theorem d_M_ends_5 : decode b_M_ends 5 = .ok (.bipush 7, 2) := by decide +kernel
theorem d_M_ends_7 : decode b_M_ends 7 = .ok (.if_icmp .gt 12, 3) := by decide +kernel
theorem d_M_ends_10 : decode b_M_ends 10 = .ok (.aload_n 0, 1) := by decide +kernel
theorem d_M_ends_11 : decode b_M_ends 11 = .ok (.getfield 290, 3) := by decide +kernel
theorem d_M_ends_14 : decode b_M_ends 14 = .ok (.iload_n 1, 1) := by decide +kernel
theorem d_M_ends_15 : decode b_M_ends 15 = .ok (.baload, 1) := by decide +kernel
theorem d_M_ends_16 : decode b_M_ends 16 = .ok (.ifCond .ne 5, 3) := by decide +kernel
theorem d_M_ends_19 : decode b_M_ends 19 = .ok (.iconst 0, 1) := by decide +kernel
theorem d_M_ends_20 : decode b_M_ends 20 = .ok (.ireturn, 1) := by decide +kernel
theorem d_M_ends_21 : decode b_M_ends 21 = .ok (.aload_n 0, 1) := by decide +kernel
theorem d_M_ends_22 : decode b_M_ends 22 = .ok (.getfield 290, 3) := by decide +kernel
theorem d_M_ends_25 : decode b_M_ends 25 = .ok (.iload_n 1, 1) := by decide +kernel
theorem d_M_ends_26 : decode b_M_ends 26 = .ok (.iconst 0, 1) := by decide +kernel
theorem d_M_ends_27 : decode b_M_ends 27 = .ok (.bastore, 1) := by decide +kernel
theorem d_M_ends_28 : decode b_M_ends 28 = .ok (.iconst 1, 1) := by decide +kernel
theorem d_M_ends_29 : decode b_M_ends 29 = .ok (.ireturn, 1) := by decide +kernel
abbrev b_M_assure : ByteArray := prog_14_method_154_code
def y_M_assure : MethodName := ⟨R_M, "assure", "(II)I"⟩
abbrev k_M_assure : Cond := .code y_M_assure b_M_assure 7 (some .int)
theorem ki_M_assure : k_M_assure ∈ lw_tg := in_t 2861 (by decide +kernel)
theorem ks_M_assure : Cond.instanceMethod y_M_assure ∈ lw_tg := in_t 2859 (by decide +kernel)
theorem kx_M_assure : Cond.selects R_M y_M_assure y_M_assure ∈ lw_tg := in_t 2860 (by decide +kernel)
theorem hd_M_assure : y_M_assure.cls = R_M ∧ y_M_assure.cls ≠ "java/lang/invoke/MethodHandle" ∧ y_M_assure.cls ≠ "java/lang/invoke/VarHandle" ∧ (parseMethodDescriptor y_M_assure.desc).map (fun d => d.parameters.length) = some 2 := by decide +kernel
theorem d_M_assure_0 : decode b_M_assure 0 = .ok (.aload_n 0, 1) := by decide +kernel
theorem d_M_assure_1 : decode b_M_assure 1 = .ok (.getfield 332, 3) := by decide +kernel
theorem d_M_assure_4 : decode b_M_assure 4 = .ok (.istore_n 3, 1) := by decide +kernel
theorem d_M_assure_5 : decode b_M_assure 5 = .ok (.aload_n 0, 1) := by decide +kernel
theorem d_M_assure_6 : decode b_M_assure 6 = .ok (.iload_n 1, 1) := by decide +kernel
theorem d_M_assure_7 : decode b_M_assure 7 = .ok (.iload_n 2, 1) := by decide +kernel
theorem d_M_assure_8 : decode b_M_assure 8 = .ok (.invokevirtual 990, 3) := by decide +kernel
theorem d_M_assure_11 : decode b_M_assure 11 = .ok (.ifCond .eq 14, 3) := by decide +kernel
theorem d_M_assure_14 : decode b_M_assure 14 = .ok (.iload_n 3, 1) := by decide +kernel
theorem d_M_assure_15 : decode b_M_assure 15 = .ok (.sipush 1000, 3) := by decide +kernel
theorem d_M_assure_18 : decode b_M_assure 18 = .ok (.if_icmp .gt 7, 3) := by decide +kernel
theorem d_M_assure_21 : decode b_M_assure 21 = .ok (.iconst 1, 1) := by decide +kernel
theorem d_M_assure_22 : decode b_M_assure 22 = .ok (.goto 4, 3) := by decide +kernel
theorem d_M_assure_25 : decode b_M_assure 25 = .ok (.iconst 0, 1) := by decide +kernel
theorem d_M_assure_26 : decode b_M_assure 26 = .ok (.istore 4, 2) := by decide +kernel
theorem d_M_assure_28 : decode b_M_assure 28 = .ok (.aload_n 0, 1) := by decide +kernel
theorem d_M_assure_29 : decode b_M_assure 29 = .ok (.iconst 0, 1) := by decide +kernel
theorem d_M_assure_30 : decode b_M_assure 30 = .ok (.putfield 332, 3) := by decide +kernel
theorem d_M_assure_33 : decode b_M_assure 33 = .ok (.iload 4, 2) := by decide +kernel
theorem d_M_assure_35 : decode b_M_assure 35 = .ok (.ifCond .ne 5, 3) := by decide +kernel
theorem d_M_assure_38 : decode b_M_assure 38 = .ok (.iconst (-1), 1) := by decide +kernel
theorem d_M_assure_39 : decode b_M_assure 39 = .ok (.ireturn, 1) := by decide +kernel
theorem d_M_assure_40 : decode b_M_assure 40 = .ok (.aload_n 0, 1) := by decide +kernel
theorem d_M_assure_41 : decode b_M_assure 41 = .ok (.invokevirtual 861, 3) := by decide +kernel
theorem d_M_assure_44 : decode b_M_assure 44 = .ok (.aload_n 0, 1) := by decide +kernel
theorem d_M_assure_45 : decode b_M_assure 45 = .ok (.iload_n 1, 1) := by decide +kernel
theorem d_M_assure_46 : decode b_M_assure 46 = .ok (.iload_n 2, 1) := by decide +kernel
theorem d_M_assure_47 : decode b_M_assure 47 = .ok (.iload_n 3, 1) := by decide +kernel
theorem d_M_assure_48 : decode b_M_assure 48 = .ok (.invokevirtual 993, 3) := by decide +kernel
theorem d_M_assure_51 : decode b_M_assure 51 = .ok (.ldc 9, 2) := by decide +kernel
theorem d_M_assure_53 : decode b_M_assure 53 = .ok (.aload_n 0, 1) := by decide +kernel
theorem d_M_assure_54 : decode b_M_assure 54 = .ok (.getfield 553, 3) := by decide +kernel
theorem d_M_assure_57 : decode b_M_assure 57 = .ok (.isub, 1) := by decide +kernel
theorem d_M_assure_58 : decode b_M_assure 58 = .ok (.istore 5, 2) := by decide +kernel
theorem d_M_assure_60 : decode b_M_assure 60 = .ok (.iconst 0, 1) := by decide +kernel
theorem d_M_assure_61 : decode b_M_assure 61 = .ok (.istore 6, 2) := by decide +kernel
theorem d_M_assure_63 : decode b_M_assure 63 = .ok (.iload 6, 2) := by decide +kernel
theorem d_M_assure_65 : decode b_M_assure 65 = .ok (.iload 5, 2) := by decide +kernel
theorem d_M_assure_67 : decode b_M_assure 67 = .ok (.if_icmp .ge 32, 3) := by decide +kernel
theorem d_M_assure_70 : decode b_M_assure 70 = .ok (.aload_n 0, 1) := by decide +kernel
theorem d_M_assure_71 : decode b_M_assure 71 = .ok (.getfield 10, 3) := by decide +kernel
theorem d_M_assure_74 : decode b_M_assure 74 = .ok (.sipush 22200, 3) := by decide +kernel
theorem d_M_assure_77 : decode b_M_assure 77 = .ok (.iload 6, 2) := by decide +kernel
theorem d_M_assure_79 : decode b_M_assure 79 = .ok (.iadd, 1) := by decide +kernel
theorem d_M_assure_80 : decode b_M_assure 80 = .ok (.aload_n 0, 1) := by decide +kernel
theorem d_M_assure_81 : decode b_M_assure 81 = .ok (.getfield 10, 3) := by decide +kernel
theorem d_M_assure_84 : decode b_M_assure 84 = .ok (.aload_n 0, 1) := by decide +kernel
theorem d_M_assure_85 : decode b_M_assure 85 = .ok (.getfield 553, 3) := by decide +kernel
theorem d_M_assure_88 : decode b_M_assure 88 = .ok (.iload 6, 2) := by decide +kernel
theorem d_M_assure_90 : decode b_M_assure 90 = .ok (.iadd, 1) := by decide +kernel
theorem d_M_assure_91 : decode b_M_assure 91 = .ok (.baload, 1) := by decide +kernel
theorem d_M_assure_92 : decode b_M_assure 92 = .ok (.bastore, 1) := by decide +kernel
theorem d_M_assure_93 : decode b_M_assure 93 = .ok (.iinc 6 1, 3) := by decide +kernel
theorem d_M_assure_96 : decode b_M_assure 96 = .ok (.goto (-33), 3) := by decide +kernel
theorem d_M_assure_99 : decode b_M_assure 99 = .ok (.iconst 0, 1) := by decide +kernel
theorem d_M_assure_100 : decode b_M_assure 100 = .ok (.istore 6, 2) := by decide +kernel
theorem d_M_assure_102 : decode b_M_assure 102 = .ok (.iload 6, 2) := by decide +kernel
theorem d_M_assure_104 : decode b_M_assure 104 = .ok (.bipush 32, 2) := by decide +kernel
theorem d_M_assure_106 : decode b_M_assure 106 = .ok (.if_icmp .ge 28, 3) := by decide +kernel
theorem d_M_assure_109 : decode b_M_assure 109 = .ok (.aload_n 0, 1) := by decide +kernel
theorem d_M_assure_110 : decode b_M_assure 110 = .ok (.getfield 137, 3) := by decide +kernel
theorem d_M_assure_113 : decode b_M_assure 113 = .ok (.iload 6, 2) := by decide +kernel
theorem d_M_assure_115 : decode b_M_assure 115 = .ok (.aload_n 0, 1) := by decide +kernel
theorem d_M_assure_116 : decode b_M_assure 116 = .ok (.getfield 299, 3) := by decide +kernel
theorem d_M_assure_119 : decode b_M_assure 119 = .ok (.bipush 32, 2) := by decide +kernel
theorem d_M_assure_121 : decode b_M_assure 121 = .ok (.iload_n 1, 1) := by decide +kernel
theorem d_M_assure_122 : decode b_M_assure 122 = .ok (.imul, 1) := by decide +kernel
theorem d_M_assure_123 : decode b_M_assure 123 = .ok (.iload 6, 2) := by decide +kernel
theorem d_M_assure_125 : decode b_M_assure 125 = .ok (.iadd, 1) := by decide +kernel
theorem d_M_assure_126 : decode b_M_assure 126 = .ok (.baload, 1) := by decide +kernel
theorem d_M_assure_127 : decode b_M_assure 127 = .ok (.bastore, 1) := by decide +kernel
theorem d_M_assure_128 : decode b_M_assure 128 = .ok (.iinc 6 1, 3) := by decide +kernel
theorem d_M_assure_131 : decode b_M_assure 131 = .ok (.goto (-29), 3) := by decide +kernel
theorem d_M_assure_134 : decode b_M_assure 134 = .ok (.aload_n 0, 1) := by decide +kernel
theorem d_M_assure_135 : decode b_M_assure 135 = .ok (.aload_n 0, 1) := by decide +kernel
theorem d_M_assure_136 : decode b_M_assure 136 = .ok (.getfield 137, 3) := by decide +kernel
theorem d_M_assure_139 : decode b_M_assure 139 = .ok (.aload_n 0, 1) := by decide +kernel
theorem d_M_assure_140 : decode b_M_assure 140 = .ok (.getfield 293, 3) := by decide +kernel
theorem d_M_assure_143 : decode b_M_assure 143 = .ok (.iload_n 1, 1) := by decide +kernel
theorem d_M_assure_144 : decode b_M_assure 144 = .ok (.iaload, 1) := by decide +kernel
theorem d_M_assure_145 : decode b_M_assure 145 = .ok (.bipush 15, 2) := by decide +kernel
theorem d_M_assure_147 : decode b_M_assure 147 = .ok (.sipush 22200, 3) := by decide +kernel
theorem d_M_assure_150 : decode b_M_assure 150 = .ok (.sipush 22200, 3) := by decide +kernel
theorem d_M_assure_153 : decode b_M_assure 153 = .ok (.iload 5, 2) := by decide +kernel
theorem d_M_assure_155 : decode b_M_assure 155 = .ok (.iadd, 1) := by decide +kernel
theorem d_M_assure_156 : decode b_M_assure 156 = .ok (.invokevirtual 812, 3) := by decide +kernel
theorem d_M_assure_159 : decode b_M_assure 159 = .ok (.iconst 0, 1) := by decide +kernel
theorem d_M_assure_160 : decode b_M_assure 160 = .ok (.istore 6, 2) := by decide +kernel
theorem d_M_assure_162 : decode b_M_assure 162 = .ok (.iload 6, 2) := by decide +kernel
theorem d_M_assure_164 : decode b_M_assure 164 = .ok (.bipush 12, 2) := by decide +kernel
theorem d_M_assure_166 : decode b_M_assure 166 = .ok (.if_icmp .ge 23, 3) := by decide +kernel
theorem d_M_assure_169 : decode b_M_assure 169 = .ok (.aload_n 0, 1) := by decide +kernel
theorem d_M_assure_170 : decode b_M_assure 170 = .ok (.getfield 287, 3) := by decide +kernel
theorem d_M_assure_173 : decode b_M_assure 173 = .ok (.iload 6, 2) := by decide +kernel
theorem d_M_assure_175 : decode b_M_assure 175 = .ok (.aload_n 0, 1) := by decide +kernel
theorem d_M_assure_176 : decode b_M_assure 176 = .ok (.getfield 35, 3) := by decide +kernel
theorem d_M_assure_179 : decode b_M_assure 179 = .ok (.iload 6, 2) := by decide +kernel
theorem d_M_assure_181 : decode b_M_assure 181 = .ok (.baload, 1) := by decide +kernel
theorem d_M_assure_182 : decode b_M_assure 182 = .ok (.bastore, 1) := by decide +kernel
theorem d_M_assure_183 : decode b_M_assure 183 = .ok (.iinc 6 1, 3) := by decide +kernel
theorem d_M_assure_186 : decode b_M_assure 186 = .ok (.goto (-24), 3) := by decide +kernel
theorem d_M_assure_189 : decode b_M_assure 189 = .ok (.aload_n 0, 1) := by decide +kernel
theorem d_M_assure_190 : decode b_M_assure 190 = .ok (.invokevirtual 861, 3) := by decide +kernel
theorem d_M_assure_193 : decode b_M_assure 193 = .ok (.aload_n 0, 1) := by decide +kernel
theorem d_M_assure_194 : decode b_M_assure 194 = .ok (.getfield 553, 3) := by decide +kernel
theorem d_M_assure_197 : decode b_M_assure 197 = .ok (.istore 6, 2) := by decide +kernel
theorem d_M_assure_199 : decode b_M_assure 199 = .ok (.aload_n 0, 1) := by decide +kernel
theorem d_M_assure_200 : decode b_M_assure 200 = .ok (.iconst 1, 1) := by decide +kernel
theorem d_M_assure_201 : decode b_M_assure 201 = .ok (.aload_n 0, 1) := by decide +kernel
theorem d_M_assure_202 : decode b_M_assure 202 = .ok (.getfield 287, 3) := by decide +kernel
theorem d_M_assure_205 : decode b_M_assure 205 = .ok (.iconst 0, 1) := by decide +kernel
theorem d_M_assure_206 : decode b_M_assure 206 = .ok (.bipush 12, 2) := by decide +kernel
theorem d_M_assure_208 : decode b_M_assure 208 = .ok (.invokevirtual 584, 3) := by decide +kernel
theorem d_M_assure_211 : decode b_M_assure 211 = .ok (.aload_n 0, 1) := by decide +kernel
theorem d_M_assure_212 : decode b_M_assure 212 = .ok (.iconst 0, 1) := by decide +kernel
theorem d_M_assure_213 : decode b_M_assure 213 = .ok (.aload_n 0, 1) := by decide +kernel
theorem d_M_assure_214 : decode b_M_assure 214 = .ok (.getfield 293, 3) := by decide +kernel
theorem d_M_assure_217 : decode b_M_assure 217 = .ok (.iload_n 1, 1) := by decide +kernel
theorem d_M_assure_218 : decode b_M_assure 218 = .ok (.iaload, 1) := by decide +kernel
theorem d_M_assure_219 : decode b_M_assure 219 = .ok (.iconst 2, 1) := by decide +kernel
theorem d_M_assure_220 : decode b_M_assure 220 = .ok (.isub, 1) := by decide +kernel
theorem d_M_assure_221 : decode b_M_assure 221 = .ok (.i2l, 1) := by decide +kernel
theorem d_M_assure_222 : decode b_M_assure 222 = .ok (.invokevirtual 588, 3) := by decide +kernel
theorem d_M_assure_225 : decode b_M_assure 225 = .ok (.aload_n 0, 1) := by decide +kernel
theorem d_M_assure_226 : decode b_M_assure 226 = .ok (.bipush 48, 2) := by decide +kernel
theorem d_M_assure_228 : decode b_M_assure 228 = .ok (.iload 6, 2) := by decide +kernel
theorem d_M_assure_230 : decode b_M_assure 230 = .ok (.invokevirtual 559, 3) := by decide +kernel
theorem d_M_assure_233 : decode b_M_assure 233 = .ok (.aload_n 0, 1) := by decide +kernel
theorem d_M_assure_234 : decode b_M_assure 234 = .ok (.iconst 3, 1) := by decide +kernel
theorem d_M_assure_235 : decode b_M_assure 235 = .ok (.iload 6, 2) := by decide +kernel
theorem d_M_assure_237 : decode b_M_assure 237 = .ok (.invokevirtual 567, 3) := by decide +kernel
theorem d_M_assure_240 : decode b_M_assure 240 = .ok (.aload_n 0, 1) := by decide +kernel
theorem d_M_assure_241 : decode b_M_assure 241 = .ok (.iconst 2, 1) := by decide +kernel
theorem d_M_assure_242 : decode b_M_assure 242 = .ok (.sipush 22200, 3) := by decide +kernel
theorem d_M_assure_245 : decode b_M_assure 245 = .ok (.sipush 22200, 3) := by decide +kernel
theorem d_M_assure_248 : decode b_M_assure 248 = .ok (.iload 5, 2) := by decide +kernel
theorem d_M_assure_250 : decode b_M_assure 250 = .ok (.iadd, 1) := by decide +kernel
theorem d_M_assure_251 : decode b_M_assure 251 = .ok (.invokevirtual 874, 3) := by decide +kernel
theorem d_M_assure_254 : decode b_M_assure 254 = .ok (.aload_n 0, 1) := by decide +kernel
theorem d_M_assure_255 : decode b_M_assure 255 = .ok (.iconst 1, 1) := by decide +kernel
theorem d_M_assure_256 : decode b_M_assure 256 = .ok (.ldc2_w 1003, 3) := by decide +kernel
theorem d_M_assure_259 : decode b_M_assure 259 = .ok (.invokevirtual 588, 3) := by decide +kernel
theorem d_M_assure_262 : decode b_M_assure 262 = .ok (.aload_n 0, 1) := by decide +kernel
theorem d_M_assure_263 : decode b_M_assure 263 = .ok (.iconst 0, 1) := by decide +kernel
theorem d_M_assure_264 : decode b_M_assure 264 = .ok (.ldc2_w 669, 3) := by decide +kernel
theorem d_M_assure_267 : decode b_M_assure 267 = .ok (.invokevirtual 588, 3) := by decide +kernel
theorem d_M_assure_270 : decode b_M_assure 270 = .ok (.aload_n 0, 1) := by decide +kernel
theorem d_M_assure_271 : decode b_M_assure 271 = .ok (.bipush 48, 2) := by decide +kernel
theorem d_M_assure_273 : decode b_M_assure 273 = .ok (.ldc 9, 2) := by decide +kernel
theorem d_M_assure_275 : decode b_M_assure 275 = .ok (.invokevirtual 559, 3) := by decide +kernel
theorem d_M_assure_278 : decode b_M_assure 278 = .ok (.aload_n 0, 1) := by decide +kernel
theorem d_M_assure_279 : decode b_M_assure 279 = .ok (.bipush 116, 2) := by decide +kernel
theorem d_M_assure_281 : decode b_M_assure 281 = .ok (.ldc 9, 2) := by decide +kernel
theorem d_M_assure_283 : decode b_M_assure 283 = .ok (.invokevirtual 559, 3) := by decide +kernel
theorem d_M_assure_286 : decode b_M_assure 286 = .ok (.aload_n 0, 1) := by decide +kernel
theorem d_M_assure_287 : decode b_M_assure 287 = .ok (.invokevirtual 905, 3) := by decide +kernel
theorem d_M_assure_290 : decode b_M_assure 290 = .ok (.aload_n 0, 1) := by decide +kernel
theorem d_M_assure_291 : decode b_M_assure 291 = .ok (.getfield 348, 3) := by decide +kernel
theorem d_M_assure_294 : decode b_M_assure 294 = .ok (.ireturn, 1) := by decide +kernel
abbrev b_M_assured : ByteArray := prog_14_method_155_code
def y_M_assured : MethodName := ⟨R_M, "assured", "(II)I"⟩
abbrev k_M_assured : Cond := .code y_M_assured b_M_assured 5 (some .int)
theorem ki_M_assured : k_M_assured ∈ lw_tg := in_t 2866 (by decide +kernel)
theorem ks_M_assured : Cond.instanceMethod y_M_assured ∈ lw_tg := in_t 2864 (by decide +kernel)
theorem kx_M_assured : Cond.selects R_M y_M_assured y_M_assured ∈ lw_tg := in_t 2865 (by decide +kernel)
theorem hd_M_assured : y_M_assured.cls = R_M ∧ y_M_assured.cls ≠ "java/lang/invoke/MethodHandle" ∧ y_M_assured.cls ≠ "java/lang/invoke/VarHandle" ∧ (parseMethodDescriptor y_M_assured.desc).map (fun d => d.parameters.length) = some 2 := by decide +kernel
theorem d_M_assured_0 : decode b_M_assured 0 = .ok (.aload_n 0, 1) := by decide +kernel
theorem d_M_assured_1 : decode b_M_assured 1 = .ok (.getfield 332, 3) := by decide +kernel
theorem d_M_assured_4 : decode b_M_assured 4 = .ok (.istore_n 3, 1) := by decide +kernel
theorem d_M_assured_5 : decode b_M_assured 5 = .ok (.aload_n 0, 1) := by decide +kernel
theorem d_M_assured_6 : decode b_M_assured 6 = .ok (.iconst 0, 1) := by decide +kernel
theorem d_M_assured_7 : decode b_M_assured 7 = .ok (.putfield 332, 3) := by decide +kernel
theorem d_M_assured_10 : decode b_M_assured 10 = .ok (.aload_n 0, 1) := by decide +kernel
theorem d_M_assured_11 : decode b_M_assured 11 = .ok (.iload_n 1, 1) := by decide +kernel
theorem d_M_assured_12 : decode b_M_assured 12 = .ok (.iload_n 2, 1) := by decide +kernel
theorem d_M_assured_13 : decode b_M_assured 13 = .ok (.invokevirtual 990, 3) := by decide +kernel
theorem d_M_assured_16 : decode b_M_assured 16 = .ok (.ifCond .ne 5, 3) := by decide +kernel
theorem d_M_assured_19 : decode b_M_assured 19 = .ok (.iconst (-1), 1) := by decide +kernel
theorem d_M_assured_20 : decode b_M_assured 20 = .ok (.ireturn, 1) := by decide +kernel
theorem d_M_assured_21 : decode b_M_assured 21 = .ok (.aload_n 0, 1) := by decide +kernel
theorem d_M_assured_22 : decode b_M_assured 22 = .ok (.bipush 20, 2) := by decide +kernel
theorem d_M_assured_24 : decode b_M_assured 24 = .ok (.ldc_w 1005, 3) := by decide +kernel
theorem d_M_assured_27 : decode b_M_assured 27 = .ok (.iconst 0, 1) := by decide +kernel
theorem d_M_assured_28 : decode b_M_assured 28 = .ok (.iload_n 3, 1) := by decide +kernel
theorem d_M_assured_29 : decode b_M_assured 29 = .ok (.iconst 0, 1) := by decide +kernel
theorem d_M_assured_30 : decode b_M_assured 30 = .ok (.invokevirtual 522, 3) := by decide +kernel
theorem d_M_assured_33 : decode b_M_assured 33 = .ok (.ifCond .ne 6, 3) := by decide +kernel
theorem d_M_assured_36 : decode b_M_assured 36 = .ok (.bipush (-60), 2) := by decide +kernel
theorem d_M_assured_38 : decode b_M_assured 38 = .ok (.ireturn, 1) := by decide +kernel
theorem d_M_assured_39 : decode b_M_assured 39 = .ok (.aload_n 0, 1) := by decide +kernel
theorem d_M_assured_40 : decode b_M_assured 40 = .ok (.iconst 0, 1) := by decide +kernel
theorem d_M_assured_41 : decode b_M_assured 41 = .ok (.iconst 0, 1) := by decide +kernel
theorem d_M_assured_42 : decode b_M_assured 42 = .ok (.invokevirtual 665, 3) := by decide +kernel
theorem d_M_assured_45 : decode b_M_assured 45 = .ok (.ldc2_w 669, 3) := by decide +kernel
theorem d_M_assured_48 : decode b_M_assured 48 = .ok (.lcmp, 1) := by decide +kernel
theorem d_M_assured_49 : decode b_M_assured 49 = .ok (.ifCond .eq 6, 3) := by decide +kernel
theorem d_M_assured_52 : decode b_M_assured 52 = .ok (.bipush (-3), 2) := by decide +kernel
theorem d_M_assured_54 : decode b_M_assured 54 = .ok (.ireturn, 1) := by decide +kernel
theorem d_M_assured_55 : decode b_M_assured 55 = .ok (.aload_n 0, 1) := by decide +kernel
theorem d_M_assured_56 : decode b_M_assured 56 = .ok (.iconst 0, 1) := by decide +kernel
theorem d_M_assured_57 : decode b_M_assured 57 = .ok (.iconst 1, 1) := by decide +kernel
theorem d_M_assured_58 : decode b_M_assured 58 = .ok (.invokevirtual 665, 3) := by decide +kernel
theorem d_M_assured_61 : decode b_M_assured 61 = .ok (.ldc2_w 1003, 3) := by decide +kernel
theorem d_M_assured_64 : decode b_M_assured 64 = .ok (.lcmp, 1) := by decide +kernel
theorem d_M_assured_65 : decode b_M_assured 65 = .ok (.ifCond .eq 6, 3) := by decide +kernel
theorem d_M_assured_68 : decode b_M_assured 68 = .ok (.bipush (-40), 2) := by decide +kernel
theorem d_M_assured_70 : decode b_M_assured 70 = .ok (.ireturn, 1) := by decide +kernel
theorem d_M_assured_71 : decode b_M_assured 71 = .ok (.aload_n 0, 1) := by decide +kernel
theorem d_M_assured_72 : decode b_M_assured 72 = .ok (.ldc_w 518, 3) := by decide +kernel
theorem d_M_assured_75 : decode b_M_assured 75 = .ok (.aload_n 0, 1) := by decide +kernel
theorem d_M_assured_76 : decode b_M_assured 76 = .ok (.iconst 0, 1) := by decide +kernel
theorem d_M_assured_77 : decode b_M_assured 77 = .ok (.iconst 3, 1) := by decide +kernel
theorem d_M_assured_78 : decode b_M_assured 78 = .ok (.invokevirtual 536, 3) := by decide +kernel
theorem d_M_assured_81 : decode b_M_assured 81 = .ok (.aload_n 0, 1) := by decide +kernel
theorem d_M_assured_82 : decode b_M_assured 82 = .ok (.iconst 0, 1) := by decide +kernel
theorem d_M_assured_83 : decode b_M_assured 83 = .ok (.iconst 3, 1) := by decide +kernel
theorem d_M_assured_84 : decode b_M_assured 84 = .ok (.invokevirtual 539, 3) := by decide +kernel
theorem d_M_assured_87 : decode b_M_assured 87 = .ok (.bipush 8, 2) := by decide +kernel
theorem d_M_assured_89 : decode b_M_assured 89 = .ok (.invokevirtual 487, 3) := by decide +kernel
theorem d_M_assured_92 : decode b_M_assured 92 = .ok (.pop, 1) := by decide +kernel
theorem d_M_assured_93 : decode b_M_assured 93 = .ok (.aload_n 0, 1) := by decide +kernel
theorem d_M_assured_94 : decode b_M_assured 94 = .ok (.bipush 8, 2) := by decide +kernel
theorem d_M_assured_96 : decode b_M_assured 96 = .ok (.iconst 0, 1) := by decide +kernel
theorem d_M_assured_97 : decode b_M_assured 97 = .ok (.invokevirtual 665, 3) := by decide +kernel
theorem d_M_assured_100 : decode b_M_assured 100 = .ok (.aload_n 0, 1) := by decide +kernel
theorem d_M_assured_101 : decode b_M_assured 101 = .ok (.getfield 293, 3) := by decide +kernel
theorem d_M_assured_104 : decode b_M_assured 104 = .ok (.iload_n 1, 1) := by decide +kernel
theorem d_M_assured_105 : decode b_M_assured 105 = .ok (.iaload, 1) := by decide +kernel
theorem d_M_assured_106 : decode b_M_assured 106 = .ok (.i2l, 1) := by decide +kernel
theorem d_M_assured_107 : decode b_M_assured 107 = .ok (.ldc2_w 810, 3) := by decide +kernel
theorem d_M_assured_110 : decode b_M_assured 110 = .ok (.lsub, 1) := by decide +kernel
theorem d_M_assured_111 : decode b_M_assured 111 = .ok (.lcmp, 1) := by decide +kernel
theorem d_M_assured_112 : decode b_M_assured 112 = .ok (.ifCond .eq 6, 3) := by decide +kernel
theorem d_M_assured_115 : decode b_M_assured 115 = .ok (.bipush (-50), 2) := by decide +kernel
theorem d_M_assured_117 : decode b_M_assured 117 = .ok (.ireturn, 1) := by decide +kernel
theorem d_M_assured_118 : decode b_M_assured 118 = .ok (.iconst 0, 1) := by decide +kernel
theorem d_M_assured_119 : decode b_M_assured 119 = .ok (.istore 4, 2) := by decide +kernel
theorem d_M_assured_121 : decode b_M_assured 121 = .ok (.iload 4, 2) := by decide +kernel
theorem d_M_assured_123 : decode b_M_assured 123 = .ok (.bipush 32, 2) := by decide +kernel
theorem d_M_assured_125 : decode b_M_assured 125 = .ok (.if_icmp .ge 28, 3) := by decide +kernel
theorem d_M_assured_128 : decode b_M_assured 128 = .ok (.aload_n 0, 1) := by decide +kernel
theorem d_M_assured_129 : decode b_M_assured 129 = .ok (.getfield 137, 3) := by decide +kernel
theorem d_M_assured_132 : decode b_M_assured 132 = .ok (.iload 4, 2) := by decide +kernel
theorem d_M_assured_134 : decode b_M_assured 134 = .ok (.aload_n 0, 1) := by decide +kernel
theorem d_M_assured_135 : decode b_M_assured 135 = .ok (.getfield 299, 3) := by decide +kernel
theorem d_M_assured_138 : decode b_M_assured 138 = .ok (.bipush 32, 2) := by decide +kernel
theorem d_M_assured_140 : decode b_M_assured 140 = .ok (.iload_n 1, 1) := by decide +kernel
theorem d_M_assured_141 : decode b_M_assured 141 = .ok (.imul, 1) := by decide +kernel
theorem d_M_assured_142 : decode b_M_assured 142 = .ok (.iload 4, 2) := by decide +kernel
theorem d_M_assured_144 : decode b_M_assured 144 = .ok (.iadd, 1) := by decide +kernel
theorem d_M_assured_145 : decode b_M_assured 145 = .ok (.baload, 1) := by decide +kernel
theorem d_M_assured_146 : decode b_M_assured 146 = .ok (.bastore, 1) := by decide +kernel
theorem d_M_assured_147 : decode b_M_assured 147 = .ok (.iinc 4 1, 3) := by decide +kernel
theorem d_M_assured_150 : decode b_M_assured 150 = .ok (.goto (-29), 3) := by decide +kernel
theorem d_M_assured_153 : decode b_M_assured 153 = .ok (.aload_n 0, 1) := by decide +kernel
theorem d_M_assured_154 : decode b_M_assured 154 = .ok (.aload_n 0, 1) := by decide +kernel
theorem d_M_assured_155 : decode b_M_assured 155 = .ok (.getfield 137, 3) := by decide +kernel
theorem d_M_assured_158 : decode b_M_assured 158 = .ok (.aload_n 0, 1) := by decide +kernel
theorem d_M_assured_159 : decode b_M_assured 159 = .ok (.getfield 293, 3) := by decide +kernel
theorem d_M_assured_162 : decode b_M_assured 162 = .ok (.iload_n 1, 1) := by decide +kernel
theorem d_M_assured_163 : decode b_M_assured 163 = .ok (.iaload, 1) := by decide +kernel
theorem d_M_assured_164 : decode b_M_assured 164 = .ok (.bipush 15, 2) := by decide +kernel
theorem d_M_assured_166 : decode b_M_assured 166 = .ok (.aload_n 0, 1) := by decide +kernel
theorem d_M_assured_167 : decode b_M_assured 167 = .ok (.iconst 0, 1) := by decide +kernel
theorem d_M_assured_168 : decode b_M_assured 168 = .ok (.iconst 2, 1) := by decide +kernel
theorem d_M_assured_169 : decode b_M_assured 169 = .ok (.invokevirtual 536, 3) := by decide +kernel
theorem d_M_assured_172 : decode b_M_assured 172 = .ok (.aload_n 0, 1) := by decide +kernel
theorem d_M_assured_173 : decode b_M_assured 173 = .ok (.iconst 0, 1) := by decide +kernel
theorem d_M_assured_174 : decode b_M_assured 174 = .ok (.iconst 2, 1) := by decide +kernel
theorem d_M_assured_175 : decode b_M_assured 175 = .ok (.invokevirtual 539, 3) := by decide +kernel
theorem d_M_assured_178 : decode b_M_assured 178 = .ok (.invokevirtual 812, 3) := by decide +kernel
theorem d_M_assured_181 : decode b_M_assured 181 = .ok (.aload_n 0, 1) := by decide +kernel
theorem d_M_assured_182 : decode b_M_assured 182 = .ok (.aload_n 0, 1) := by decide +kernel
theorem d_M_assured_183 : decode b_M_assured 183 = .ok (.bipush 8, 2) := by decide +kernel
theorem d_M_assured_185 : decode b_M_assured 185 = .ok (.iconst 1, 1) := by decide +kernel
theorem d_M_assured_186 : decode b_M_assured 186 = .ok (.invokevirtual 536, 3) := by decide +kernel
theorem d_M_assured_189 : decode b_M_assured 189 = .ok (.aload_n 0, 1) := by decide +kernel
theorem d_M_assured_190 : decode b_M_assured 190 = .ok (.bipush 8, 2) := by decide +kernel
theorem d_M_assured_192 : decode b_M_assured 192 = .ok (.iconst 1, 1) := by decide +kernel
theorem d_M_assured_193 : decode b_M_assured 193 = .ok (.invokevirtual 539, 3) := by decide +kernel
theorem d_M_assured_196 : decode b_M_assured 196 = .ok (.iconst 4, 1) := by decide +kernel
theorem d_M_assured_197 : decode b_M_assured 197 = .ok (.invokevirtual 476, 3) := by decide +kernel
theorem d_M_assured_200 : decode b_M_assured 200 = .ok (.pop, 1) := by decide +kernel
theorem d_M_assured_201 : decode b_M_assured 201 = .ok (.aload_n 0, 1) := by decide +kernel
theorem d_M_assured_202 : decode b_M_assured 202 = .ok (.getfield 473, 3) := by decide +kernel
theorem d_M_assured_205 : decode b_M_assured 205 = .ok (.aload_n 0, 1) := by decide +kernel
theorem d_M_assured_206 : decode b_M_assured 206 = .ok (.getfield 470, 3) := by decide +kernel
theorem d_M_assured_209 : decode b_M_assured 209 = .ok (.isub, 1) := by decide +kernel
theorem d_M_assured_210 : decode b_M_assured 210 = .ok (.bipush 12, 2) := by decide +kernel
theorem d_M_assured_212 : decode b_M_assured 212 = .ok (.if_icmp .eq 6, 3) := by decide +kernel
theorem d_M_assured_215 : decode b_M_assured 215 = .ok (.bipush (-41), 2) := by decide +kernel
theorem d_M_assured_217 : decode b_M_assured 217 = .ok (.ireturn, 1) := by decide +kernel
theorem d_M_assured_218 : decode b_M_assured 218 = .ok (.iconst 0, 1) := by decide +kernel
theorem d_M_assured_219 : decode b_M_assured 219 = .ok (.istore 4, 2) := by decide +kernel
theorem d_M_assured_221 : decode b_M_assured 221 = .ok (.iload 4, 2) := by decide +kernel
theorem d_M_assured_223 : decode b_M_assured 223 = .ok (.bipush 12, 2) := by decide +kernel
theorem d_M_assured_225 : decode b_M_assured 225 = .ok (.if_icmp .ge 34, 3) := by decide +kernel
theorem d_M_assured_228 : decode b_M_assured 228 = .ok (.aload_n 0, 1) := by decide +kernel
theorem d_M_assured_229 : decode b_M_assured 229 = .ok (.getfield 10, 3) := by decide +kernel
theorem d_M_assured_232 : decode b_M_assured 232 = .ok (.aload_n 0, 1) := by decide +kernel
theorem d_M_assured_233 : decode b_M_assured 233 = .ok (.getfield 470, 3) := by decide +kernel
theorem d_M_assured_236 : decode b_M_assured 236 = .ok (.iload 4, 2) := by decide +kernel
theorem d_M_assured_238 : decode b_M_assured 238 = .ok (.iadd, 1) := by decide +kernel
theorem d_M_assured_239 : decode b_M_assured 239 = .ok (.baload, 1) := by decide +kernel
theorem d_M_assured_240 : decode b_M_assured 240 = .ok (.aload_n 0, 1) := by decide +kernel
theorem d_M_assured_241 : decode b_M_assured 241 = .ok (.getfield 35, 3) := by decide +kernel
theorem d_M_assured_244 : decode b_M_assured 244 = .ok (.iload 4, 2) := by decide +kernel
theorem d_M_assured_246 : decode b_M_assured 246 = .ok (.baload, 1) := by decide +kernel
theorem d_M_assured_247 : decode b_M_assured 247 = .ok (.if_icmp .eq 6, 3) := by decide +kernel
theorem d_M_assured_250 : decode b_M_assured 250 = .ok (.bipush (-41), 2) := by decide +kernel
theorem d_M_assured_252 : decode b_M_assured 252 = .ok (.ireturn, 1) := by decide +kernel
theorem d_M_assured_253 : decode b_M_assured 253 = .ok (.iinc 4 1, 3) := by decide +kernel
theorem d_M_assured_256 : decode b_M_assured 256 = .ok (.goto (-35), 3) := by decide +kernel
theorem d_M_assured_259 : decode b_M_assured 259 = .ok (.aload_n 0, 1) := by decide +kernel
theorem d_M_assured_260 : decode b_M_assured 260 = .ok (.ldc_w 528, 3) := by decide +kernel
theorem d_M_assured_263 : decode b_M_assured 263 = .ok (.aload_n 0, 1) := by decide +kernel
theorem d_M_assured_264 : decode b_M_assured 264 = .ok (.iconst 0, 1) := by decide +kernel
theorem d_M_assured_265 : decode b_M_assured 265 = .ok (.iconst 2, 1) := by decide +kernel
theorem d_M_assured_266 : decode b_M_assured 266 = .ok (.invokevirtual 536, 3) := by decide +kernel
theorem d_M_assured_269 : decode b_M_assured 269 = .ok (.aload_n 0, 1) := by decide +kernel
theorem d_M_assured_270 : decode b_M_assured 270 = .ok (.iconst 0, 1) := by decide +kernel
theorem d_M_assured_271 : decode b_M_assured 271 = .ok (.iconst 2, 1) := by decide +kernel
theorem d_M_assured_272 : decode b_M_assured 272 = .ok (.invokevirtual 539, 3) := by decide +kernel
theorem d_M_assured_275 : decode b_M_assured 275 = .ok (.iconst 4, 1) := by decide +kernel
theorem d_M_assured_276 : decode b_M_assured 276 = .ok (.invokevirtual 487, 3) := by decide +kernel
theorem d_M_assured_279 : decode b_M_assured 279 = .ok (.pop, 1) := by decide +kernel
theorem d_M_assured_280 : decode b_M_assured 280 = .ok (.aload_n 0, 1) := by decide +kernel
theorem d_M_assured_281 : decode b_M_assured 281 = .ok (.iload_n 1, 1) := by decide +kernel
theorem d_M_assured_282 : decode b_M_assured 282 = .ok (.iload_n 2, 1) := by decide +kernel
theorem d_M_assured_283 : decode b_M_assured 283 = .ok (.invokevirtual 1000, 3) := by decide +kernel
theorem d_M_assured_286 : decode b_M_assured 286 = .ok (.ireturn, 1) := by decide +kernel
abbrev b_M_hand : ByteArray := prog_14_method_156_code
def y_M_hand : MethodName := ⟨R_M, "hand", "(II)I"⟩
abbrev k_M_hand : Cond := .code y_M_hand b_M_hand 7 (some .int)
theorem ki_M_hand : k_M_hand ∈ lw_tg := List.mem_filter.mpr ⟨List.mem_append_right _ (List.mem_append_right _ (List.mem_append_right _ (List.mem_append_right _ (List.mem_append_right _ (List.mem_append_right _ (List.mem_append_right _ (List.mem_append_right _ (List.mem_append_right _ (List.mem_append_right _ (List.mem_append_right _ (List.mem_append_right _ (List.mem_append_left _ (List.mem_of_getElem? (i := 231) rfl))))))))))))), rfl⟩
theorem ks_M_hand : Cond.instanceMethod y_M_hand ∈ lw_tg := in_t 2869 (by decide +kernel)
theorem kx_M_hand : Cond.selects R_M y_M_hand y_M_hand ∈ lw_tg := in_t 2870 (by decide +kernel)
theorem hd_M_hand : y_M_hand.cls = R_M ∧ y_M_hand.cls ≠ "java/lang/invoke/MethodHandle" ∧ y_M_hand.cls ≠ "java/lang/invoke/VarHandle" ∧ (parseMethodDescriptor y_M_hand.desc).map (fun d => d.parameters.length) = some 2 := by decide +kernel
theorem d_M_hand_0 : decode b_M_hand 0 = .ok (.aload_n 0, 1) := by decide +kernel
theorem d_M_hand_1 : decode b_M_hand 1 = .ok (.iload_n 1, 1) := by decide +kernel
theorem d_M_hand_2 : decode b_M_hand 2 = .ok (.iconst 0, 1) := by decide +kernel
theorem d_M_hand_3 : decode b_M_hand 3 = .ok (.invokevirtual 990, 3) := by decide +kernel
theorem d_M_hand_6 : decode b_M_hand 6 = .ok (.ifCond .eq 17, 3) := by decide +kernel
theorem d_M_hand_9 : decode b_M_hand 9 = .ok (.aload_n 0, 1) := by decide +kernel
theorem d_M_hand_10 : decode b_M_hand 10 = .ok (.aload_n 0, 1) := by decide +kernel
theorem d_M_hand_11 : decode b_M_hand 11 = .ok (.getfield 296, 3) := by decide +kernel
theorem d_M_hand_14 : decode b_M_hand 14 = .ok (.iload_n 1, 1) := by decide +kernel
theorem d_M_hand_15 : decode b_M_hand 15 = .ok (.iaload, 1) := by decide +kernel
theorem d_M_hand_16 : decode b_M_hand 16 = .ok (.iload_n 2, 1) := by decide +kernel
theorem d_M_hand_17 : decode b_M_hand 17 = .ok (.invokevirtual 923, 3) := by decide +kernel
theorem d_M_hand_20 : decode b_M_hand 20 = .ok (.ifCond .ne 5, 3) := by decide +kernel
theorem d_M_hand_23 : decode b_M_hand 23 = .ok (.iconst (-1), 1) := by decide +kernel
theorem d_M_hand_24 : decode b_M_hand 24 = .ok (.ireturn, 1) := by decide +kernel
theorem d_M_hand_25 : decode b_M_hand 25 = .ok (.aload_n 0, 1) := by decide +kernel
theorem d_M_hand_26 : decode b_M_hand 26 = .ok (.getfield 296, 3) := by decide +kernel
theorem d_M_hand_29 : decode b_M_hand 29 = .ok (.iload_n 1, 1) := by decide +kernel
theorem d_M_hand_30 : decode b_M_hand 30 = .ok (.iaload, 1) := by decide +kernel
theorem d_M_hand_31 : decode b_M_hand 31 = .ok (.istore_n 3, 1) := by decide +kernel
theorem d_M_hand_32 : decode b_M_hand 32 = .ok (.bipush 8, 2) := by decide +kernel
theorem d_M_hand_34 : decode b_M_hand 34 = .ok (.iload_n 3, 1) := by decide +kernel
theorem d_M_hand_35 : decode b_M_hand 35 = .ok (.imul, 1) := by decide +kernel
theorem d_M_hand_36 : decode b_M_hand 36 = .ok (.iload_n 2, 1) := by decide +kernel
theorem d_M_hand_37 : decode b_M_hand 37 = .ok (.iadd, 1) := by decide +kernel
theorem d_M_hand_38 : decode b_M_hand 38 = .ok (.istore 4, 2) := by decide +kernel
theorem d_M_hand_40 : decode b_M_hand 40 = .ok (.iconst 0, 1) := by decide +kernel
theorem d_M_hand_41 : decode b_M_hand 41 = .ok (.istore 5, 2) := by decide +kernel
theorem d_M_hand_43 : decode b_M_hand 43 = .ok (.iload 5, 2) := by decide +kernel
theorem d_M_hand_45 : decode b_M_hand 45 = .ok (.aload_n 0, 1) := by decide +kernel
theorem d_M_hand_46 : decode b_M_hand 46 = .ok (.getfield 194, 3) := by decide +kernel
theorem d_M_hand_49 : decode b_M_hand 49 = .ok (.iload 4, 2) := by decide +kernel
theorem d_M_hand_51 : decode b_M_hand 51 = .ok (.iaload, 1) := by decide +kernel
theorem d_M_hand_52 : decode b_M_hand 52 = .ok (.if_icmp .ge 34, 3) := by decide +kernel
theorem d_M_hand_55 : decode b_M_hand 55 = .ok (.aload_n 0, 1) := by decide +kernel
theorem d_M_hand_56 : decode b_M_hand 56 = .ok (.getfield 10, 3) := by decide +kernel
theorem d_M_hand_59 : decode b_M_hand 59 = .ok (.sipush 22200, 3) := by decide +kernel
theorem d_M_hand_62 : decode b_M_hand 62 = .ok (.iload 5, 2) := by decide +kernel
theorem d_M_hand_64 : decode b_M_hand 64 = .ok (.iadd, 1) := by decide +kernel
theorem d_M_hand_65 : decode b_M_hand 65 = .ok (.aload_n 0, 1) := by decide +kernel
theorem d_M_hand_66 : decode b_M_hand 66 = .ok (.getfield 188, 3) := by decide +kernel
theorem d_M_hand_69 : decode b_M_hand 69 = .ok (.sipush 4200, 3) := by decide +kernel
theorem d_M_hand_72 : decode b_M_hand 72 = .ok (.iload 4, 2) := by decide +kernel
theorem d_M_hand_74 : decode b_M_hand 74 = .ok (.imul, 1) := by decide +kernel
theorem d_M_hand_75 : decode b_M_hand 75 = .ok (.iload 5, 2) := by decide +kernel
theorem d_M_hand_77 : decode b_M_hand 77 = .ok (.iadd, 1) := by decide +kernel
theorem d_M_hand_78 : decode b_M_hand 78 = .ok (.baload, 1) := by decide +kernel
theorem d_M_hand_79 : decode b_M_hand 79 = .ok (.bastore, 1) := by decide +kernel
theorem d_M_hand_80 : decode b_M_hand 80 = .ok (.iinc 5 1, 3) := by decide +kernel
theorem d_M_hand_83 : decode b_M_hand 83 = .ok (.goto (-40), 3) := by decide +kernel
theorem d_M_hand_86 : decode b_M_hand 86 = .ok (.aload_n 0, 1) := by decide +kernel
theorem d_M_hand_87 : decode b_M_hand 87 = .ok (.sipush 22200, 3) := by decide +kernel
theorem d_M_hand_90 : decode b_M_hand 90 = .ok (.sipush 22200, 3) := by decide +kernel
theorem d_M_hand_93 : decode b_M_hand 93 = .ok (.aload_n 0, 1) := by decide +kernel
theorem d_M_hand_94 : decode b_M_hand 94 = .ok (.getfield 194, 3) := by decide +kernel
theorem d_M_hand_97 : decode b_M_hand 97 = .ok (.iload 4, 2) := by decide +kernel
theorem d_M_hand_99 : decode b_M_hand 99 = .ok (.iaload, 1) := by decide +kernel
theorem d_M_hand_100 : decode b_M_hand 100 = .ok (.iadd, 1) := by decide +kernel
theorem d_M_hand_101 : decode b_M_hand 101 = .ok (.bipush 97, 2) := by decide +kernel
theorem d_M_hand_103 : decode b_M_hand 103 = .ok (.invokevirtual 480, 3) := by decide +kernel
theorem d_M_hand_106 : decode b_M_hand 106 = .ok (.pop, 1) := by decide +kernel
theorem d_M_hand_107 : decode b_M_hand 107 = .ok (.aload_n 0, 1) := by decide +kernel
theorem d_M_hand_108 : decode b_M_hand 108 = .ok (.ldc_w 520, 3) := by decide +kernel
theorem d_M_hand_111 : decode b_M_hand 111 = .ok (.aload_n 0, 1) := by decide +kernel
theorem d_M_hand_112 : decode b_M_hand 112 = .ok (.getfield 470, 3) := by decide +kernel
theorem d_M_hand_115 : decode b_M_hand 115 = .ok (.sipush 22200, 3) := by decide +kernel
theorem d_M_hand_118 : decode b_M_hand 118 = .ok (.aload_n 0, 1) := by decide +kernel
theorem d_M_hand_119 : decode b_M_hand 119 = .ok (.getfield 194, 3) := by decide +kernel
theorem d_M_hand_122 : decode b_M_hand 122 = .ok (.iload 4, 2) := by decide +kernel
theorem d_M_hand_124 : decode b_M_hand 124 = .ok (.iaload, 1) := by decide +kernel
theorem d_M_hand_125 : decode b_M_hand 125 = .ok (.iadd, 1) := by decide +kernel
theorem d_M_hand_126 : decode b_M_hand 126 = .ok (.iconst 3, 1) := by decide +kernel
theorem d_M_hand_127 : decode b_M_hand 127 = .ok (.invokevirtual 487, 3) := by decide +kernel
theorem d_M_hand_130 : decode b_M_hand 130 = .ok (.pop, 1) := by decide +kernel
theorem d_M_hand_131 : decode b_M_hand 131 = .ok (.aload_n 0, 1) := by decide +kernel
theorem d_M_hand_132 : decode b_M_hand 132 = .ok (.invokevirtual 861, 3) := by decide +kernel
theorem d_M_hand_135 : decode b_M_hand 135 = .ok (.aload_n 0, 1) := by decide +kernel
theorem d_M_hand_136 : decode b_M_hand 136 = .ok (.iconst 3, 1) := by decide +kernel
theorem d_M_hand_137 : decode b_M_hand 137 = .ok (.lconst 0, 1) := by decide +kernel
theorem d_M_hand_138 : decode b_M_hand 138 = .ok (.invokevirtual 588, 3) := by decide +kernel
theorem d_M_hand_141 : decode b_M_hand 141 = .ok (.aload_n 0, 1) := by decide +kernel
theorem d_M_hand_142 : decode b_M_hand 142 = .ok (.iconst 2, 1) := by decide +kernel
theorem d_M_hand_143 : decode b_M_hand 143 = .ok (.aload_n 0, 1) := by decide +kernel
theorem d_M_hand_144 : decode b_M_hand 144 = .ok (.iload_n 3, 1) := by decide +kernel
theorem d_M_hand_145 : decode b_M_hand 145 = .ok (.invokevirtual 927, 3) := by decide +kernel
theorem d_M_hand_148 : decode b_M_hand 148 = .ok (.invokevirtual 884, 3) := by decide +kernel
theorem d_M_hand_151 : decode b_M_hand 151 = .ok (.aload_n 0, 1) := by decide +kernel
theorem d_M_hand_152 : decode b_M_hand 152 = .ok (.getfield 553, 3) := by decide +kernel
theorem d_M_hand_155 : decode b_M_hand 155 = .ok (.istore 5, 2) := by decide +kernel
theorem d_M_hand_157 : decode b_M_hand 157 = .ok (.aload_n 0, 1) := by decide +kernel
theorem d_M_hand_158 : decode b_M_hand 158 = .ok (.bipush 9, 2) := by decide +kernel
theorem d_M_hand_160 : decode b_M_hand 160 = .ok (.aload_n 0, 1) := by decide +kernel
theorem d_M_hand_161 : decode b_M_hand 161 = .ok (.iconst 3, 1) := by decide +kernel
theorem d_M_hand_162 : decode b_M_hand 162 = .ok (.iconst 2, 1) := by decide +kernel
theorem d_M_hand_163 : decode b_M_hand 163 = .ok (.invokevirtual 536, 3) := by decide +kernel
theorem d_M_hand_166 : decode b_M_hand 166 = .ok (.aload_n 0, 1) := by decide +kernel
theorem d_M_hand_167 : decode b_M_hand 167 = .ok (.iconst 3, 1) := by decide +kernel
theorem d_M_hand_168 : decode b_M_hand 168 = .ok (.iconst 2, 1) := by decide +kernel
theorem d_M_hand_169 : decode b_M_hand 169 = .ok (.invokevirtual 539, 3) := by decide +kernel
theorem d_M_hand_172 : decode b_M_hand 172 = .ok (.invokevirtual 874, 3) := by decide +kernel
theorem d_M_hand_175 : decode b_M_hand 175 = .ok (.aload_n 0, 1) := by decide +kernel
theorem d_M_hand_176 : decode b_M_hand 176 = .ok (.bipush 8, 2) := by decide +kernel
theorem d_M_hand_178 : decode b_M_hand 178 = .ok (.ldc_w 621, 3) := by decide +kernel
theorem d_M_hand_181 : decode b_M_hand 181 = .ok (.invokevirtual 878, 3) := by decide +kernel
theorem d_M_hand_184 : decode b_M_hand 184 = .ok (.aload_n 0, 1) := by decide +kernel
theorem d_M_hand_185 : decode b_M_hand 185 = .ok (.getfield 212, 3) := by decide +kernel
theorem d_M_hand_188 : decode b_M_hand 188 = .ok (.iload 4, 2) := by decide +kernel
theorem d_M_hand_190 : decode b_M_hand 190 = .ok (.laload, 1) := by decide +kernel
theorem d_M_hand_191 : decode b_M_hand 191 = .ok (.lconst 0, 1) := by decide +kernel
theorem d_M_hand_192 : decode b_M_hand 192 = .ok (.lcmp, 1) := by decide +kernel
theorem d_M_hand_193 : decode b_M_hand 193 = .ok (.ifCond .lt 16, 3) := by decide +kernel
theorem d_M_hand_196 : decode b_M_hand 196 = .ok (.aload_n 0, 1) := by decide +kernel
theorem d_M_hand_197 : decode b_M_hand 197 = .ok (.bipush 7, 2) := by decide +kernel
theorem d_M_hand_199 : decode b_M_hand 199 = .ok (.aload_n 0, 1) := by decide +kernel
theorem d_M_hand_200 : decode b_M_hand 200 = .ok (.getfield 212, 3) := by decide +kernel
theorem d_M_hand_203 : decode b_M_hand 203 = .ok (.iload 4, 2) := by decide +kernel
theorem d_M_hand_205 : decode b_M_hand 205 = .ok (.laload, 1) := by decide +kernel
theorem d_M_hand_206 : decode b_M_hand 206 = .ok (.invokevirtual 884, 3) := by decide +kernel
theorem d_M_hand_209 : decode b_M_hand 209 = .ok (.aload_n 0, 1) := by decide +kernel
theorem d_M_hand_210 : decode b_M_hand 210 = .ok (.bipush 6, 2) := by decide +kernel
theorem d_M_hand_212 : decode b_M_hand 212 = .ok (.aload_n 0, 1) := by decide +kernel
theorem d_M_hand_213 : decode b_M_hand 213 = .ok (.getfield 209, 3) := by decide +kernel
theorem d_M_hand_216 : decode b_M_hand 216 = .ok (.iload 4, 2) := by decide +kernel
theorem d_M_hand_218 : decode b_M_hand 218 = .ok (.laload, 1) := by decide +kernel
theorem d_M_hand_219 : decode b_M_hand 219 = .ok (.invokevirtual 884, 3) := by decide +kernel
theorem d_M_hand_222 : decode b_M_hand 222 = .ok (.aload_n 0, 1) := by decide +kernel
theorem d_M_hand_223 : decode b_M_hand 223 = .ok (.getfield 206, 3) := by decide +kernel
theorem d_M_hand_226 : decode b_M_hand 226 = .ok (.iload 4, 2) := by decide +kernel
theorem d_M_hand_228 : decode b_M_hand 228 = .ok (.laload, 1) := by decide +kernel
theorem d_M_hand_229 : decode b_M_hand 229 = .ok (.lconst 0, 1) := by decide +kernel
theorem d_M_hand_230 : decode b_M_hand 230 = .ok (.lcmp, 1) := by decide +kernel
theorem d_M_hand_231 : decode b_M_hand 231 = .ok (.ifCond .lt 15, 3) := by decide +kernel
theorem d_M_hand_234 : decode b_M_hand 234 = .ok (.aload_n 0, 1) := by decide +kernel
theorem d_M_hand_235 : decode b_M_hand 235 = .ok (.iconst 5, 1) := by decide +kernel
theorem d_M_hand_236 : decode b_M_hand 236 = .ok (.aload_n 0, 1) := by decide +kernel
theorem d_M_hand_237 : decode b_M_hand 237 = .ok (.getfield 206, 3) := by decide +kernel
theorem d_M_hand_240 : decode b_M_hand 240 = .ok (.iload 4, 2) := by decide +kernel
theorem d_M_hand_242 : decode b_M_hand 242 = .ok (.laload, 1) := by decide +kernel
theorem d_M_hand_243 : decode b_M_hand 243 = .ok (.invokevirtual 884, 3) := by decide +kernel
theorem d_M_hand_246 : decode b_M_hand 246 = .ok (.aload_n 0, 1) := by decide +kernel
theorem d_M_hand_247 : decode b_M_hand 247 = .ok (.iconst 4, 1) := by decide +kernel
theorem d_M_hand_248 : decode b_M_hand 248 = .ok (.aload_n 0, 1) := by decide +kernel
theorem d_M_hand_249 : decode b_M_hand 249 = .ok (.getfield 203, 3) := by decide +kernel
theorem d_M_hand_252 : decode b_M_hand 252 = .ok (.iload 4, 2) := by decide +kernel
theorem d_M_hand_254 : decode b_M_hand 254 = .ok (.laload, 1) := by decide +kernel
theorem d_M_hand_255 : decode b_M_hand 255 = .ok (.invokevirtual 884, 3) := by decide +kernel
theorem d_M_hand_258 : decode b_M_hand 258 = .ok (.aload_n 0, 1) := by decide +kernel
theorem d_M_hand_259 : decode b_M_hand 259 = .ok (.iconst 3, 1) := by decide +kernel
theorem d_M_hand_260 : decode b_M_hand 260 = .ok (.aload_n 0, 1) := by decide +kernel
theorem d_M_hand_261 : decode b_M_hand 261 = .ok (.getfield 197, 3) := by decide +kernel
theorem d_M_hand_264 : decode b_M_hand 264 = .ok (.iload 4, 2) := by decide +kernel
theorem d_M_hand_266 : decode b_M_hand 266 = .ok (.iaload, 1) := by decide +kernel
theorem d_M_hand_267 : decode b_M_hand 267 = .ok (.invokevirtual 890, 3) := by decide +kernel
theorem d_M_hand_270 : decode b_M_hand 270 = .ok (.aload_n 0, 1) := by decide +kernel
theorem d_M_hand_271 : decode b_M_hand 271 = .ok (.iconst 2, 1) := by decide +kernel
theorem d_M_hand_272 : decode b_M_hand 272 = .ok (.aload_n 0, 1) := by decide +kernel
theorem d_M_hand_273 : decode b_M_hand 273 = .ok (.getfield 215, 3) := by decide +kernel
theorem d_M_hand_276 : decode b_M_hand 276 = .ok (.sipush 400, 3) := by decide +kernel
theorem d_M_hand_279 : decode b_M_hand 279 = .ok (.iload 4, 2) := by decide +kernel
theorem d_M_hand_281 : decode b_M_hand 281 = .ok (.imul, 1) := by decide +kernel
theorem d_M_hand_282 : decode b_M_hand 282 = .ok (.aload_n 0, 1) := by decide +kernel
theorem d_M_hand_283 : decode b_M_hand 283 = .ok (.getfield 218, 3) := by decide +kernel
theorem d_M_hand_286 : decode b_M_hand 286 = .ok (.iload 4, 2) := by decide +kernel
theorem d_M_hand_288 : decode b_M_hand 288 = .ok (.iaload, 1) := by decide +kernel
theorem d_M_hand_289 : decode b_M_hand 289 = .ok (.iadd, 1) := by decide +kernel
theorem d_M_hand_290 : decode b_M_hand 290 = .ok (.aload_n 0, 1) := by decide +kernel
theorem d_M_hand_291 : decode b_M_hand 291 = .ok (.getfield 221, 3) := by decide +kernel
theorem d_M_hand_294 : decode b_M_hand 294 = .ok (.iload 4, 2) := by decide +kernel
theorem d_M_hand_296 : decode b_M_hand 296 = .ok (.iaload, 1) := by decide +kernel
theorem d_M_hand_297 : decode b_M_hand 297 = .ok (.invokevirtual 953, 3) := by decide +kernel
theorem d_M_hand_300 : decode b_M_hand 300 = .ok (.aload_n 0, 1) := by decide +kernel
theorem d_M_hand_301 : decode b_M_hand 301 = .ok (.iconst 1, 1) := by decide +kernel
theorem d_M_hand_302 : decode b_M_hand 302 = .ok (.ldc_w 621, 3) := by decide +kernel
theorem d_M_hand_305 : decode b_M_hand 305 = .ok (.invokevirtual 878, 3) := by decide +kernel
theorem d_M_hand_308 : decode b_M_hand 308 = .ok (.iconst 0, 1) := by decide +kernel
theorem d_M_hand_309 : decode b_M_hand 309 = .ok (.istore 6, 2) := by decide +kernel
theorem d_M_hand_311 : decode b_M_hand 311 = .ok (.iload 6, 2) := by decide +kernel
theorem d_M_hand_313 : decode b_M_hand 313 = .ok (.bipush 32, 2) := by decide +kernel
theorem d_M_hand_315 : decode b_M_hand 315 = .ok (.if_icmp .ge 29, 3) := by decide +kernel
theorem d_M_hand_318 : decode b_M_hand 318 = .ok (.aload_n 0, 1) := by decide +kernel
theorem d_M_hand_319 : decode b_M_hand 319 = .ok (.getfield 140, 3) := by decide +kernel
theorem d_M_hand_322 : decode b_M_hand 322 = .ok (.iload 6, 2) := by decide +kernel
theorem d_M_hand_324 : decode b_M_hand 324 = .ok (.aload_n 0, 1) := by decide +kernel
theorem d_M_hand_325 : decode b_M_hand 325 = .ok (.getfield 191, 3) := by decide +kernel
theorem d_M_hand_328 : decode b_M_hand 328 = .ok (.bipush 32, 2) := by decide +kernel
theorem d_M_hand_330 : decode b_M_hand 330 = .ok (.iload 4, 2) := by decide +kernel
theorem d_M_hand_332 : decode b_M_hand 332 = .ok (.imul, 1) := by decide +kernel
theorem d_M_hand_333 : decode b_M_hand 333 = .ok (.iload 6, 2) := by decide +kernel
theorem d_M_hand_335 : decode b_M_hand 335 = .ok (.iadd, 1) := by decide +kernel
theorem d_M_hand_336 : decode b_M_hand 336 = .ok (.baload, 1) := by decide +kernel
theorem d_M_hand_337 : decode b_M_hand 337 = .ok (.bastore, 1) := by decide +kernel
theorem d_M_hand_338 : decode b_M_hand 338 = .ok (.iinc 6 1, 3) := by decide +kernel
theorem d_M_hand_341 : decode b_M_hand 341 = .ok (.goto (-30), 3) := by decide +kernel
theorem d_M_hand_344 : decode b_M_hand 344 = .ok (.aload_n 0, 1) := by decide +kernel
theorem d_M_hand_345 : decode b_M_hand 345 = .ok (.iconst 0, 1) := by decide +kernel
theorem d_M_hand_346 : decode b_M_hand 346 = .ok (.aload_n 0, 1) := by decide +kernel
theorem d_M_hand_347 : decode b_M_hand 347 = .ok (.getfield 200, 3) := by decide +kernel
theorem d_M_hand_350 : decode b_M_hand 350 = .ok (.iload 4, 2) := by decide +kernel
theorem d_M_hand_352 : decode b_M_hand 352 = .ok (.iaload, 1) := by decide +kernel
theorem d_M_hand_353 : decode b_M_hand 353 = .ok (.aload_n 0, 1) := by decide +kernel
theorem d_M_hand_354 : decode b_M_hand 354 = .ok (.getfield 140, 3) := by decide +kernel
theorem d_M_hand_357 : decode b_M_hand 357 = .ok (.invokevirtual 887, 3) := by decide +kernel
theorem d_M_hand_360 : decode b_M_hand 360 = .ok (.aload_n 0, 1) := by decide +kernel
theorem d_M_hand_361 : decode b_M_hand 361 = .ok (.bipush 48, 2) := by decide +kernel
theorem d_M_hand_363 : decode b_M_hand 363 = .ok (.iload 5, 2) := by decide +kernel
theorem d_M_hand_365 : decode b_M_hand 365 = .ok (.invokevirtual 559, 3) := by decide +kernel
theorem d_M_hand_368 : decode b_M_hand 368 = .ok (.aload_n 0, 1) := by decide +kernel
theorem d_M_hand_369 : decode b_M_hand 369 = .ok (.bipush 48, 2) := by decide +kernel
theorem d_M_hand_371 : decode b_M_hand 371 = .ok (.iload 5, 2) := by decide +kernel
theorem d_M_hand_373 : decode b_M_hand 373 = .ok (.invokevirtual 559, 3) := by decide +kernel
theorem d_M_hand_376 : decode b_M_hand 376 = .ok (.aload_n 0, 1) := by decide +kernel
theorem d_M_hand_377 : decode b_M_hand 377 = .ok (.iconst 0, 1) := by decide +kernel
theorem d_M_hand_378 : decode b_M_hand 378 = .ok (.iload 5, 2) := by decide +kernel
theorem d_M_hand_380 : decode b_M_hand 380 = .ok (.invokevirtual 567, 3) := by decide +kernel
theorem d_M_hand_383 : decode b_M_hand 383 = .ok (.aload_n 0, 1) := by decide +kernel
theorem d_M_hand_384 : decode b_M_hand 384 = .ok (.bipush 48, 2) := by decide +kernel
theorem d_M_hand_386 : decode b_M_hand 386 = .ok (.ldc 9, 2) := by decide +kernel
theorem d_M_hand_388 : decode b_M_hand 388 = .ok (.invokevirtual 559, 3) := by decide +kernel
theorem d_M_hand_391 : decode b_M_hand 391 = .ok (.aload_n 0, 1) := by decide +kernel
theorem d_M_hand_392 : decode b_M_hand 392 = .ok (.bipush 125, 2) := by decide +kernel
theorem d_M_hand_394 : decode b_M_hand 394 = .ok (.ldc 9, 2) := by decide +kernel
theorem d_M_hand_396 : decode b_M_hand 396 = .ok (.invokevirtual 559, 3) := by decide +kernel
theorem d_M_hand_399 : decode b_M_hand 399 = .ok (.iconst 0, 1) := by decide +kernel
theorem d_M_hand_400 : decode b_M_hand 400 = .ok (.istore 6, 2) := by decide +kernel
theorem d_M_hand_402 : decode b_M_hand 402 = .ok (.iload 6, 2) := by decide +kernel
theorem d_M_hand_404 : decode b_M_hand 404 = .ok (.bipush 32, 2) := by decide +kernel
theorem d_M_hand_406 : decode b_M_hand 406 = .ok (.if_icmp .ge 28, 3) := by decide +kernel
theorem d_M_hand_409 : decode b_M_hand 409 = .ok (.aload_n 0, 1) := by decide +kernel
theorem d_M_hand_410 : decode b_M_hand 410 = .ok (.getfield 137, 3) := by decide +kernel
theorem d_M_hand_413 : decode b_M_hand 413 = .ok (.iload 6, 2) := by decide +kernel
theorem d_M_hand_415 : decode b_M_hand 415 = .ok (.aload_n 0, 1) := by decide +kernel
theorem d_M_hand_416 : decode b_M_hand 416 = .ok (.getfield 299, 3) := by decide +kernel
theorem d_M_hand_419 : decode b_M_hand 419 = .ok (.bipush 32, 2) := by decide +kernel
theorem d_M_hand_421 : decode b_M_hand 421 = .ok (.iload_n 1, 1) := by decide +kernel
theorem d_M_hand_422 : decode b_M_hand 422 = .ok (.imul, 1) := by decide +kernel
theorem d_M_hand_423 : decode b_M_hand 423 = .ok (.iload 6, 2) := by decide +kernel
theorem d_M_hand_425 : decode b_M_hand 425 = .ok (.iadd, 1) := by decide +kernel
theorem d_M_hand_426 : decode b_M_hand 426 = .ok (.baload, 1) := by decide +kernel
theorem d_M_hand_427 : decode b_M_hand 427 = .ok (.bastore, 1) := by decide +kernel
theorem d_M_hand_428 : decode b_M_hand 428 = .ok (.iinc 6 1, 3) := by decide +kernel
theorem d_M_hand_431 : decode b_M_hand 431 = .ok (.goto (-29), 3) := by decide +kernel
theorem d_M_hand_434 : decode b_M_hand 434 = .ok (.aload_n 0, 1) := by decide +kernel
theorem d_M_hand_435 : decode b_M_hand 435 = .ok (.aload_n 0, 1) := by decide +kernel
theorem d_M_hand_436 : decode b_M_hand 436 = .ok (.getfield 137, 3) := by decide +kernel
theorem d_M_hand_439 : decode b_M_hand 439 = .ok (.aload_n 0, 1) := by decide +kernel
theorem d_M_hand_440 : decode b_M_hand 440 = .ok (.getfield 293, 3) := by decide +kernel
theorem d_M_hand_443 : decode b_M_hand 443 = .ok (.iload_n 1, 1) := by decide +kernel
theorem d_M_hand_444 : decode b_M_hand 444 = .ok (.iaload, 1) := by decide +kernel
theorem d_M_hand_445 : decode b_M_hand 445 = .ok (.bipush 14, 2) := by decide +kernel
theorem d_M_hand_447 : decode b_M_hand 447 = .ok (.aload_n 0, 1) := by decide +kernel
theorem d_M_hand_448 : decode b_M_hand 448 = .ok (.getfield 553, 3) := by decide +kernel
theorem d_M_hand_451 : decode b_M_hand 451 = .ok (.ldc 9, 2) := by decide +kernel
theorem d_M_hand_453 : decode b_M_hand 453 = .ok (.invokevirtual 867, 3) := by decide +kernel
theorem d_M_hand_456 : decode b_M_hand 456 = .ok (.aload_n 0, 1) := by decide +kernel
theorem d_M_hand_457 : decode b_M_hand 457 = .ok (.invokevirtual 861, 3) := by decide +kernel
theorem d_M_hand_460 : decode b_M_hand 460 = .ok (.aload_n 0, 1) := by decide +kernel
theorem d_M_hand_461 : decode b_M_hand 461 = .ok (.iconst 3, 1) := by decide +kernel
theorem d_M_hand_462 : decode b_M_hand 462 = .ok (.aload_n 0, 1) := by decide +kernel
theorem d_M_hand_463 : decode b_M_hand 463 = .ok (.getfield 293, 3) := by decide +kernel
theorem d_M_hand_466 : decode b_M_hand 466 = .ok (.iload_n 1, 1) := by decide +kernel
theorem d_M_hand_467 : decode b_M_hand 467 = .ok (.iaload, 1) := by decide +kernel
theorem d_M_hand_468 : decode b_M_hand 468 = .ok (.lconst 0, 1) := by decide +kernel
theorem d_M_hand_469 : decode b_M_hand 469 = .ok (.invokevirtual 870, 3) := by decide +kernel
theorem d_M_hand_472 : decode b_M_hand 472 = .ok (.aload_n 0, 1) := by decide +kernel
theorem d_M_hand_473 : decode b_M_hand 473 = .ok (.getfield 553, 3) := by decide +kernel
theorem d_M_hand_476 : decode b_M_hand 476 = .ok (.istore 6, 2) := by decide +kernel
theorem d_M_hand_478 : decode b_M_hand 478 = .ok (.aload_n 0, 1) := by decide +kernel
theorem d_M_hand_479 : decode b_M_hand 479 = .ok (.aload_n 0, 1) := by decide +kernel
theorem d_M_hand_480 : decode b_M_hand 480 = .ok (.getfield 10, 3) := by decide +kernel
theorem d_M_hand_483 : decode b_M_hand 483 = .ok (.sipush 22200, 3) := by decide +kernel
theorem d_M_hand_486 : decode b_M_hand 486 = .ok (.aload_n 0, 1) := by decide +kernel
theorem d_M_hand_487 : decode b_M_hand 487 = .ok (.getfield 194, 3) := by decide +kernel
theorem d_M_hand_490 : decode b_M_hand 490 = .ok (.iload 4, 2) := by decide +kernel
theorem d_M_hand_492 : decode b_M_hand 492 = .ok (.iaload, 1) := by decide +kernel
theorem d_M_hand_493 : decode b_M_hand 493 = .ok (.invokevirtual 574, 3) := by decide +kernel
theorem d_M_hand_496 : decode b_M_hand 496 = .ok (.aload_n 0, 1) := by decide +kernel
theorem d_M_hand_497 : decode b_M_hand 497 = .ok (.bipush 48, 2) := by decide +kernel
theorem d_M_hand_499 : decode b_M_hand 499 = .ok (.iload 6, 2) := by decide +kernel
theorem d_M_hand_501 : decode b_M_hand 501 = .ok (.invokevirtual 559, 3) := by decide +kernel
theorem d_M_hand_504 : decode b_M_hand 504 = .ok (.aload_n 0, 1) := by decide +kernel
theorem d_M_hand_505 : decode b_M_hand 505 = .ok (.iconst 2, 1) := by decide +kernel
theorem d_M_hand_506 : decode b_M_hand 506 = .ok (.iload 6, 2) := by decide +kernel
theorem d_M_hand_508 : decode b_M_hand 508 = .ok (.invokevirtual 567, 3) := by decide +kernel
theorem d_M_hand_511 : decode b_M_hand 511 = .ok (.aload_n 0, 1) := by decide +kernel
theorem d_M_hand_512 : decode b_M_hand 512 = .ok (.iconst 1, 1) := by decide +kernel
theorem d_M_hand_513 : decode b_M_hand 513 = .ok (.ldc2_w 1007, 3) := by decide +kernel
theorem d_M_hand_516 : decode b_M_hand 516 = .ok (.invokevirtual 588, 3) := by decide +kernel
theorem d_M_hand_519 : decode b_M_hand 519 = .ok (.aload_n 0, 1) := by decide +kernel
theorem d_M_hand_520 : decode b_M_hand 520 = .ok (.iconst 0, 1) := by decide +kernel
theorem d_M_hand_521 : decode b_M_hand 521 = .ok (.ldc2_w 669, 3) := by decide +kernel
theorem d_M_hand_524 : decode b_M_hand 524 = .ok (.invokevirtual 588, 3) := by decide +kernel
theorem d_M_hand_527 : decode b_M_hand 527 = .ok (.aload_n 0, 1) := by decide +kernel
theorem d_M_hand_528 : decode b_M_hand 528 = .ok (.bipush 48, 2) := by decide +kernel
theorem d_M_hand_530 : decode b_M_hand 530 = .ok (.ldc 9, 2) := by decide +kernel
theorem d_M_hand_532 : decode b_M_hand 532 = .ok (.invokevirtual 559, 3) := by decide +kernel
theorem d_M_hand_535 : decode b_M_hand 535 = .ok (.aload_n 0, 1) := by decide +kernel
theorem d_M_hand_536 : decode b_M_hand 536 = .ok (.bipush 118, 2) := by decide +kernel
theorem d_M_hand_538 : decode b_M_hand 538 = .ok (.ldc 9, 2) := by decide +kernel
theorem d_M_hand_540 : decode b_M_hand 540 = .ok (.invokevirtual 559, 3) := by decide +kernel
theorem d_M_hand_543 : decode b_M_hand 543 = .ok (.aload_n 0, 1) := by decide +kernel
theorem d_M_hand_544 : decode b_M_hand 544 = .ok (.invokevirtual 905, 3) := by decide +kernel
theorem d_M_hand_547 : decode b_M_hand 547 = .ok (.aload_n 0, 1) := by decide +kernel
theorem d_M_hand_548 : decode b_M_hand 548 = .ok (.getfield 348, 3) := by decide +kernel
theorem d_M_hand_551 : decode b_M_hand 551 = .ok (.ireturn, 1) := by decide +kernel
abbrev b_M_handed : ByteArray := prog_14_method_157_code
def y_M_handed : MethodName := ⟨R_M, "handed", "(II)I"⟩
abbrev k_M_handed : Cond := .code y_M_handed b_M_handed 12 (some .int)
theorem ki_M_handed : k_M_handed ∈ lw_tg := List.mem_filter.mpr ⟨List.mem_append_right _ (List.mem_append_right _ (List.mem_append_right _ (List.mem_append_right _ (List.mem_append_right _ (List.mem_append_right _ (List.mem_append_right _ (List.mem_append_right _ (List.mem_append_right _ (List.mem_append_right _ (List.mem_append_right _ (List.mem_append_right _ (List.mem_append_left _ (List.mem_of_getElem? (i := 236) rfl))))))))))))), rfl⟩
theorem ks_M_handed : Cond.instanceMethod y_M_handed ∈ lw_tg := in_t 2874 (by decide +kernel)
theorem kx_M_handed : Cond.selects R_M y_M_handed y_M_handed ∈ lw_tg := in_t 2875 (by decide +kernel)
theorem hd_M_handed : y_M_handed.cls = R_M ∧ y_M_handed.cls ≠ "java/lang/invoke/MethodHandle" ∧ y_M_handed.cls ≠ "java/lang/invoke/VarHandle" ∧ (parseMethodDescriptor y_M_handed.desc).map (fun d => d.parameters.length) = some 2 := by decide +kernel
theorem d_M_handed_0 : decode b_M_handed 0 = .ok (.aload_n 0, 1) := by decide +kernel
theorem d_M_handed_1 : decode b_M_handed 1 = .ok (.getfield 332, 3) := by decide +kernel
theorem d_M_handed_4 : decode b_M_handed 4 = .ok (.istore_n 3, 1) := by decide +kernel
theorem d_M_handed_5 : decode b_M_handed 5 = .ok (.aload_n 0, 1) := by decide +kernel
theorem d_M_handed_6 : decode b_M_handed 6 = .ok (.iconst 0, 1) := by decide +kernel
theorem d_M_handed_7 : decode b_M_handed 7 = .ok (.putfield 332, 3) := by decide +kernel
theorem d_M_handed_10 : decode b_M_handed 10 = .ok (.aload_n 0, 1) := by decide +kernel
theorem d_M_handed_11 : decode b_M_handed 11 = .ok (.iload_n 1, 1) := by decide +kernel
theorem d_M_handed_12 : decode b_M_handed 12 = .ok (.iconst 1, 1) := by decide +kernel
theorem d_M_handed_13 : decode b_M_handed 13 = .ok (.invokevirtual 990, 3) := by decide +kernel
theorem d_M_handed_16 : decode b_M_handed 16 = .ok (.ifCond .eq 11, 3) := by decide +kernel
theorem d_M_handed_19 : decode b_M_handed 19 = .ok (.aload_n 0, 1) := by decide +kernel
theorem d_M_handed_20 : decode b_M_handed 20 = .ok (.iload_n 2, 1) := by decide +kernel
theorem d_M_handed_21 : decode b_M_handed 21 = .ok (.invokevirtual 916, 3) := by decide +kernel
theorem d_M_handed_24 : decode b_M_handed 24 = .ok (.ifCond .ne 5, 3) := by decide +kernel
theorem d_M_handed_27 : decode b_M_handed 27 = .ok (.iconst (-1), 1) := by decide +kernel
theorem d_M_handed_28 : decode b_M_handed 28 = .ok (.ireturn, 1) := by decide +kernel
theorem d_M_handed_29 : decode b_M_handed 29 = .ok (.aload_n 0, 1) := by decide +kernel
theorem d_M_handed_30 : decode b_M_handed 30 = .ok (.bipush 22, 2) := by decide +kernel
theorem d_M_handed_32 : decode b_M_handed 32 = .ok (.ldc_w 1009, 3) := by decide +kernel
theorem d_M_handed_35 : decode b_M_handed 35 = .ok (.iconst 0, 1) := by decide +kernel
theorem d_M_handed_36 : decode b_M_handed 36 = .ok (.iload_n 3, 1) := by decide +kernel
theorem d_M_handed_37 : decode b_M_handed 37 = .ok (.iconst 0, 1) := by decide +kernel
theorem d_M_handed_38 : decode b_M_handed 38 = .ok (.invokevirtual 522, 3) := by decide +kernel
theorem d_M_handed_41 : decode b_M_handed 41 = .ok (.ifCond .eq 23, 3) := by decide +kernel
theorem d_M_handed_44 : decode b_M_handed 44 = .ok (.aload_n 0, 1) := by decide +kernel
theorem d_M_handed_45 : decode b_M_handed 45 = .ok (.aload_n 0, 1) := by decide +kernel
theorem d_M_handed_46 : decode b_M_handed 46 = .ok (.iconst 0, 1) := by decide +kernel
theorem d_M_handed_47 : decode b_M_handed 47 = .ok (.iconst 2, 1) := by decide +kernel
theorem d_M_handed_48 : decode b_M_handed 48 = .ok (.invokevirtual 536, 3) := by decide +kernel
theorem d_M_handed_51 : decode b_M_handed 51 = .ok (.aload_n 0, 1) := by decide +kernel
theorem d_M_handed_52 : decode b_M_handed 52 = .ok (.iconst 0, 1) := by decide +kernel
theorem d_M_handed_53 : decode b_M_handed 53 = .ok (.iconst 2, 1) := by decide +kernel
theorem d_M_handed_54 : decode b_M_handed 54 = .ok (.invokevirtual 539, 3) := by decide +kernel
theorem d_M_handed_57 : decode b_M_handed 57 = .ok (.iconst 0, 1) := by decide +kernel
theorem d_M_handed_58 : decode b_M_handed 58 = .ok (.invokevirtual 694, 3) := by decide +kernel
theorem d_M_handed_61 : decode b_M_handed 61 = .ok (.ifCond .ne 6, 3) := by decide +kernel
theorem d_M_handed_64 : decode b_M_handed 64 = .ok (.bipush (-60), 2) := by decide +kernel
theorem d_M_handed_66 : decode b_M_handed 66 = .ok (.ireturn, 1) := by decide +kernel
theorem d_M_handed_67 : decode b_M_handed 67 = .ok (.aload_n 0, 1) := by decide +kernel
theorem d_M_handed_68 : decode b_M_handed 68 = .ok (.getfield 688, 3) := by decide +kernel
theorem d_M_handed_71 : decode b_M_handed 71 = .ok (.istore 4, 2) := by decide +kernel
theorem d_M_handed_73 : decode b_M_handed 73 = .ok (.aload_n 0, 1) := by decide +kernel
theorem d_M_handed_74 : decode b_M_handed 74 = .ok (.getfield 691, 3) := by decide +kernel
theorem d_M_handed_77 : decode b_M_handed 77 = .ok (.istore 5, 2) := by decide +kernel
theorem d_M_handed_79 : decode b_M_handed 79 = .ok (.aload_n 0, 1) := by decide +kernel
theorem d_M_handed_80 : decode b_M_handed 80 = .ok (.aload_n 0, 1) := by decide +kernel
theorem d_M_handed_81 : decode b_M_handed 81 = .ok (.iconst 0, 1) := by decide +kernel
theorem d_M_handed_82 : decode b_M_handed 82 = .ok (.iconst 2, 1) := by decide +kernel
theorem d_M_handed_83 : decode b_M_handed 83 = .ok (.invokevirtual 536, 3) := by decide +kernel
theorem d_M_handed_86 : decode b_M_handed 86 = .ok (.aload_n 0, 1) := by decide +kernel
theorem d_M_handed_87 : decode b_M_handed 87 = .ok (.iconst 0, 1) := by decide +kernel
theorem d_M_handed_88 : decode b_M_handed 88 = .ok (.iconst 2, 1) := by decide +kernel
theorem d_M_handed_89 : decode b_M_handed 89 = .ok (.invokevirtual 539, 3) := by decide +kernel
theorem d_M_handed_92 : decode b_M_handed 92 = .ok (.iconst 1, 1) := by decide +kernel
theorem d_M_handed_93 : decode b_M_handed 93 = .ok (.invokevirtual 694, 3) := by decide +kernel
theorem d_M_handed_96 : decode b_M_handed 96 = .ok (.ifCond .eq 6, 3) := by decide +kernel
theorem d_M_handed_99 : decode b_M_handed 99 = .ok (.bipush (-60), 2) := by decide +kernel
theorem d_M_handed_101 : decode b_M_handed 101 = .ok (.ireturn, 1) := by decide +kernel
theorem d_M_handed_102 : decode b_M_handed 102 = .ok (.aload_n 0, 1) := by decide +kernel
theorem d_M_handed_103 : decode b_M_handed 103 = .ok (.iconst 0, 1) := by decide +kernel
theorem d_M_handed_104 : decode b_M_handed 104 = .ok (.iconst 0, 1) := by decide +kernel
theorem d_M_handed_105 : decode b_M_handed 105 = .ok (.invokevirtual 665, 3) := by decide +kernel
theorem d_M_handed_108 : decode b_M_handed 108 = .ok (.ldc2_w 669, 3) := by decide +kernel
theorem d_M_handed_111 : decode b_M_handed 111 = .ok (.lcmp, 1) := by decide +kernel
theorem d_M_handed_112 : decode b_M_handed 112 = .ok (.ifCond .eq 6, 3) := by decide +kernel
theorem d_M_handed_115 : decode b_M_handed 115 = .ok (.bipush (-3), 2) := by decide +kernel
theorem d_M_handed_117 : decode b_M_handed 117 = .ok (.ireturn, 1) := by decide +kernel
theorem d_M_handed_118 : decode b_M_handed 118 = .ok (.aload_n 0, 1) := by decide +kernel
theorem d_M_handed_119 : decode b_M_handed 119 = .ok (.iconst 0, 1) := by decide +kernel
theorem d_M_handed_120 : decode b_M_handed 120 = .ok (.iconst 1, 1) := by decide +kernel
theorem d_M_handed_121 : decode b_M_handed 121 = .ok (.invokevirtual 665, 3) := by decide +kernel
theorem d_M_handed_124 : decode b_M_handed 124 = .ok (.ldc2_w 1007, 3) := by decide +kernel
theorem d_M_handed_127 : decode b_M_handed 127 = .ok (.lcmp, 1) := by decide +kernel
theorem d_M_handed_128 : decode b_M_handed 128 = .ok (.ifCond .eq 6, 3) := by decide +kernel
theorem d_M_handed_131 : decode b_M_handed 131 = .ok (.bipush (-40), 2) := by decide +kernel
theorem d_M_handed_133 : decode b_M_handed 133 = .ok (.ireturn, 1) := by decide +kernel
theorem d_M_handed_134 : decode b_M_handed 134 = .ok (.iconst 0, 1) := by decide +kernel
theorem d_M_handed_135 : decode b_M_handed 135 = .ok (.istore 6, 2) := by decide +kernel
theorem d_M_handed_137 : decode b_M_handed 137 = .ok (.iload 6, 2) := by decide +kernel
theorem d_M_handed_139 : decode b_M_handed 139 = .ok (.bipush 32, 2) := by decide +kernel
theorem d_M_handed_141 : decode b_M_handed 141 = .ok (.if_icmp .ge 28, 3) := by decide +kernel
theorem d_M_handed_144 : decode b_M_handed 144 = .ok (.aload_n 0, 1) := by decide +kernel
theorem d_M_handed_145 : decode b_M_handed 145 = .ok (.getfield 137, 3) := by decide +kernel
theorem d_M_handed_148 : decode b_M_handed 148 = .ok (.iload 6, 2) := by decide +kernel
theorem d_M_handed_150 : decode b_M_handed 150 = .ok (.aload_n 0, 1) := by decide +kernel
theorem d_M_handed_151 : decode b_M_handed 151 = .ok (.getfield 299, 3) := by decide +kernel
theorem d_M_handed_154 : decode b_M_handed 154 = .ok (.bipush 32, 2) := by decide +kernel
theorem d_M_handed_156 : decode b_M_handed 156 = .ok (.iload_n 1, 1) := by decide +kernel
theorem d_M_handed_157 : decode b_M_handed 157 = .ok (.imul, 1) := by decide +kernel
theorem d_M_handed_158 : decode b_M_handed 158 = .ok (.iload 6, 2) := by decide +kernel
theorem d_M_handed_160 : decode b_M_handed 160 = .ok (.iadd, 1) := by decide +kernel
theorem d_M_handed_161 : decode b_M_handed 161 = .ok (.baload, 1) := by decide +kernel
theorem d_M_handed_162 : decode b_M_handed 162 = .ok (.bastore, 1) := by decide +kernel
theorem d_M_handed_163 : decode b_M_handed 163 = .ok (.iinc 6 1, 3) := by decide +kernel
theorem d_M_handed_166 : decode b_M_handed 166 = .ok (.goto (-29), 3) := by decide +kernel
theorem d_M_handed_169 : decode b_M_handed 169 = .ok (.aload_n 0, 1) := by decide +kernel
theorem d_M_handed_170 : decode b_M_handed 170 = .ok (.ldc_w 516, 3) := by decide +kernel
theorem d_M_handed_173 : decode b_M_handed 173 = .ok (.aload_n 0, 1) := by decide +kernel
theorem d_M_handed_174 : decode b_M_handed 174 = .ok (.iconst 0, 1) := by decide +kernel
theorem d_M_handed_175 : decode b_M_handed 175 = .ok (.iconst 3, 1) := by decide +kernel
theorem d_M_handed_176 : decode b_M_handed 176 = .ok (.invokevirtual 536, 3) := by decide +kernel
theorem d_M_handed_179 : decode b_M_handed 179 = .ok (.aload_n 0, 1) := by decide +kernel
theorem d_M_handed_180 : decode b_M_handed 180 = .ok (.iconst 0, 1) := by decide +kernel
theorem d_M_handed_181 : decode b_M_handed 181 = .ok (.iconst 3, 1) := by decide +kernel
theorem d_M_handed_182 : decode b_M_handed 182 = .ok (.invokevirtual 539, 3) := by decide +kernel
theorem d_M_handed_185 : decode b_M_handed 185 = .ok (.bipush 6, 2) := by decide +kernel
theorem d_M_handed_187 : decode b_M_handed 187 = .ok (.invokevirtual 487, 3) := by decide +kernel
theorem d_M_handed_190 : decode b_M_handed 190 = .ok (.pop, 1) := by decide +kernel
theorem d_M_handed_191 : decode b_M_handed 191 = .ok (.aload_n 0, 1) := by decide +kernel
theorem d_M_handed_192 : decode b_M_handed 192 = .ok (.bipush 6, 2) := by decide +kernel
theorem d_M_handed_194 : decode b_M_handed 194 = .ok (.iconst 0, 1) := by decide +kernel
theorem d_M_handed_195 : decode b_M_handed 195 = .ok (.invokevirtual 665, 3) := by decide +kernel
theorem d_M_handed_198 : decode b_M_handed 198 = .ok (.aload_n 0, 1) := by decide +kernel
theorem d_M_handed_199 : decode b_M_handed 199 = .ok (.getfield 293, 3) := by decide +kernel
theorem d_M_handed_202 : decode b_M_handed 202 = .ok (.iload_n 1, 1) := by decide +kernel
theorem d_M_handed_203 : decode b_M_handed 203 = .ok (.iaload, 1) := by decide +kernel
theorem d_M_handed_204 : decode b_M_handed 204 = .ok (.i2l, 1) := by decide +kernel
theorem d_M_handed_205 : decode b_M_handed 205 = .ok (.lcmp, 1) := by decide +kernel
theorem d_M_handed_206 : decode b_M_handed 206 = .ok (.ifCond .eq 6, 3) := by decide +kernel
theorem d_M_handed_209 : decode b_M_handed 209 = .ok (.bipush (-31), 2) := by decide +kernel
theorem d_M_handed_211 : decode b_M_handed 211 = .ok (.ireturn, 1) := by decide +kernel
theorem d_M_handed_212 : decode b_M_handed 212 = .ok (.aload_n 0, 1) := by decide +kernel
theorem d_M_handed_213 : decode b_M_handed 213 = .ok (.aload_n 0, 1) := by decide +kernel
theorem d_M_handed_214 : decode b_M_handed 214 = .ok (.bipush 6, 2) := by decide +kernel
theorem d_M_handed_216 : decode b_M_handed 216 = .ok (.iconst 2, 1) := by decide +kernel
theorem d_M_handed_217 : decode b_M_handed 217 = .ok (.invokevirtual 536, 3) := by decide +kernel
theorem d_M_handed_220 : decode b_M_handed 220 = .ok (.aload_n 0, 1) := by decide +kernel
theorem d_M_handed_221 : decode b_M_handed 221 = .ok (.bipush 6, 2) := by decide +kernel
theorem d_M_handed_223 : decode b_M_handed 223 = .ok (.iconst 2, 1) := by decide +kernel
theorem d_M_handed_224 : decode b_M_handed 224 = .ok (.invokevirtual 539, 3) := by decide +kernel
theorem d_M_handed_227 : decode b_M_handed 227 = .ok (.iconst 4, 1) := by decide +kernel
theorem d_M_handed_228 : decode b_M_handed 228 = .ok (.invokevirtual 476, 3) := by decide +kernel
theorem d_M_handed_231 : decode b_M_handed 231 = .ok (.pop, 1) := by decide +kernel
theorem d_M_handed_232 : decode b_M_handed 232 = .ok (.aload_n 0, 1) := by decide +kernel
theorem d_M_handed_233 : decode b_M_handed 233 = .ok (.aload_n 0, 1) := by decide +kernel
theorem d_M_handed_234 : decode b_M_handed 234 = .ok (.getfield 137, 3) := by decide +kernel
theorem d_M_handed_237 : decode b_M_handed 237 = .ok (.aload_n 0, 1) := by decide +kernel
theorem d_M_handed_238 : decode b_M_handed 238 = .ok (.getfield 293, 3) := by decide +kernel
theorem d_M_handed_241 : decode b_M_handed 241 = .ok (.iload_n 1, 1) := by decide +kernel
theorem d_M_handed_242 : decode b_M_handed 242 = .ok (.iaload, 1) := by decide +kernel
theorem d_M_handed_243 : decode b_M_handed 243 = .ok (.bipush 14, 2) := by decide +kernel
theorem d_M_handed_245 : decode b_M_handed 245 = .ok (.aload_n 0, 1) := by decide +kernel
theorem d_M_handed_246 : decode b_M_handed 246 = .ok (.getfield 470, 3) := by decide +kernel
theorem d_M_handed_249 : decode b_M_handed 249 = .ok (.aload_n 0, 1) := by decide +kernel
theorem d_M_handed_250 : decode b_M_handed 250 = .ok (.getfield 473, 3) := by decide +kernel
theorem d_M_handed_253 : decode b_M_handed 253 = .ok (.sipush 4200, 3) := by decide +kernel
theorem d_M_handed_256 : decode b_M_handed 256 = .ok (.invokevirtual 765, 3) := by decide +kernel
theorem d_M_handed_259 : decode b_M_handed 259 = .ok (.istore 6, 2) := by decide +kernel
theorem d_M_handed_261 : decode b_M_handed 261 = .ok (.iload 6, 2) := by decide +kernel
theorem d_M_handed_263 : decode b_M_handed 263 = .ok (.ifCond .ge 6, 3) := by decide +kernel
theorem d_M_handed_266 : decode b_M_handed 266 = .ok (.bipush (-31), 2) := by decide +kernel
theorem d_M_handed_268 : decode b_M_handed 268 = .ok (.ireturn, 1) := by decide +kernel
theorem d_M_handed_269 : decode b_M_handed 269 = .ok (.aload_n 0, 1) := by decide +kernel
theorem d_M_handed_270 : decode b_M_handed 270 = .ok (.bipush 29, 2) := by decide +kernel
theorem d_M_handed_272 : decode b_M_handed 272 = .ok (.ldc_w 1011, 3) := by decide +kernel
theorem d_M_handed_275 : decode b_M_handed 275 = .ok (.sipush 4200, 3) := by decide +kernel
theorem d_M_handed_278 : decode b_M_handed 278 = .ok (.sipush 4200, 3) := by decide +kernel
theorem d_M_handed_281 : decode b_M_handed 281 = .ok (.iload 6, 2) := by decide +kernel
theorem d_M_handed_283 : decode b_M_handed 283 = .ok (.iadd, 1) := by decide +kernel
theorem d_M_handed_284 : decode b_M_handed 284 = .ok (.iconst 5, 1) := by decide +kernel
theorem d_M_handed_285 : decode b_M_handed 285 = .ok (.invokevirtual 522, 3) := by decide +kernel
theorem d_M_handed_288 : decode b_M_handed 288 = .ok (.ifCond .eq 23, 3) := by decide +kernel
theorem d_M_handed_291 : decode b_M_handed 291 = .ok (.aload_n 0, 1) := by decide +kernel
theorem d_M_handed_292 : decode b_M_handed 292 = .ok (.aload_n 0, 1) := by decide +kernel
theorem d_M_handed_293 : decode b_M_handed 293 = .ok (.iconst 5, 1) := by decide +kernel
theorem d_M_handed_294 : decode b_M_handed 294 = .ok (.iconst 0, 1) := by decide +kernel
theorem d_M_handed_295 : decode b_M_handed 295 = .ok (.invokevirtual 536, 3) := by decide +kernel
theorem d_M_handed_298 : decode b_M_handed 298 = .ok (.aload_n 0, 1) := by decide +kernel
theorem d_M_handed_299 : decode b_M_handed 299 = .ok (.iconst 5, 1) := by decide +kernel
theorem d_M_handed_300 : decode b_M_handed 300 = .ok (.iconst 0, 1) := by decide +kernel
theorem d_M_handed_301 : decode b_M_handed 301 = .ok (.invokevirtual 539, 3) := by decide +kernel
theorem d_M_handed_304 : decode b_M_handed 304 = .ok (.iconst 0, 1) := by decide +kernel
theorem d_M_handed_305 : decode b_M_handed 305 = .ok (.invokevirtual 694, 3) := by decide +kernel
theorem d_M_handed_308 : decode b_M_handed 308 = .ok (.ifCond .ne 6, 3) := by decide +kernel
theorem d_M_handed_311 : decode b_M_handed 311 = .ok (.bipush (-60), 2) := by decide +kernel
theorem d_M_handed_313 : decode b_M_handed 313 = .ok (.ireturn, 1) := by decide +kernel
theorem d_M_handed_314 : decode b_M_handed 314 = .ok (.aload_n 0, 1) := by decide +kernel
theorem d_M_handed_315 : decode b_M_handed 315 = .ok (.ldc_w 530, 3) := by decide +kernel
theorem d_M_handed_318 : decode b_M_handed 318 = .ok (.aload_n 0, 1) := by decide +kernel
theorem d_M_handed_319 : decode b_M_handed 319 = .ok (.getfield 688, 3) := by decide +kernel
theorem d_M_handed_322 : decode b_M_handed 322 = .ok (.aload_n 0, 1) := by decide +kernel
theorem d_M_handed_323 : decode b_M_handed 323 = .ok (.getfield 691, 3) := by decide +kernel
theorem d_M_handed_326 : decode b_M_handed 326 = .ok (.iconst 4, 1) := by decide +kernel
theorem d_M_handed_327 : decode b_M_handed 327 = .ok (.invokevirtual 487, 3) := by decide +kernel
theorem d_M_handed_330 : decode b_M_handed 330 = .ok (.pop, 1) := by decide +kernel
theorem d_M_handed_331 : decode b_M_handed 331 = .ok (.aload_n 0, 1) := by decide +kernel
theorem d_M_handed_332 : decode b_M_handed 332 = .ok (.aload_n 0, 1) := by decide +kernel
theorem d_M_handed_333 : decode b_M_handed 333 = .ok (.iconst 5, 1) := by decide +kernel
theorem d_M_handed_334 : decode b_M_handed 334 = .ok (.iconst 0, 1) := by decide +kernel
theorem d_M_handed_335 : decode b_M_handed 335 = .ok (.invokevirtual 536, 3) := by decide +kernel
theorem d_M_handed_338 : decode b_M_handed 338 = .ok (.aload_n 0, 1) := by decide +kernel
theorem d_M_handed_339 : decode b_M_handed 339 = .ok (.iconst 5, 1) := by decide +kernel
theorem d_M_handed_340 : decode b_M_handed 340 = .ok (.iconst 0, 1) := by decide +kernel
theorem d_M_handed_341 : decode b_M_handed 341 = .ok (.invokevirtual 539, 3) := by decide +kernel
theorem d_M_handed_344 : decode b_M_handed 344 = .ok (.iconst 1, 1) := by decide +kernel
theorem d_M_handed_345 : decode b_M_handed 345 = .ok (.invokevirtual 694, 3) := by decide +kernel
theorem d_M_handed_348 : decode b_M_handed 348 = .ok (.ifCond .ne 40, 3) := by decide +kernel
theorem d_M_handed_351 : decode b_M_handed 351 = .ok (.aload_n 0, 1) := by decide +kernel
theorem d_M_handed_352 : decode b_M_handed 352 = .ok (.iconst 4, 1) := by decide +kernel
theorem d_M_handed_353 : decode b_M_handed 353 = .ok (.iconst 2, 1) := by decide +kernel
theorem d_M_handed_354 : decode b_M_handed 354 = .ok (.invokevirtual 675, 3) := by decide +kernel
theorem d_M_handed_357 : decode b_M_handed 357 = .ok (.ifCond .eq 31, 3) := by decide +kernel
theorem d_M_handed_360 : decode b_M_handed 360 = .ok (.aload_n 0, 1) := by decide +kernel
theorem d_M_handed_361 : decode b_M_handed 361 = .ok (.iconst 4, 1) := by decide +kernel
theorem d_M_handed_362 : decode b_M_handed 362 = .ok (.iconst 3, 1) := by decide +kernel
theorem d_M_handed_363 : decode b_M_handed 363 = .ok (.invokevirtual 675, 3) := by decide +kernel
theorem d_M_handed_366 : decode b_M_handed 366 = .ok (.ifCond .eq 22, 3) := by decide +kernel
theorem d_M_handed_369 : decode b_M_handed 369 = .ok (.aload_n 0, 1) := by decide +kernel
theorem d_M_handed_370 : decode b_M_handed 370 = .ok (.iconst 4, 1) := by decide +kernel
theorem d_M_handed_371 : decode b_M_handed 371 = .ok (.iconst 4, 1) := by decide +kernel
theorem d_M_handed_372 : decode b_M_handed 372 = .ok (.invokevirtual 675, 3) := by decide +kernel
theorem d_M_handed_375 : decode b_M_handed 375 = .ok (.ifCond .eq 13, 3) := by decide +kernel
theorem d_M_handed_378 : decode b_M_handed 378 = .ok (.aload_n 0, 1) := by decide +kernel
theorem d_M_handed_379 : decode b_M_handed 379 = .ok (.iconst 4, 1) := by decide +kernel
theorem d_M_handed_380 : decode b_M_handed 380 = .ok (.bipush 6, 2) := by decide +kernel
theorem d_M_handed_382 : decode b_M_handed 382 = .ok (.invokevirtual 675, 3) := by decide +kernel
theorem d_M_handed_385 : decode b_M_handed 385 = .ok (.ifCond .ne 6, 3) := by decide +kernel
theorem d_M_handed_388 : decode b_M_handed 388 = .ok (.bipush (-60), 2) := by decide +kernel
theorem d_M_handed_390 : decode b_M_handed 390 = .ok (.ireturn, 1) := by decide +kernel
theorem d_M_handed_391 : decode b_M_handed 391 = .ok (.aload_n 0, 1) := by decide +kernel
theorem d_M_handed_392 : decode b_M_handed 392 = .ok (.iconst 5, 1) := by decide +kernel
theorem d_M_handed_393 : decode b_M_handed 393 = .ok (.iconst 2, 1) := by decide +kernel
theorem d_M_handed_394 : decode b_M_handed 394 = .ok (.invokevirtual 675, 3) := by decide +kernel
theorem d_M_handed_397 : decode b_M_handed 397 = .ok (.ifCond .eq 21, 3) := by decide +kernel
theorem d_M_handed_400 : decode b_M_handed 400 = .ok (.aload_n 0, 1) := by decide +kernel
theorem d_M_handed_401 : decode b_M_handed 401 = .ok (.aload_n 0, 1) := by decide +kernel
theorem d_M_handed_402 : decode b_M_handed 402 = .ok (.iconst 5, 1) := by decide +kernel
theorem d_M_handed_403 : decode b_M_handed 403 = .ok (.iconst 2, 1) := by decide +kernel
theorem d_M_handed_404 : decode b_M_handed 404 = .ok (.invokevirtual 731, 3) := by decide +kernel
theorem d_M_handed_407 : decode b_M_handed 407 = .ok (.aload_n 0, 1) := by decide +kernel
theorem d_M_handed_408 : decode b_M_handed 408 = .ok (.getfield 18, 3) := by decide +kernel
theorem d_M_handed_411 : decode b_M_handed 411 = .ok (.i2l, 1) := by decide +kernel
theorem d_M_handed_412 : decode b_M_handed 412 = .ok (.invokevirtual 771, 3) := by decide +kernel
theorem d_M_handed_415 : decode b_M_handed 415 = .ok (.ifCond .eq 6, 3) := by decide +kernel
theorem d_M_handed_418 : decode b_M_handed 418 = .ok (.bipush (-37), 2) := by decide +kernel
theorem d_M_handed_420 : decode b_M_handed 420 = .ok (.ireturn, 1) := by decide +kernel
theorem d_M_handed_421 : decode b_M_handed 421 = .ok (.aload_n 0, 1) := by decide +kernel
theorem d_M_handed_422 : decode b_M_handed 422 = .ok (.aload_n 0, 1) := by decide +kernel
theorem d_M_handed_423 : decode b_M_handed 423 = .ok (.aload_n 0, 1) := by decide +kernel
theorem d_M_handed_424 : decode b_M_handed 424 = .ok (.iconst 4, 1) := by decide +kernel
theorem d_M_handed_425 : decode b_M_handed 425 = .ok (.iconst 2, 1) := by decide +kernel
theorem d_M_handed_426 : decode b_M_handed 426 = .ok (.invokevirtual 536, 3) := by decide +kernel
theorem d_M_handed_429 : decode b_M_handed 429 = .ok (.aload_n 0, 1) := by decide +kernel
theorem d_M_handed_430 : decode b_M_handed 430 = .ok (.iconst 4, 1) := by decide +kernel
theorem d_M_handed_431 : decode b_M_handed 431 = .ok (.iconst 2, 1) := by decide +kernel
theorem d_M_handed_432 : decode b_M_handed 432 = .ok (.invokevirtual 539, 3) := by decide +kernel
theorem d_M_handed_435 : decode b_M_handed 435 = .ok (.invokevirtual 546, 3) := by decide +kernel
theorem d_M_handed_438 : decode b_M_handed 438 = .ok (.aload_n 0, 1) := by decide +kernel
theorem d_M_handed_439 : decode b_M_handed 439 = .ok (.bipush 11, 2) := by decide +kernel
theorem d_M_handed_441 : decode b_M_handed 441 = .ok (.iconst 1, 1) := by decide +kernel
theorem d_M_handed_442 : decode b_M_handed 442 = .ok (.invokevirtual 539, 3) := by decide +kernel
theorem d_M_handed_445 : decode b_M_handed 445 = .ok (.bipush 48, 2) := by decide +kernel
theorem d_M_handed_447 : decode b_M_handed 447 = .ok (.invokevirtual 476, 3) := by decide +kernel
theorem d_M_handed_450 : decode b_M_handed 450 = .ok (.pop, 1) := by decide +kernel
theorem d_M_handed_451 : decode b_M_handed 451 = .ok (.aload_n 0, 1) := by decide +kernel
theorem d_M_handed_452 : decode b_M_handed 452 = .ok (.getfield 473, 3) := by decide +kernel
theorem d_M_handed_455 : decode b_M_handed 455 = .ok (.aload_n 0, 1) := by decide +kernel
theorem d_M_handed_456 : decode b_M_handed 456 = .ok (.getfield 470, 3) := by decide +kernel
theorem d_M_handed_459 : decode b_M_handed 459 = .ok (.isub, 1) := by decide +kernel
theorem d_M_handed_460 : decode b_M_handed 460 = .ok (.bipush 40, 2) := by decide +kernel
theorem d_M_handed_462 : decode b_M_handed 462 = .ok (.if_icmp .le 6, 3) := by decide +kernel
theorem d_M_handed_465 : decode b_M_handed 465 = .ok (.bipush (-60), 2) := by decide +kernel
theorem d_M_handed_467 : decode b_M_handed 467 = .ok (.ireturn, 1) := by decide +kernel
theorem d_M_handed_468 : decode b_M_handed 468 = .ok (.aload_n 0, 1) := by decide +kernel
theorem d_M_handed_469 : decode b_M_handed 469 = .ok (.iconst 4, 1) := by decide +kernel
theorem d_M_handed_470 : decode b_M_handed 470 = .ok (.iconst 0, 1) := by decide +kernel
theorem d_M_handed_471 : decode b_M_handed 471 = .ok (.aload_n 0, 1) := by decide +kernel
theorem d_M_handed_472 : decode b_M_handed 472 = .ok (.getfield 140, 3) := by decide +kernel
theorem d_M_handed_475 : decode b_M_handed 475 = .ok (.invokevirtual 781, 3) := by decide +kernel
theorem d_M_handed_478 : decode b_M_handed 478 = .ok (.istore 7, 2) := by decide +kernel
theorem d_M_handed_480 : decode b_M_handed 480 = .ok (.iload 7, 2) := by decide +kernel
theorem d_M_handed_482 : decode b_M_handed 482 = .ok (.ifCond .ne 6, 3) := by decide +kernel
theorem d_M_handed_485 : decode b_M_handed 485 = .ok (.bipush (-14), 2) := by decide +kernel
theorem d_M_handed_487 : decode b_M_handed 487 = .ok (.ireturn, 1) := by decide +kernel
theorem d_M_handed_488 : decode b_M_handed 488 = .ok (.iconst 0, 1) := by decide +kernel
theorem d_M_handed_489 : decode b_M_handed 489 = .ok (.istore 8, 2) := by decide +kernel
theorem d_M_handed_491 : decode b_M_handed 491 = .ok (.iload 8, 2) := by decide +kernel
theorem d_M_handed_493 : decode b_M_handed 493 = .ok (.bipush 8, 2) := by decide +kernel
theorem d_M_handed_495 : decode b_M_handed 495 = .ok (.if_icmp .ge 24, 3) := by decide +kernel
theorem d_M_handed_498 : decode b_M_handed 498 = .ok (.aload_n 0, 1) := by decide +kernel
theorem d_M_handed_499 : decode b_M_handed 499 = .ok (.getfield 184, 3) := by decide +kernel
theorem d_M_handed_502 : decode b_M_handed 502 = .ok (.bipush 8, 2) := by decide +kernel
theorem d_M_handed_504 : decode b_M_handed 504 = .ok (.iload_n 2, 1) := by decide +kernel
theorem d_M_handed_505 : decode b_M_handed 505 = .ok (.imul, 1) := by decide +kernel
theorem d_M_handed_506 : decode b_M_handed 506 = .ok (.iload 8, 2) := by decide +kernel
theorem d_M_handed_508 : decode b_M_handed 508 = .ok (.iadd, 1) := by decide +kernel
theorem d_M_handed_509 : decode b_M_handed 509 = .ok (.baload, 1) := by decide +kernel
theorem d_M_handed_510 : decode b_M_handed 510 = .ok (.ifCond .eq 9, 3) := by decide +kernel
theorem d_M_handed_513 : decode b_M_handed 513 = .ok (.iinc 8 1, 3) := by decide +kernel
theorem d_M_handed_516 : decode b_M_handed 516 = .ok (.goto (-25), 3) := by decide +kernel
theorem d_M_handed_519 : decode b_M_handed 519 = .ok (.iload 8, 2) := by decide +kernel
theorem d_M_handed_521 : decode b_M_handed 521 = .ok (.bipush 8, 2) := by decide +kernel
theorem d_M_handed_523 : decode b_M_handed 523 = .ok (.if_icmp .ne 6, 3) := by decide +kernel
theorem d_M_handed_526 : decode b_M_handed 526 = .ok (.bipush (-2), 2) := by decide +kernel
theorem d_M_handed_528 : decode b_M_handed 528 = .ok (.ireturn, 1) := by decide +kernel
theorem d_M_handed_529 : decode b_M_handed 529 = .ok (.bipush 8, 2) := by decide +kernel
theorem d_M_handed_531 : decode b_M_handed 531 = .ok (.iload_n 2, 1) := by decide +kernel
theorem d_M_handed_532 : decode b_M_handed 532 = .ok (.imul, 1) := by decide +kernel
theorem d_M_handed_533 : decode b_M_handed 533 = .ok (.iload 8, 2) := by decide +kernel
theorem d_M_handed_535 : decode b_M_handed 535 = .ok (.iadd, 1) := by decide +kernel
theorem d_M_handed_536 : decode b_M_handed 536 = .ok (.istore 9, 2) := by decide +kernel
theorem d_M_handed_538 : decode b_M_handed 538 = .ok (.aload_n 0, 1) := by decide +kernel
theorem d_M_handed_539 : decode b_M_handed 539 = .ok (.getfield 184, 3) := by decide +kernel
theorem d_M_handed_542 : decode b_M_handed 542 = .ok (.iload 9, 2) := by decide +kernel
theorem d_M_handed_544 : decode b_M_handed 544 = .ok (.iconst 1, 1) := by decide +kernel
theorem d_M_handed_545 : decode b_M_handed 545 = .ok (.bastore, 1) := by decide +kernel
theorem d_M_handed_546 : decode b_M_handed 546 = .ok (.aload_n 0, 1) := by decide +kernel
theorem d_M_handed_547 : decode b_M_handed 547 = .ok (.getfield 200, 3) := by decide +kernel
theorem d_M_handed_550 : decode b_M_handed 550 = .ok (.iload 9, 2) := by decide +kernel
theorem d_M_handed_552 : decode b_M_handed 552 = .ok (.iload 7, 2) := by decide +kernel
theorem d_M_handed_554 : decode b_M_handed 554 = .ok (.iastore, 1) := by decide +kernel
theorem d_M_handed_555 : decode b_M_handed 555 = .ok (.iconst 0, 1) := by decide +kernel
theorem d_M_handed_556 : decode b_M_handed 556 = .ok (.istore 10, 2) := by decide +kernel
theorem d_M_handed_558 : decode b_M_handed 558 = .ok (.iload 10, 2) := by decide +kernel
theorem d_M_handed_560 : decode b_M_handed 560 = .ok (.bipush 32, 2) := by decide +kernel
theorem d_M_handed_562 : decode b_M_handed 562 = .ok (.if_icmp .ge 29, 3) := by decide +kernel
theorem d_M_handed_565 : decode b_M_handed 565 = .ok (.aload_n 0, 1) := by decide +kernel
theorem d_M_handed_566 : decode b_M_handed 566 = .ok (.getfield 191, 3) := by decide +kernel
theorem d_M_handed_569 : decode b_M_handed 569 = .ok (.bipush 32, 2) := by decide +kernel
theorem d_M_handed_571 : decode b_M_handed 571 = .ok (.iload 9, 2) := by decide +kernel
theorem d_M_handed_573 : decode b_M_handed 573 = .ok (.imul, 1) := by decide +kernel
theorem d_M_handed_574 : decode b_M_handed 574 = .ok (.iload 10, 2) := by decide +kernel
theorem d_M_handed_576 : decode b_M_handed 576 = .ok (.iadd, 1) := by decide +kernel
theorem d_M_handed_577 : decode b_M_handed 577 = .ok (.aload_n 0, 1) := by decide +kernel
theorem d_M_handed_578 : decode b_M_handed 578 = .ok (.getfield 140, 3) := by decide +kernel
theorem d_M_handed_581 : decode b_M_handed 581 = .ok (.iload 10, 2) := by decide +kernel
theorem d_M_handed_583 : decode b_M_handed 583 = .ok (.baload, 1) := by decide +kernel
theorem d_M_handed_584 : decode b_M_handed 584 = .ok (.bastore, 1) := by decide +kernel
theorem d_M_handed_585 : decode b_M_handed 585 = .ok (.iinc 10 1, 3) := by decide +kernel
theorem d_M_handed_588 : decode b_M_handed 588 = .ok (.goto (-30), 3) := by decide +kernel
theorem d_M_handed_591 : decode b_M_handed 591 = .ok (.aload_n 0, 1) := by decide +kernel
theorem d_M_handed_592 : decode b_M_handed 592 = .ok (.getfield 197, 3) := by decide +kernel
theorem d_M_handed_595 : decode b_M_handed 595 = .ok (.iload 9, 2) := by decide +kernel
theorem d_M_handed_597 : decode b_M_handed 597 = .ok (.aload_n 0, 1) := by decide +kernel
theorem d_M_handed_598 : decode b_M_handed 598 = .ok (.iconst 4, 1) := by decide +kernel
theorem d_M_handed_599 : decode b_M_handed 599 = .ok (.iconst 3, 1) := by decide +kernel
theorem d_M_handed_600 : decode b_M_handed 600 = .ok (.invokevirtual 704, 3) := by decide +kernel
theorem d_M_handed_603 : decode b_M_handed 603 = .ok (.iastore, 1) := by decide +kernel
theorem d_M_handed_604 : decode b_M_handed 604 = .ok (.aload_n 0, 1) := by decide +kernel
theorem d_M_handed_605 : decode b_M_handed 605 = .ok (.getfield 203, 3) := by decide +kernel
theorem d_M_handed_608 : decode b_M_handed 608 = .ok (.iload 9, 2) := by decide +kernel
theorem d_M_handed_610 : decode b_M_handed 610 = .ok (.aload_n 0, 1) := by decide +kernel
theorem d_M_handed_611 : decode b_M_handed 611 = .ok (.iconst 4, 1) := by decide +kernel
theorem d_M_handed_612 : decode b_M_handed 612 = .ok (.iconst 4, 1) := by decide +kernel
theorem d_M_handed_613 : decode b_M_handed 613 = .ok (.invokevirtual 731, 3) := by decide +kernel
theorem d_M_handed_616 : decode b_M_handed 616 = .ok (.lastore, 1) := by decide +kernel
theorem d_M_handed_617 : decode b_M_handed 617 = .ok (.aload_n 0, 1) := by decide +kernel
theorem d_M_handed_618 : decode b_M_handed 618 = .ok (.getfield 206, 3) := by decide +kernel
theorem d_M_handed_621 : decode b_M_handed 621 = .ok (.iload 9, 2) := by decide +kernel
theorem d_M_handed_623 : decode b_M_handed 623 = .ok (.aload_n 0, 1) := by decide +kernel
theorem d_M_handed_624 : decode b_M_handed 624 = .ok (.iconst 4, 1) := by decide +kernel
theorem d_M_handed_625 : decode b_M_handed 625 = .ok (.iconst 5, 1) := by decide +kernel
theorem d_M_handed_626 : decode b_M_handed 626 = .ok (.invokevirtual 675, 3) := by decide +kernel
theorem d_M_handed_629 : decode b_M_handed 629 = .ok (.ifCond .eq 12, 3) := by decide +kernel
theorem d_M_handed_632 : decode b_M_handed 632 = .ok (.aload_n 0, 1) := by decide +kernel
theorem d_M_handed_633 : decode b_M_handed 633 = .ok (.iconst 4, 1) := by decide +kernel
theorem d_M_handed_634 : decode b_M_handed 634 = .ok (.iconst 5, 1) := by decide +kernel
theorem d_M_handed_635 : decode b_M_handed 635 = .ok (.invokevirtual 731, 3) := by decide +kernel
theorem d_M_handed_638 : decode b_M_handed 638 = .ok (.goto 6, 3) := by decide +kernel
theorem d_M_handed_641 : decode b_M_handed 641 = .ok (.ldc2_w 459, 3) := by decide +kernel
theorem d_M_handed_644 : decode b_M_handed 644 = .ok (.lastore, 1) := by decide +kernel
theorem d_M_handed_645 : decode b_M_handed 645 = .ok (.aload_n 0, 1) := by decide +kernel
theorem d_M_handed_646 : decode b_M_handed 646 = .ok (.getfield 209, 3) := by decide +kernel
theorem d_M_handed_649 : decode b_M_handed 649 = .ok (.iload 9, 2) := by decide +kernel
theorem d_M_handed_651 : decode b_M_handed 651 = .ok (.aload_n 0, 1) := by decide +kernel
theorem d_M_handed_652 : decode b_M_handed 652 = .ok (.iconst 4, 1) := by decide +kernel
theorem d_M_handed_653 : decode b_M_handed 653 = .ok (.bipush 6, 2) := by decide +kernel
theorem d_M_handed_655 : decode b_M_handed 655 = .ok (.invokevirtual 731, 3) := by decide +kernel
theorem d_M_handed_658 : decode b_M_handed 658 = .ok (.lastore, 1) := by decide +kernel
theorem d_M_handed_659 : decode b_M_handed 659 = .ok (.aload_n 0, 1) := by decide +kernel
theorem d_M_handed_660 : decode b_M_handed 660 = .ok (.getfield 212, 3) := by decide +kernel
theorem d_M_handed_663 : decode b_M_handed 663 = .ok (.iload 9, 2) := by decide +kernel
theorem d_M_handed_665 : decode b_M_handed 665 = .ok (.aload_n 0, 1) := by decide +kernel
theorem d_M_handed_666 : decode b_M_handed 666 = .ok (.iconst 4, 1) := by decide +kernel
theorem d_M_handed_667 : decode b_M_handed 667 = .ok (.bipush 7, 2) := by decide +kernel
theorem d_M_handed_669 : decode b_M_handed 669 = .ok (.invokevirtual 675, 3) := by decide +kernel
theorem d_M_handed_672 : decode b_M_handed 672 = .ok (.ifCond .eq 13, 3) := by decide +kernel
theorem d_M_handed_675 : decode b_M_handed 675 = .ok (.aload_n 0, 1) := by decide +kernel
theorem d_M_handed_676 : decode b_M_handed 676 = .ok (.iconst 4, 1) := by decide +kernel
theorem d_M_handed_677 : decode b_M_handed 677 = .ok (.bipush 7, 2) := by decide +kernel
theorem d_M_handed_679 : decode b_M_handed 679 = .ok (.invokevirtual 731, 3) := by decide +kernel
theorem d_M_handed_682 : decode b_M_handed 682 = .ok (.goto 6, 3) := by decide +kernel
theorem d_M_handed_685 : decode b_M_handed 685 = .ok (.ldc2_w 459, 3) := by decide +kernel
theorem d_M_handed_688 : decode b_M_handed 688 = .ok (.lastore, 1) := by decide +kernel
theorem d_M_handed_689 : decode b_M_handed 689 = .ok (.aload_n 0, 1) := by decide +kernel
theorem d_M_handed_690 : decode b_M_handed 690 = .ok (.getfield 194, 3) := by decide +kernel
theorem d_M_handed_693 : decode b_M_handed 693 = .ok (.iload 9, 2) := by decide +kernel
theorem d_M_handed_695 : decode b_M_handed 695 = .ok (.iload 5, 2) := by decide +kernel
theorem d_M_handed_697 : decode b_M_handed 697 = .ok (.iload 4, 2) := by decide +kernel
theorem d_M_handed_699 : decode b_M_handed 699 = .ok (.isub, 1) := by decide +kernel
theorem d_M_handed_700 : decode b_M_handed 700 = .ok (.iastore, 1) := by decide +kernel
theorem d_M_handed_701 : decode b_M_handed 701 = .ok (.iconst 0, 1) := by decide +kernel
theorem d_M_handed_702 : decode b_M_handed 702 = .ok (.istore 10, 2) := by decide +kernel
theorem d_M_handed_704 : decode b_M_handed 704 = .ok (.iload 10, 2) := by decide +kernel
theorem d_M_handed_706 : decode b_M_handed 706 = .ok (.aload_n 0, 1) := by decide +kernel
theorem d_M_handed_707 : decode b_M_handed 707 = .ok (.getfield 194, 3) := by decide +kernel
theorem d_M_handed_710 : decode b_M_handed 710 = .ok (.iload 9, 2) := by decide +kernel
theorem d_M_handed_712 : decode b_M_handed 712 = .ok (.iaload, 1) := by decide +kernel
theorem d_M_handed_713 : decode b_M_handed 713 = .ok (.if_icmp .ge 33, 3) := by decide +kernel
theorem d_M_handed_716 : decode b_M_handed 716 = .ok (.aload_n 0, 1) := by decide +kernel
theorem d_M_handed_717 : decode b_M_handed 717 = .ok (.getfield 188, 3) := by decide +kernel
theorem d_M_handed_720 : decode b_M_handed 720 = .ok (.sipush 4200, 3) := by decide +kernel
theorem d_M_handed_723 : decode b_M_handed 723 = .ok (.iload 9, 2) := by decide +kernel
theorem d_M_handed_725 : decode b_M_handed 725 = .ok (.imul, 1) := by decide +kernel
theorem d_M_handed_726 : decode b_M_handed 726 = .ok (.iload 10, 2) := by decide +kernel
theorem d_M_handed_728 : decode b_M_handed 728 = .ok (.iadd, 1) := by decide +kernel
theorem d_M_handed_729 : decode b_M_handed 729 = .ok (.aload_n 0, 1) := by decide +kernel
theorem d_M_handed_730 : decode b_M_handed 730 = .ok (.getfield 10, 3) := by decide +kernel
theorem d_M_handed_733 : decode b_M_handed 733 = .ok (.iload 4, 2) := by decide +kernel
theorem d_M_handed_735 : decode b_M_handed 735 = .ok (.iload 10, 2) := by decide +kernel
theorem d_M_handed_737 : decode b_M_handed 737 = .ok (.iadd, 1) := by decide +kernel
theorem d_M_handed_738 : decode b_M_handed 738 = .ok (.baload, 1) := by decide +kernel
theorem d_M_handed_739 : decode b_M_handed 739 = .ok (.bastore, 1) := by decide +kernel
theorem d_M_handed_740 : decode b_M_handed 740 = .ok (.iinc 10 1, 3) := by decide +kernel
theorem d_M_handed_743 : decode b_M_handed 743 = .ok (.goto (-39), 3) := by decide +kernel
theorem d_M_handed_746 : decode b_M_handed 746 = .ok (.aload_n 0, 1) := by decide +kernel
theorem d_M_handed_747 : decode b_M_handed 747 = .ok (.getfield 221, 3) := by decide +kernel
theorem d_M_handed_750 : decode b_M_handed 750 = .ok (.iload 9, 2) := by decide +kernel
theorem d_M_handed_752 : decode b_M_handed 752 = .ok (.aload_n 0, 1) := by decide +kernel
theorem d_M_handed_753 : decode b_M_handed 753 = .ok (.iconst 4, 1) := by decide +kernel
theorem d_M_handed_754 : decode b_M_handed 754 = .ok (.iconst 2, 1) := by decide +kernel
theorem d_M_handed_755 : decode b_M_handed 755 = .ok (.invokevirtual 539, 3) := by decide +kernel
theorem d_M_handed_758 : decode b_M_handed 758 = .ok (.aload_n 0, 1) := by decide +kernel
theorem d_M_handed_759 : decode b_M_handed 759 = .ok (.iconst 4, 1) := by decide +kernel
theorem d_M_handed_760 : decode b_M_handed 760 = .ok (.iconst 2, 1) := by decide +kernel
theorem d_M_handed_761 : decode b_M_handed 761 = .ok (.invokevirtual 536, 3) := by decide +kernel
theorem d_M_handed_764 : decode b_M_handed 764 = .ok (.isub, 1) := by decide +kernel
theorem d_M_handed_765 : decode b_M_handed 765 = .ok (.iastore, 1) := by decide +kernel
theorem d_M_handed_766 : decode b_M_handed 766 = .ok (.aload_n 0, 1) := by decide +kernel
theorem d_M_handed_767 : decode b_M_handed 767 = .ok (.iconst 4, 1) := by decide +kernel
theorem d_M_handed_768 : decode b_M_handed 768 = .ok (.iconst 2, 1) := by decide +kernel
theorem d_M_handed_769 : decode b_M_handed 769 = .ok (.invokevirtual 536, 3) := by decide +kernel
theorem d_M_handed_772 : decode b_M_handed 772 = .ok (.istore 10, 2) := by decide +kernel
theorem d_M_handed_774 : decode b_M_handed 774 = .ok (.aload_n 0, 1) := by decide +kernel
theorem d_M_handed_775 : decode b_M_handed 775 = .ok (.invokevirtual 861, 3) := by decide +kernel
theorem d_M_handed_778 : decode b_M_handed 778 = .ok (.aload_n 0, 1) := by decide +kernel
theorem d_M_handed_779 : decode b_M_handed 779 = .ok (.ldc_w 621, 3) := by decide +kernel
theorem d_M_handed_782 : decode b_M_handed 782 = .ok (.invokevirtual 570, 3) := by decide +kernel
theorem d_M_handed_785 : decode b_M_handed 785 = .ok (.aload_n 0, 1) := by decide +kernel
theorem d_M_handed_786 : decode b_M_handed 786 = .ok (.getfield 218, 3) := by decide +kernel
theorem d_M_handed_789 : decode b_M_handed 789 = .ok (.iload 9, 2) := by decide +kernel
theorem d_M_handed_791 : decode b_M_handed 791 = .ok (.ldc 9, 2) := by decide +kernel
theorem d_M_handed_793 : decode b_M_handed 793 = .ok (.aload_n 0, 1) := by decide +kernel
theorem d_M_handed_794 : decode b_M_handed 794 = .ok (.getfield 553, 3) := by decide +kernel
theorem d_M_handed_797 : decode b_M_handed 797 = .ok (.isub, 1) := by decide +kernel
theorem d_M_handed_798 : decode b_M_handed 798 = .ok (.iastore, 1) := by decide +kernel
theorem d_M_handed_799 : decode b_M_handed 799 = .ok (.iconst 0, 1) := by decide +kernel
theorem d_M_handed_800 : decode b_M_handed 800 = .ok (.istore 11, 2) := by decide +kernel
theorem d_M_handed_802 : decode b_M_handed 802 = .ok (.iload 11, 2) := by decide +kernel
theorem d_M_handed_804 : decode b_M_handed 804 = .ok (.aload_n 0, 1) := by decide +kernel
theorem d_M_handed_805 : decode b_M_handed 805 = .ok (.getfield 218, 3) := by decide +kernel
theorem d_M_handed_808 : decode b_M_handed 808 = .ok (.iload 9, 2) := by decide +kernel
theorem d_M_handed_810 : decode b_M_handed 810 = .ok (.iaload, 1) := by decide +kernel
theorem d_M_handed_811 : decode b_M_handed 811 = .ok (.if_icmp .ge 35, 3) := by decide +kernel
theorem d_M_handed_814 : decode b_M_handed 814 = .ok (.aload_n 0, 1) := by decide +kernel
theorem d_M_handed_815 : decode b_M_handed 815 = .ok (.getfield 215, 3) := by decide +kernel
theorem d_M_handed_818 : decode b_M_handed 818 = .ok (.sipush 400, 3) := by decide +kernel
theorem d_M_handed_821 : decode b_M_handed 821 = .ok (.iload 9, 2) := by decide +kernel
theorem d_M_handed_823 : decode b_M_handed 823 = .ok (.imul, 1) := by decide +kernel
theorem d_M_handed_824 : decode b_M_handed 824 = .ok (.iload 11, 2) := by decide +kernel
theorem d_M_handed_826 : decode b_M_handed 826 = .ok (.iadd, 1) := by decide +kernel
theorem d_M_handed_827 : decode b_M_handed 827 = .ok (.aload_n 0, 1) := by decide +kernel
theorem d_M_handed_828 : decode b_M_handed 828 = .ok (.getfield 10, 3) := by decide +kernel
theorem d_M_handed_831 : decode b_M_handed 831 = .ok (.aload_n 0, 1) := by decide +kernel
theorem d_M_handed_832 : decode b_M_handed 832 = .ok (.getfield 553, 3) := by decide +kernel
theorem d_M_handed_835 : decode b_M_handed 835 = .ok (.iload 11, 2) := by decide +kernel
theorem d_M_handed_837 : decode b_M_handed 837 = .ok (.iadd, 1) := by decide +kernel
theorem d_M_handed_838 : decode b_M_handed 838 = .ok (.baload, 1) := by decide +kernel
theorem d_M_handed_839 : decode b_M_handed 839 = .ok (.bastore, 1) := by decide +kernel
theorem d_M_handed_840 : decode b_M_handed 840 = .ok (.iinc 11 1, 3) := by decide +kernel
theorem d_M_handed_843 : decode b_M_handed 843 = .ok (.goto (-41), 3) := by decide +kernel
theorem d_M_handed_846 : decode b_M_handed 846 = .ok (.iconst 0, 1) := by decide +kernel
theorem d_M_handed_847 : decode b_M_handed 847 = .ok (.istore 11, 2) := by decide +kernel
theorem d_M_handed_849 : decode b_M_handed 849 = .ok (.iload 11, 2) := by decide +kernel
theorem d_M_handed_851 : decode b_M_handed 851 = .ok (.aload_n 0, 1) := by decide +kernel
theorem d_M_handed_852 : decode b_M_handed 852 = .ok (.getfield 221, 3) := by decide +kernel
theorem d_M_handed_855 : decode b_M_handed 855 = .ok (.iload 9, 2) := by decide +kernel
theorem d_M_handed_857 : decode b_M_handed 857 = .ok (.iaload, 1) := by decide +kernel
theorem d_M_handed_858 : decode b_M_handed 858 = .ok (.if_icmp .ge 41, 3) := by decide +kernel
theorem d_M_handed_861 : decode b_M_handed 861 = .ok (.aload_n 0, 1) := by decide +kernel
theorem d_M_handed_862 : decode b_M_handed 862 = .ok (.getfield 215, 3) := by decide +kernel
theorem d_M_handed_865 : decode b_M_handed 865 = .ok (.sipush 400, 3) := by decide +kernel
theorem d_M_handed_868 : decode b_M_handed 868 = .ok (.iload 9, 2) := by decide +kernel
theorem d_M_handed_870 : decode b_M_handed 870 = .ok (.imul, 1) := by decide +kernel
theorem d_M_handed_871 : decode b_M_handed 871 = .ok (.aload_n 0, 1) := by decide +kernel
theorem d_M_handed_872 : decode b_M_handed 872 = .ok (.getfield 218, 3) := by decide +kernel
theorem d_M_handed_875 : decode b_M_handed 875 = .ok (.iload 9, 2) := by decide +kernel
theorem d_M_handed_877 : decode b_M_handed 877 = .ok (.iaload, 1) := by decide +kernel
theorem d_M_handed_878 : decode b_M_handed 878 = .ok (.iadd, 1) := by decide +kernel
theorem d_M_handed_879 : decode b_M_handed 879 = .ok (.iload 11, 2) := by decide +kernel
theorem d_M_handed_881 : decode b_M_handed 881 = .ok (.iadd, 1) := by decide +kernel
theorem d_M_handed_882 : decode b_M_handed 882 = .ok (.aload_n 0, 1) := by decide +kernel
theorem d_M_handed_883 : decode b_M_handed 883 = .ok (.getfield 10, 3) := by decide +kernel
theorem d_M_handed_886 : decode b_M_handed 886 = .ok (.iload 10, 2) := by decide +kernel
theorem d_M_handed_888 : decode b_M_handed 888 = .ok (.iload 11, 2) := by decide +kernel
theorem d_M_handed_890 : decode b_M_handed 890 = .ok (.iadd, 1) := by decide +kernel
theorem d_M_handed_891 : decode b_M_handed 891 = .ok (.baload, 1) := by decide +kernel
theorem d_M_handed_892 : decode b_M_handed 892 = .ok (.bastore, 1) := by decide +kernel
theorem d_M_handed_893 : decode b_M_handed 893 = .ok (.iinc 11 1, 3) := by decide +kernel
theorem d_M_handed_896 : decode b_M_handed 896 = .ok (.goto (-47), 3) := by decide +kernel
theorem d_M_handed_899 : decode b_M_handed 899 = .ok (.iload 8, 2) := by decide +kernel
theorem d_M_handed_901 : decode b_M_handed 901 = .ok (.ireturn, 1) := by decide +kernel
