abbrev b_M_serve : ByteArray := prog_14_method_143_code
def y_M_serve : MethodName := ⟨R_M, "serve", "(I)I"⟩
abbrev k_M_serve : Cond := .code y_M_serve b_M_serve 4 (some .int)
theorem ki_M_serve : k_M_serve ∈ lw_tg := in_t 2812 (by decide +kernel)
theorem ks_M_serve : Cond.instanceMethod y_M_serve ∈ lw_tg := in_t 2810 (by decide +kernel)
theorem kx_M_serve : Cond.selects R_M y_M_serve y_M_serve ∈ lw_tg := in_t 2811 (by decide +kernel)
theorem hd_M_serve : y_M_serve.cls = R_M ∧ y_M_serve.cls ≠ "java/lang/invoke/MethodHandle" ∧ y_M_serve.cls ≠ "java/lang/invoke/VarHandle" ∧ (parseMethodDescriptor y_M_serve.desc).map (fun d => d.parameters.length) = some 1 := by decide +kernel
theorem d_M_serve_0 : decode b_M_serve 0 = .ok (.aload_n 0, 1) := by decide +kernel
theorem d_M_serve_1 : decode b_M_serve 1 = .ok (.getfield 332, 3) := by decide +kernel
theorem d_M_serve_4 : decode b_M_serve 4 = .ok (.istore_n 2, 1) := by decide +kernel
theorem d_M_serve_5 : decode b_M_serve 5 = .ok (.aload_n 0, 1) := by decide +kernel
theorem d_M_serve_6 : decode b_M_serve 6 = .ok (.iconst 0, 1) := by decide +kernel
theorem d_M_serve_7 : decode b_M_serve 7 = .ok (.putfield 332, 3) := by decide +kernel
theorem d_M_serve_10 : decode b_M_serve 10 = .ok (.iload_n 1, 1) := by decide +kernel
theorem d_M_serve_11 : decode b_M_serve 11 = .ok (.ifCond .lt 11, 3) := by decide +kernel
theorem d_M_serve_14 : decode b_M_serve 14 = .ok (.iload_n 1, 1) := by decide +kernel
theorem d_M_serve_15 : decode b_M_serve 15 = .ok (.aload_n 0, 1) := by decide +kernel
theorem d_M_serve_16 : decode b_M_serve 16 = .ok (.getfield 630, 3) := by decide +kernel
theorem d_M_serve_19 : decode b_M_serve 19 = .ok (.if_icmp .lt 5, 3) := by decide +kernel
theorem d_M_serve_22 : decode b_M_serve 22 = .ok (.iconst (-1), 1) := by decide +kernel
theorem d_M_serve_23 : decode b_M_serve 23 = .ok (.ireturn, 1) := by decide +kernel
theorem d_M_serve_24 : decode b_M_serve 24 = .ok (.aload_n 0, 1) := by decide +kernel
theorem d_M_serve_25 : decode b_M_serve 25 = .ok (.iload_n 1, 1) := by decide +kernel
theorem d_M_serve_26 : decode b_M_serve 26 = .ok (.iload_n 2, 1) := by decide +kernel
theorem d_M_serve_27 : decode b_M_serve 27 = .ok (.invokevirtual 978, 3) := by decide +kernel
theorem d_M_serve_30 : decode b_M_serve 30 = .ok (.istore_n 3, 1) := by decide +kernel
theorem d_M_serve_31 : decode b_M_serve 31 = .ok (.iload_n 3, 1) := by decide +kernel
theorem d_M_serve_32 : decode b_M_serve 32 = .ok (.ifCond .lt 5, 3) := by decide +kernel
theorem d_M_serve_35 : decode b_M_serve 35 = .ok (.iload_n 3, 1) := by decide +kernel
theorem d_M_serve_36 : decode b_M_serve 36 = .ok (.ireturn, 1) := by decide +kernel
theorem d_M_serve_37 : decode b_M_serve 37 = .ok (.aload_n 0, 1) := by decide +kernel
theorem d_M_serve_38 : decode b_M_serve 38 = .ok (.invokevirtual 861, 3) := by decide +kernel
theorem d_M_serve_41 : decode b_M_serve 41 = .ok (.aload_n 0, 1) := by decide +kernel
theorem d_M_serve_42 : decode b_M_serve 42 = .ok (.bipush 10, 2) := by decide +kernel
theorem d_M_serve_44 : decode b_M_serve 44 = .ok (.iload_n 1, 1) := by decide +kernel
theorem d_M_serve_45 : decode b_M_serve 45 = .ok (.iconst 2, 1) := by decide +kernel
theorem d_M_serve_46 : decode b_M_serve 46 = .ok (.invokevirtual 908, 3) := by decide +kernel
theorem d_M_serve_49 : decode b_M_serve 49 = .ok (.aload_n 0, 1) := by decide +kernel
theorem d_M_serve_50 : decode b_M_serve 50 = .ok (.bipush 9, 2) := by decide +kernel
theorem d_M_serve_52 : decode b_M_serve 52 = .ok (.ldc_w 621, 3) := by decide +kernel
theorem d_M_serve_55 : decode b_M_serve 55 = .ok (.invokevirtual 878, 3) := by decide +kernel
theorem d_M_serve_58 : decode b_M_serve 58 = .ok (.aload_n 0, 1) := by decide +kernel
theorem d_M_serve_59 : decode b_M_serve 59 = .ok (.iload_n 3, 1) := by decide +kernel
theorem d_M_serve_60 : decode b_M_serve 60 = .ok (.ineg, 1) := by decide +kernel
theorem d_M_serve_61 : decode b_M_serve 61 = .ok (.invokevirtual 911, 3) := by decide +kernel
theorem d_M_serve_64 : decode b_M_serve 64 = .ok (.aload_n 0, 1) := by decide +kernel
theorem d_M_serve_65 : decode b_M_serve 65 = .ok (.invokevirtual 905, 3) := by decide +kernel
theorem d_M_serve_68 : decode b_M_serve 68 = .ok (.iload_n 3, 1) := by decide +kernel
theorem d_M_serve_69 : decode b_M_serve 69 = .ok (.ireturn, 1) := by decide +kernel
abbrev b_M_served : ByteArray := prog_14_method_144_code
def y_M_served : MethodName := ⟨R_M, "served", "(II)I"⟩
abbrev k_M_served : Cond := .code y_M_served b_M_served 8 (some .int)
theorem ki_M_served : k_M_served ∈ lw_tg := List.mem_filter.mpr ⟨List.mem_append_right _ (List.mem_append_right _ (List.mem_append_right _ (List.mem_append_right _ (List.mem_append_right _ (List.mem_append_right _ (List.mem_append_right _ (List.mem_append_right _ (List.mem_append_right _ (List.mem_append_right _ (List.mem_append_right _ (List.mem_append_right _ (List.mem_append_left _ (List.mem_of_getElem? (i := 176) rfl))))))))))))), rfl⟩
theorem ks_M_served : Cond.instanceMethod y_M_served ∈ lw_tg := in_t 2815 (by decide +kernel)
theorem kx_M_served : Cond.selects R_M y_M_served y_M_served ∈ lw_tg := List.mem_filter.mpr ⟨List.mem_append_left _ (List.mem_of_getElem? (i := 183) (by decide +kernel)), rfl⟩
theorem kl_M_served : Cond.methodLink R_M 978 y_M_served ∈ lw_tg := in_t 2813 (by decide +kernel)
theorem hd_M_served : y_M_served.cls = R_M ∧ y_M_served.cls ≠ "java/lang/invoke/MethodHandle" ∧ y_M_served.cls ≠ "java/lang/invoke/VarHandle" ∧ (parseMethodDescriptor y_M_served.desc).map (fun d => d.parameters.length) = some 2 := by decide +kernel
theorem d_M_served_0 : decode b_M_served 0 = .ok (.aload_n 0, 1) := by decide +kernel
theorem d_M_served_1 : decode b_M_served 1 = .ok (.bipush 14, 2) := by decide +kernel
theorem d_M_served_3 : decode b_M_served 3 = .ok (.ldc_w 797, 3) := by decide +kernel
theorem d_M_served_6 : decode b_M_served 6 = .ok (.iconst 0, 1) := by decide +kernel
theorem d_M_served_7 : decode b_M_served 7 = .ok (.iload_n 2, 1) := by decide +kernel
theorem d_M_served_8 : decode b_M_served 8 = .ok (.iconst 2, 1) := by decide +kernel
theorem d_M_served_9 : decode b_M_served 9 = .ok (.invokevirtual 522, 3) := by decide +kernel
theorem d_M_served_12 : decode b_M_served 12 = .ok (.ifCond .ne 6, 3) := by decide +kernel
theorem d_M_served_15 : decode b_M_served 15 = .ok (.bipush (-60), 2) := by decide +kernel
theorem d_M_served_17 : decode b_M_served 17 = .ok (.ireturn, 1) := by decide +kernel
theorem d_M_served_18 : decode b_M_served 18 = .ok (.aload_n 0, 1) := by decide +kernel
theorem d_M_served_19 : decode b_M_served 19 = .ok (.iconst 2, 1) := by decide +kernel
theorem d_M_served_20 : decode b_M_served 20 = .ok (.iconst 0, 1) := by decide +kernel
theorem d_M_served_21 : decode b_M_served 21 = .ok (.invokevirtual 665, 3) := by decide +kernel
theorem d_M_served_24 : decode b_M_served 24 = .ok (.ldc2_w 669, 3) := by decide +kernel
theorem d_M_served_27 : decode b_M_served 27 = .ok (.lcmp, 1) := by decide +kernel
theorem d_M_served_28 : decode b_M_served 28 = .ok (.ifCond .eq 6, 3) := by decide +kernel
theorem d_M_served_31 : decode b_M_served 31 = .ok (.bipush (-3), 2) := by decide +kernel
theorem d_M_served_33 : decode b_M_served 33 = .ok (.ireturn, 1) := by decide +kernel
theorem d_M_served_34 : decode b_M_served 34 = .ok (.aload_n 0, 1) := by decide +kernel
theorem d_M_served_35 : decode b_M_served 35 = .ok (.iconst 2, 1) := by decide +kernel
theorem d_M_served_36 : decode b_M_served 36 = .ok (.iconst 1, 1) := by decide +kernel
theorem d_M_served_37 : decode b_M_served 37 = .ok (.invokevirtual 665, 3) := by decide +kernel
theorem d_M_served_40 : decode b_M_served 40 = .ok (.ldc2_w 799, 3) := by decide +kernel
theorem d_M_served_43 : decode b_M_served 43 = .ok (.lcmp, 1) := by decide +kernel
theorem d_M_served_44 : decode b_M_served 44 = .ok (.ifCond .eq 6, 3) := by decide +kernel
theorem d_M_served_47 : decode b_M_served 47 = .ok (.bipush (-40), 2) := by decide +kernel
theorem d_M_served_49 : decode b_M_served 49 = .ok (.ireturn, 1) := by decide +kernel
theorem d_M_served_50 : decode b_M_served 50 = .ok (.aload_n 0, 1) := by decide +kernel
theorem d_M_served_51 : decode b_M_served 51 = .ok (.iconst 2, 1) := by decide +kernel
theorem d_M_served_52 : decode b_M_served 52 = .ok (.iconst 2, 1) := by decide +kernel
theorem d_M_served_53 : decode b_M_served 53 = .ok (.invokevirtual 704, 3) := by decide +kernel
theorem d_M_served_56 : decode b_M_served 56 = .ok (.iconst 2, 1) := by decide +kernel
theorem d_M_served_57 : decode b_M_served 57 = .ok (.invokestatic 701, 3) := by decide +kernel
theorem d_M_served_60 : decode b_M_served 60 = .ok (.iconst (-1), 1) := by decide +kernel
theorem d_M_served_61 : decode b_M_served 61 = .ok (.ixor, 1) := by decide +kernel
theorem d_M_served_62 : decode b_M_served 62 = .ok (.iand, 1) := by decide +kernel
theorem d_M_served_63 : decode b_M_served 63 = .ok (.ifCond .ne 12, 3) := by decide +kernel
theorem d_M_served_66 : decode b_M_served 66 = .ok (.aload_n 0, 1) := by decide +kernel
theorem d_M_served_67 : decode b_M_served 67 = .ok (.iconst 2, 1) := by decide +kernel
theorem d_M_served_68 : decode b_M_served 68 = .ok (.iconst 2, 1) := by decide +kernel
theorem d_M_served_69 : decode b_M_served 69 = .ok (.invokevirtual 707, 3) := by decide +kernel
theorem d_M_served_72 : decode b_M_served 72 = .ok (.ifCond .eq 6, 3) := by decide +kernel
theorem d_M_served_75 : decode b_M_served 75 = .ok (.bipush (-13), 2) := by decide +kernel
theorem d_M_served_77 : decode b_M_served 77 = .ok (.ireturn, 1) := by decide +kernel
theorem d_M_served_78 : decode b_M_served 78 = .ok (.aload_n 0, 1) := by decide +kernel
theorem d_M_served_79 : decode b_M_served 79 = .ok (.aload_n 0, 1) := by decide +kernel
theorem d_M_served_80 : decode b_M_served 80 = .ok (.iconst 2, 1) := by decide +kernel
theorem d_M_served_81 : decode b_M_served 81 = .ok (.iconst 2, 1) := by decide +kernel
theorem d_M_served_82 : decode b_M_served 82 = .ok (.invokevirtual 704, 3) := by decide +kernel
theorem d_M_served_85 : decode b_M_served 85 = .ok (.iconst 2, 1) := by decide +kernel
theorem d_M_served_86 : decode b_M_served 86 = .ok (.invokevirtual 820, 3) := by decide +kernel
theorem d_M_served_89 : decode b_M_served 89 = .ok (.istore_n 3, 1) := by decide +kernel
theorem d_M_served_90 : decode b_M_served 90 = .ok (.aload_n 0, 1) := by decide +kernel
theorem d_M_served_91 : decode b_M_served 91 = .ok (.aload_n 0, 1) := by decide +kernel
theorem d_M_served_92 : decode b_M_served 92 = .ok (.iconst 2, 1) := by decide +kernel
theorem d_M_served_93 : decode b_M_served 93 = .ok (.iconst 3, 1) := by decide +kernel
theorem d_M_served_94 : decode b_M_served 94 = .ok (.invokevirtual 536, 3) := by decide +kernel
theorem d_M_served_97 : decode b_M_served 97 = .ok (.aload_n 0, 1) := by decide +kernel
theorem d_M_served_98 : decode b_M_served 98 = .ok (.iconst 2, 1) := by decide +kernel
theorem d_M_served_99 : decode b_M_served 99 = .ok (.iconst 3, 1) := by decide +kernel
theorem d_M_served_100 : decode b_M_served 100 = .ok (.invokevirtual 539, 3) := by decide +kernel
theorem d_M_served_103 : decode b_M_served 103 = .ok (.bipush 97, 2) := by decide +kernel
theorem d_M_served_105 : decode b_M_served 105 = .ok (.invokevirtual 480, 3) := by decide +kernel
theorem d_M_served_108 : decode b_M_served 108 = .ok (.pop, 1) := by decide +kernel
theorem d_M_served_109 : decode b_M_served 109 = .ok (.aload_n 0, 1) := by decide +kernel
theorem d_M_served_110 : decode b_M_served 110 = .ok (.ldc_w 520, 3) := by decide +kernel
theorem d_M_served_113 : decode b_M_served 113 = .ok (.aload_n 0, 1) := by decide +kernel
theorem d_M_served_114 : decode b_M_served 114 = .ok (.getfield 470, 3) := by decide +kernel
theorem d_M_served_117 : decode b_M_served 117 = .ok (.aload_n 0, 1) := by decide +kernel
theorem d_M_served_118 : decode b_M_served 118 = .ok (.iconst 2, 1) := by decide +kernel
theorem d_M_served_119 : decode b_M_served 119 = .ok (.iconst 3, 1) := by decide +kernel
theorem d_M_served_120 : decode b_M_served 120 = .ok (.invokevirtual 539, 3) := by decide +kernel
theorem d_M_served_123 : decode b_M_served 123 = .ok (.iconst 3, 1) := by decide +kernel
theorem d_M_served_124 : decode b_M_served 124 = .ok (.invokevirtual 487, 3) := by decide +kernel
theorem d_M_served_127 : decode b_M_served 127 = .ok (.pop, 1) := by decide +kernel
theorem d_M_served_128 : decode b_M_served 128 = .ok (.aload_n 0, 1) := by decide +kernel
theorem d_M_served_129 : decode b_M_served 129 = .ok (.iload_n 1, 1) := by decide +kernel
theorem d_M_served_130 : decode b_M_served 130 = .ok (.iconst 0, 1) := by decide +kernel
theorem d_M_served_131 : decode b_M_served 131 = .ok (.invokevirtual 801, 3) := by decide +kernel
theorem d_M_served_134 : decode b_M_served 134 = .ok (.istore 4, 2) := by decide +kernel
theorem d_M_served_136 : decode b_M_served 136 = .ok (.iload 4, 2) := by decide +kernel
theorem d_M_served_138 : decode b_M_served 138 = .ok (.ifCond .ne 11, 3) := by decide +kernel
theorem d_M_served_141 : decode b_M_served 141 = .ok (.aload_n 0, 1) := by decide +kernel
theorem d_M_served_142 : decode b_M_served 142 = .ok (.bipush 11, 2) := by decide +kernel
theorem d_M_served_144 : decode b_M_served 144 = .ok (.invokevirtual 804, 3) := by decide +kernel
theorem d_M_served_147 : decode b_M_served 147 = .ok (.istore 4, 2) := by decide +kernel
theorem d_M_served_149 : decode b_M_served 149 = .ok (.iload 4, 2) := by decide +kernel
theorem d_M_served_151 : decode b_M_served 151 = .ok (.ifCond .ne 10, 3) := by decide +kernel
theorem d_M_served_154 : decode b_M_served 154 = .ok (.aload_n 0, 1) := by decide +kernel
theorem d_M_served_155 : decode b_M_served 155 = .ok (.iload_n 1, 1) := by decide +kernel
theorem d_M_served_156 : decode b_M_served 156 = .ok (.invokevirtual 807, 3) := by decide +kernel
theorem d_M_served_159 : decode b_M_served 159 = .ok (.istore 4, 2) := by decide +kernel
theorem d_M_served_161 : decode b_M_served 161 = .ok (.iload 4, 2) := by decide +kernel
theorem d_M_served_163 : decode b_M_served 163 = .ok (.ifCond .eq 7, 3) := by decide +kernel
theorem d_M_served_166 : decode b_M_served 166 = .ok (.iload 4, 2) := by decide +kernel
theorem d_M_served_168 : decode b_M_served 168 = .ok (.ineg, 1) := by decide +kernel
theorem d_M_served_169 : decode b_M_served 169 = .ok (.ireturn, 1) := by decide +kernel
theorem d_M_served_170 : decode b_M_served 170 = .ok (.aload_n 0, 1) := by decide +kernel
theorem d_M_served_171 : decode b_M_served 171 = .ok (.iconst 4, 1) := by decide +kernel
theorem d_M_served_172 : decode b_M_served 172 = .ok (.bipush 6, 2) := by decide +kernel
theorem d_M_served_174 : decode b_M_served 174 = .ok (.iconst 5, 1) := by decide +kernel
theorem d_M_served_175 : decode b_M_served 175 = .ok (.invokevirtual 816, 3) := by decide +kernel
theorem d_M_served_178 : decode b_M_served 178 = .ok (.aload_n 0, 1) := by decide +kernel
theorem d_M_served_179 : decode b_M_served 179 = .ok (.getfield 18, 3) := by decide +kernel
theorem d_M_served_182 : decode b_M_served 182 = .ok (.i2l, 1) := by decide +kernel
theorem d_M_served_183 : decode b_M_served 183 = .ok (.ldc2_w 646, 3) := by decide +kernel
theorem d_M_served_186 : decode b_M_served 186 = .ok (.ladd, 1) := by decide +kernel
theorem d_M_served_187 : decode b_M_served 187 = .ok (.lcmp, 1) := by decide +kernel
theorem d_M_served_188 : decode b_M_served 188 = .ok (.ifCond .le 6, 3) := by decide +kernel
theorem d_M_served_191 : decode b_M_served 191 = .ok (.bipush (-33), 2) := by decide +kernel
theorem d_M_served_193 : decode b_M_served 193 = .ok (.ireturn, 1) := by decide +kernel
theorem d_M_served_194 : decode b_M_served 194 = .ok (.aload_n 0, 1) := by decide +kernel
theorem d_M_served_195 : decode b_M_served 195 = .ok (.iconst 4, 1) := by decide +kernel
theorem d_M_served_196 : decode b_M_served 196 = .ok (.bipush 7, 2) := by decide +kernel
theorem d_M_served_198 : decode b_M_served 198 = .ok (.invokevirtual 731, 3) := by decide +kernel
theorem d_M_served_201 : decode b_M_served 201 = .ok (.aload_n 0, 1) := by decide +kernel
theorem d_M_served_202 : decode b_M_served 202 = .ok (.getfield 18, 3) := by decide +kernel
theorem d_M_served_205 : decode b_M_served 205 = .ok (.i2l, 1) := by decide +kernel
theorem d_M_served_206 : decode b_M_served 206 = .ok (.lcmp, 1) := by decide +kernel
theorem d_M_served_207 : decode b_M_served 207 = .ok (.ifCond .gt 6, 3) := by decide +kernel
theorem d_M_served_210 : decode b_M_served 210 = .ok (.bipush (-32), 2) := by decide +kernel
theorem d_M_served_212 : decode b_M_served 212 = .ok (.ireturn, 1) := by decide +kernel
theorem d_M_served_213 : decode b_M_served 213 = .ok (.aload_n 0, 1) := by decide +kernel
theorem d_M_served_214 : decode b_M_served 214 = .ok (.aload_n 0, 1) := by decide +kernel
theorem d_M_served_215 : decode b_M_served 215 = .ok (.iconst 5, 1) := by decide +kernel
theorem d_M_served_216 : decode b_M_served 216 = .ok (.bipush 6, 2) := by decide +kernel
theorem d_M_served_218 : decode b_M_served 218 = .ok (.invokevirtual 675, 3) := by decide +kernel
theorem d_M_served_221 : decode b_M_served 221 = .ok (.ifCond .eq 17, 3) := by decide +kernel
theorem d_M_served_224 : decode b_M_served 224 = .ok (.aload_n 0, 1) := by decide +kernel
theorem d_M_served_225 : decode b_M_served 225 = .ok (.iconst 5, 1) := by decide +kernel
theorem d_M_served_226 : decode b_M_served 226 = .ok (.bipush 6, 2) := by decide +kernel
theorem d_M_served_228 : decode b_M_served 228 = .ok (.aload_n 0, 1) := by decide +kernel
theorem d_M_served_229 : decode b_M_served 229 = .ok (.getfield 140, 3) := by decide +kernel
theorem d_M_served_232 : decode b_M_served 232 = .ok (.invokevirtual 781, 3) := by decide +kernel
theorem d_M_served_235 : decode b_M_served 235 = .ok (.goto 4, 3) := by decide +kernel
theorem d_M_served_238 : decode b_M_served 238 = .ok (.iconst (-1), 1) := by decide +kernel
theorem d_M_served_239 : decode b_M_served 239 = .ok (.putfield 893, 3) := by decide +kernel
theorem d_M_served_242 : decode b_M_served 242 = .ok (.aload_n 0, 1) := by decide +kernel
theorem d_M_served_243 : decode b_M_served 243 = .ok (.getfield 893, 3) := by decide +kernel
theorem d_M_served_246 : decode b_M_served 246 = .ok (.ifCond .ne 6, 3) := by decide +kernel
theorem d_M_served_249 : decode b_M_served 249 = .ok (.bipush (-14), 2) := by decide +kernel
theorem d_M_served_251 : decode b_M_served 251 = .ok (.ireturn, 1) := by decide +kernel
theorem d_M_served_252 : decode b_M_served 252 = .ok (.aload_n 0, 1) := by decide +kernel
theorem d_M_served_253 : decode b_M_served 253 = .ok (.iload_n 1, 1) := by decide +kernel
theorem d_M_served_254 : decode b_M_served 254 = .ok (.bipush 32, 2) := by decide +kernel
theorem d_M_served_256 : decode b_M_served 256 = .ok (.invokevirtual 716, 3) := by decide +kernel
theorem d_M_served_259 : decode b_M_served 259 = .ok (.ifCond .eq 6, 3) := by decide +kernel
theorem d_M_served_262 : decode b_M_served 262 = .ok (.bipush (-18), 2) := by decide +kernel
theorem d_M_served_264 : decode b_M_served 264 = .ok (.ireturn, 1) := by decide +kernel
theorem d_M_served_265 : decode b_M_served 265 = .ok (.iconst 0, 1) := by decide +kernel
theorem d_M_served_266 : decode b_M_served 266 = .ok (.istore 5, 2) := by decide +kernel
theorem d_M_served_268 : decode b_M_served 268 = .ok (.iload 5, 2) := by decide +kernel
theorem d_M_served_270 : decode b_M_served 270 = .ok (.bipush 8, 2) := by decide +kernel
theorem d_M_served_272 : decode b_M_served 272 = .ok (.if_icmp .ge 19, 3) := by decide +kernel
theorem d_M_served_275 : decode b_M_served 275 = .ok (.aload_n 0, 1) := by decide +kernel
theorem d_M_served_276 : decode b_M_served 276 = .ok (.getfield 290, 3) := by decide +kernel
theorem d_M_served_279 : decode b_M_served 279 = .ok (.iload 5, 2) := by decide +kernel
theorem d_M_served_281 : decode b_M_served 281 = .ok (.baload, 1) := by decide +kernel
theorem d_M_served_282 : decode b_M_served 282 = .ok (.ifCond .eq 9, 3) := by decide +kernel
theorem d_M_served_285 : decode b_M_served 285 = .ok (.iinc 5 1, 3) := by decide +kernel
theorem d_M_served_288 : decode b_M_served 288 = .ok (.goto (-20), 3) := by decide +kernel
theorem d_M_served_291 : decode b_M_served 291 = .ok (.iload 5, 2) := by decide +kernel
theorem d_M_served_293 : decode b_M_served 293 = .ok (.bipush 8, 2) := by decide +kernel
theorem d_M_served_295 : decode b_M_served 295 = .ok (.if_icmp .ne 6, 3) := by decide +kernel
theorem d_M_served_298 : decode b_M_served 298 = .ok (.bipush (-29), 2) := by decide +kernel
theorem d_M_served_300 : decode b_M_served 300 = .ok (.ireturn, 1) := by decide +kernel
theorem d_M_served_301 : decode b_M_served 301 = .ok (.aload_n 0, 1) := by decide +kernel
theorem d_M_served_302 : decode b_M_served 302 = .ok (.getfield 290, 3) := by decide +kernel
theorem d_M_served_305 : decode b_M_served 305 = .ok (.iload 5, 2) := by decide +kernel
theorem d_M_served_307 : decode b_M_served 307 = .ok (.iconst 1, 1) := by decide +kernel
theorem d_M_served_308 : decode b_M_served 308 = .ok (.bastore, 1) := by decide +kernel
theorem d_M_served_309 : decode b_M_served 309 = .ok (.aload_n 0, 1) := by decide +kernel
theorem d_M_served_310 : decode b_M_served 310 = .ok (.getfield 296, 3) := by decide +kernel
theorem d_M_served_313 : decode b_M_served 313 = .ok (.iload 5, 2) := by decide +kernel
theorem d_M_served_315 : decode b_M_served 315 = .ok (.iconst (-1), 1) := by decide +kernel
theorem d_M_served_316 : decode b_M_served 316 = .ok (.iastore, 1) := by decide +kernel
theorem d_M_served_317 : decode b_M_served 317 = .ok (.aload_n 0, 1) := by decide +kernel
theorem d_M_served_318 : decode b_M_served 318 = .ok (.getfield 293, 3) := by decide +kernel
theorem d_M_served_321 : decode b_M_served 321 = .ok (.iload 5, 2) := by decide +kernel
theorem d_M_served_323 : decode b_M_served 323 = .ok (.aload_n 0, 1) := by decide +kernel
theorem d_M_served_324 : decode b_M_served 324 = .ok (.getfield 893, 3) := by decide +kernel
theorem d_M_served_327 : decode b_M_served 327 = .ok (.ifCond .le 10, 3) := by decide +kernel
theorem d_M_served_330 : decode b_M_served 330 = .ok (.aload_n 0, 1) := by decide +kernel
theorem d_M_served_331 : decode b_M_served 331 = .ok (.getfield 893, 3) := by decide +kernel
theorem d_M_served_334 : decode b_M_served 334 = .ok (.goto 7, 3) := by decide +kernel
theorem d_M_served_337 : decode b_M_served 337 = .ok (.aload_n 0, 1) := by decide +kernel
theorem d_M_served_338 : decode b_M_served 338 = .ok (.getfield 785, 3) := by decide +kernel
theorem d_M_served_341 : decode b_M_served 341 = .ok (.iastore, 1) := by decide +kernel
theorem d_M_served_342 : decode b_M_served 342 = .ok (.iconst 0, 1) := by decide +kernel
theorem d_M_served_343 : decode b_M_served 343 = .ok (.istore 6, 2) := by decide +kernel
theorem d_M_served_345 : decode b_M_served 345 = .ok (.iload 6, 2) := by decide +kernel
theorem d_M_served_347 : decode b_M_served 347 = .ok (.bipush 32, 2) := by decide +kernel
theorem d_M_served_349 : decode b_M_served 349 = .ok (.if_icmp .ge 66, 3) := by decide +kernel
theorem d_M_served_352 : decode b_M_served 352 = .ok (.aload_n 0, 1) := by decide +kernel
theorem d_M_served_353 : decode b_M_served 353 = .ok (.getfield 299, 3) := by decide +kernel
theorem d_M_served_356 : decode b_M_served 356 = .ok (.bipush 32, 2) := by decide +kernel
theorem d_M_served_358 : decode b_M_served 358 = .ok (.iload 5, 2) := by decide +kernel
theorem d_M_served_360 : decode b_M_served 360 = .ok (.imul, 1) := by decide +kernel
theorem d_M_served_361 : decode b_M_served 361 = .ok (.iload 6, 2) := by decide +kernel
theorem d_M_served_363 : decode b_M_served 363 = .ok (.iadd, 1) := by decide +kernel
theorem d_M_served_364 : decode b_M_served 364 = .ok (.aload_n 0, 1) := by decide +kernel
theorem d_M_served_365 : decode b_M_served 365 = .ok (.getfield 893, 3) := by decide +kernel
theorem d_M_served_368 : decode b_M_served 368 = .ok (.ifCond .le 13, 3) := by decide +kernel
theorem d_M_served_371 : decode b_M_served 371 = .ok (.aload_n 0, 1) := by decide +kernel
theorem d_M_served_372 : decode b_M_served 372 = .ok (.getfield 140, 3) := by decide +kernel
theorem d_M_served_375 : decode b_M_served 375 = .ok (.iload 6, 2) := by decide +kernel
theorem d_M_served_377 : decode b_M_served 377 = .ok (.baload, 1) := by decide +kernel
theorem d_M_served_378 : decode b_M_served 378 = .ok (.goto 10, 3) := by decide +kernel
theorem d_M_served_381 : decode b_M_served 381 = .ok (.aload_n 0, 1) := by decide +kernel
theorem d_M_served_382 : decode b_M_served 382 = .ok (.getfield 137, 3) := by decide +kernel
theorem d_M_served_385 : decode b_M_served 385 = .ok (.iload 6, 2) := by decide +kernel
theorem d_M_served_387 : decode b_M_served 387 = .ok (.baload, 1) := by decide +kernel
theorem d_M_served_388 : decode b_M_served 388 = .ok (.bastore, 1) := by decide +kernel
theorem d_M_served_389 : decode b_M_served 389 = .ok (.aload_n 0, 1) := by decide +kernel
theorem d_M_served_390 : decode b_M_served 390 = .ok (.getfield 320, 3) := by decide +kernel
theorem d_M_served_393 : decode b_M_served 393 = .ok (.bipush 32, 2) := by decide +kernel
theorem d_M_served_395 : decode b_M_served 395 = .ok (.iload 5, 2) := by decide +kernel
theorem d_M_served_397 : decode b_M_served 397 = .ok (.imul, 1) := by decide +kernel
theorem d_M_served_398 : decode b_M_served 398 = .ok (.iload 6, 2) := by decide +kernel
theorem d_M_served_400 : decode b_M_served 400 = .ok (.iadd, 1) := by decide +kernel
theorem d_M_served_401 : decode b_M_served 401 = .ok (.aload_n 0, 1) := by decide +kernel
theorem d_M_served_402 : decode b_M_served 402 = .ok (.getfield 137, 3) := by decide +kernel
theorem d_M_served_405 : decode b_M_served 405 = .ok (.iload 6, 2) := by decide +kernel
theorem d_M_served_407 : decode b_M_served 407 = .ok (.baload, 1) := by decide +kernel
theorem d_M_served_408 : decode b_M_served 408 = .ok (.bastore, 1) := by decide +kernel
theorem d_M_served_409 : decode b_M_served 409 = .ok (.iinc 6 1, 3) := by decide +kernel
theorem d_M_served_412 : decode b_M_served 412 = .ok (.goto (-67), 3) := by decide +kernel
theorem d_M_served_415 : decode b_M_served 415 = .ok (.aload_n 0, 1) := by decide +kernel
theorem d_M_served_416 : decode b_M_served 416 = .ok (.getfield 317, 3) := by decide +kernel
theorem d_M_served_419 : decode b_M_served 419 = .ok (.iload 5, 2) := by decide +kernel
theorem d_M_served_421 : decode b_M_served 421 = .ok (.aload_n 0, 1) := by decide +kernel
theorem d_M_served_422 : decode b_M_served 422 = .ok (.getfield 785, 3) := by decide +kernel
theorem d_M_served_425 : decode b_M_served 425 = .ok (.iastore, 1) := by decide +kernel
theorem d_M_served_426 : decode b_M_served 426 = .ok (.aload_n 0, 1) := by decide +kernel
theorem d_M_served_427 : decode b_M_served 427 = .ok (.getfield 308, 3) := by decide +kernel
theorem d_M_served_430 : decode b_M_served 430 = .ok (.iload 5, 2) := by decide +kernel
theorem d_M_served_432 : decode b_M_served 432 = .ok (.aload_n 0, 1) := by decide +kernel
theorem d_M_served_433 : decode b_M_served 433 = .ok (.iconst 5, 1) := by decide +kernel
theorem d_M_served_434 : decode b_M_served 434 = .ok (.iconst 5, 1) := by decide +kernel
theorem d_M_served_435 : decode b_M_served 435 = .ok (.invokevirtual 731, 3) := by decide +kernel
theorem d_M_served_438 : decode b_M_served 438 = .ok (.lastore, 1) := by decide +kernel
theorem d_M_served_439 : decode b_M_served 439 = .ok (.aload_n 0, 1) := by decide +kernel
theorem d_M_served_440 : decode b_M_served 440 = .ok (.getfield 314, 3) := by decide +kernel
theorem d_M_served_443 : decode b_M_served 443 = .ok (.iload 5, 2) := by decide +kernel
theorem d_M_served_445 : decode b_M_served 445 = .ok (.aload_n 0, 1) := by decide +kernel
theorem d_M_served_446 : decode b_M_served 446 = .ok (.iconst 5, 1) := by decide +kernel
theorem d_M_served_447 : decode b_M_served 447 = .ok (.iconst 4, 1) := by decide +kernel
theorem d_M_served_448 : decode b_M_served 448 = .ok (.invokevirtual 665, 3) := by decide +kernel
theorem d_M_served_451 : decode b_M_served 451 = .ok (.l2i, 1) := by decide +kernel
theorem d_M_served_452 : decode b_M_served 452 = .ok (.iastore, 1) := by decide +kernel
theorem d_M_served_453 : decode b_M_served 453 = .ok (.aload_n 0, 1) := by decide +kernel
theorem d_M_served_454 : decode b_M_served 454 = .ok (.getfield 311, 3) := by decide +kernel
theorem d_M_served_457 : decode b_M_served 457 = .ok (.iload 5, 2) := by decide +kernel
theorem d_M_served_459 : decode b_M_served 459 = .ok (.aload_n 0, 1) := by decide +kernel
theorem d_M_served_460 : decode b_M_served 460 = .ok (.iconst 5, 1) := by decide +kernel
theorem d_M_served_461 : decode b_M_served 461 = .ok (.bipush 7, 2) := by decide +kernel
theorem d_M_served_463 : decode b_M_served 463 = .ok (.invokevirtual 675, 3) := by decide +kernel
theorem d_M_served_466 : decode b_M_served 466 = .ok (.ifCond .eq 13, 3) := by decide +kernel
theorem d_M_served_469 : decode b_M_served 469 = .ok (.aload_n 0, 1) := by decide +kernel
theorem d_M_served_470 : decode b_M_served 470 = .ok (.iconst 5, 1) := by decide +kernel
theorem d_M_served_471 : decode b_M_served 471 = .ok (.bipush 7, 2) := by decide +kernel
theorem d_M_served_473 : decode b_M_served 473 = .ok (.invokevirtual 665, 3) := by decide +kernel
theorem d_M_served_476 : decode b_M_served 476 = .ok (.goto 4, 3) := by decide +kernel
theorem d_M_served_479 : decode b_M_served 479 = .ok (.lconst 0, 1) := by decide +kernel
theorem d_M_served_480 : decode b_M_served 480 = .ok (.lastore, 1) := by decide +kernel
theorem d_M_served_481 : decode b_M_served 481 = .ok (.aload_n 0, 1) := by decide +kernel
theorem d_M_served_482 : decode b_M_served 482 = .ok (.getfield 305, 3) := by decide +kernel
theorem d_M_served_485 : decode b_M_served 485 = .ok (.iconst 2, 1) := by decide +kernel
theorem d_M_served_486 : decode b_M_served 486 = .ok (.iload 5, 2) := by decide +kernel
theorem d_M_served_488 : decode b_M_served 488 = .ok (.imul, 1) := by decide +kernel
theorem d_M_served_489 : decode b_M_served 489 = .ok (.iconst 1, 1) := by decide +kernel
theorem d_M_served_490 : decode b_M_served 490 = .ok (.iadd, 1) := by decide +kernel
theorem d_M_served_491 : decode b_M_served 491 = .ok (.aload_n 0, 1) := by decide +kernel
theorem d_M_served_492 : decode b_M_served 492 = .ok (.getfield 311, 3) := by decide +kernel
theorem d_M_served_495 : decode b_M_served 495 = .ok (.iload 5, 2) := by decide +kernel
theorem d_M_served_497 : decode b_M_served 497 = .ok (.laload, 1) := by decide +kernel
theorem d_M_served_498 : decode b_M_served 498 = .ok (.lastore, 1) := by decide +kernel
theorem d_M_served_499 : decode b_M_served 499 = .ok (.aload_n 0, 1) := by decide +kernel
theorem d_M_served_500 : decode b_M_served 500 = .ok (.getfield 302, 3) := by decide +kernel
theorem d_M_served_503 : decode b_M_served 503 = .ok (.iconst 2, 1) := by decide +kernel
theorem d_M_served_504 : decode b_M_served 504 = .ok (.iload 5, 2) := by decide +kernel
theorem d_M_served_506 : decode b_M_served 506 = .ok (.imul, 1) := by decide +kernel
theorem d_M_served_507 : decode b_M_served 507 = .ok (.iconst 1, 1) := by decide +kernel
theorem d_M_served_508 : decode b_M_served 508 = .ok (.iadd, 1) := by decide +kernel
theorem d_M_served_509 : decode b_M_served 509 = .ok (.lconst 0, 1) := by decide +kernel
theorem d_M_served_510 : decode b_M_served 510 = .ok (.lastore, 1) := by decide +kernel
theorem d_M_served_511 : decode b_M_served 511 = .ok (.aload_n 0, 1) := by decide +kernel
theorem d_M_served_512 : decode b_M_served 512 = .ok (.iconst 0, 1) := by decide +kernel
theorem d_M_served_513 : decode b_M_served 513 = .ok (.putfield 348, 3) := by decide +kernel
theorem d_M_served_516 : decode b_M_served 516 = .ok (.iload_n 3, 1) := by decide +kernel
theorem d_M_served_517 : decode b_M_served 517 = .ok (.ifCond .ne 6, 3) := by decide +kernel
theorem d_M_served_520 : decode b_M_served 520 = .ok (.iload 5, 2) := by decide +kernel
theorem d_M_served_522 : decode b_M_served 522 = .ok (.ireturn, 1) := by decide +kernel
theorem d_M_served_523 : decode b_M_served 523 = .ok (.lconst 0, 1) := by decide +kernel
theorem d_M_served_524 : decode b_M_served 524 = .ok (.lstore 6, 2) := by decide +kernel
theorem d_M_served_526 : decode b_M_served 526 = .ok (.aload_n 0, 1) := by decide +kernel
theorem d_M_served_527 : decode b_M_served 527 = .ok (.iconst 5, 1) := by decide +kernel
theorem d_M_served_528 : decode b_M_served 528 = .ok (.bipush 7, 2) := by decide +kernel
theorem d_M_served_530 : decode b_M_served 530 = .ok (.invokevirtual 675, 3) := by decide +kernel
theorem d_M_served_533 : decode b_M_served 533 = .ok (.ifCond .eq 27, 3) := by decide +kernel
theorem d_M_served_536 : decode b_M_served 536 = .ok (.aload_n 0, 1) := by decide +kernel
theorem d_M_served_537 : decode b_M_served 537 = .ok (.invokevirtual 930, 3) := by decide +kernel
theorem d_M_served_540 : decode b_M_served 540 = .ok (.ldc_w 974, 3) := by decide +kernel
theorem d_M_served_543 : decode b_M_served 543 = .ok (.iand, 1) := by decide +kernel
theorem d_M_served_544 : decode b_M_served 544 = .ok (.i2l, 1) := by decide +kernel
theorem d_M_served_545 : decode b_M_served 545 = .ok (.lstore 6, 2) := by decide +kernel
theorem d_M_served_547 : decode b_M_served 547 = .ok (.aload_n 0, 1) := by decide +kernel
theorem d_M_served_548 : decode b_M_served 548 = .ok (.getfield 302, 3) := by decide +kernel
theorem d_M_served_551 : decode b_M_served 551 = .ok (.iconst 2, 1) := by decide +kernel
theorem d_M_served_552 : decode b_M_served 552 = .ok (.iload 5, 2) := by decide +kernel
theorem d_M_served_554 : decode b_M_served 554 = .ok (.imul, 1) := by decide +kernel
theorem d_M_served_555 : decode b_M_served 555 = .ok (.iconst 1, 1) := by decide +kernel
theorem d_M_served_556 : decode b_M_served 556 = .ok (.iadd, 1) := by decide +kernel
theorem d_M_served_557 : decode b_M_served 557 = .ok (.lload 6, 2) := by decide +kernel
theorem d_M_served_559 : decode b_M_served 559 = .ok (.lastore, 1) := by decide +kernel
theorem d_M_served_560 : decode b_M_served 560 = .ok (.aload_n 0, 1) := by decide +kernel
theorem d_M_served_561 : decode b_M_served 561 = .ok (.invokevirtual 861, 3) := by decide +kernel
theorem d_M_served_564 : decode b_M_served 564 = .ok (.aload_n 0, 1) := by decide +kernel
theorem d_M_served_565 : decode b_M_served 565 = .ok (.iconst 5, 1) := by decide +kernel
theorem d_M_served_566 : decode b_M_served 566 = .ok (.bipush 7, 2) := by decide +kernel
theorem d_M_served_568 : decode b_M_served 568 = .ok (.invokevirtual 675, 3) := by decide +kernel
theorem d_M_served_571 : decode b_M_served 571 = .ok (.ifCond .eq 10, 3) := by decide +kernel
theorem d_M_served_574 : decode b_M_served 574 = .ok (.aload_n 0, 1) := by decide +kernel
theorem d_M_served_575 : decode b_M_served 575 = .ok (.iconst 3, 1) := by decide +kernel
theorem d_M_served_576 : decode b_M_served 576 = .ok (.lload 6, 2) := by decide +kernel
theorem d_M_served_578 : decode b_M_served 578 = .ok (.invokevirtual 588, 3) := by decide +kernel
theorem d_M_served_581 : decode b_M_served 581 = .ok (.aload_n 0, 1) := by decide +kernel
theorem d_M_served_582 : decode b_M_served 582 = .ok (.iconst 1, 1) := by decide +kernel
theorem d_M_served_583 : decode b_M_served 583 = .ok (.aload_n 0, 1) := by decide +kernel
theorem d_M_served_584 : decode b_M_served 584 = .ok (.iconst 5, 1) := by decide +kernel
theorem d_M_served_585 : decode b_M_served 585 = .ok (.iconst 4, 1) := by decide +kernel
theorem d_M_served_586 : decode b_M_served 586 = .ok (.invokevirtual 665, 3) := by decide +kernel
theorem d_M_served_589 : decode b_M_served 589 = .ok (.invokevirtual 588, 3) := by decide +kernel
theorem d_M_served_592 : decode b_M_served 592 = .ok (.aload_n 0, 1) := by decide +kernel
theorem d_M_served_593 : decode b_M_served 593 = .ok (.iconst 0, 1) := by decide +kernel
theorem d_M_served_594 : decode b_M_served 594 = .ok (.aload_n 0, 1) := by decide +kernel
theorem d_M_served_595 : decode b_M_served 595 = .ok (.iconst 5, 1) := by decide +kernel
theorem d_M_served_596 : decode b_M_served 596 = .ok (.iconst 5, 1) := by decide +kernel
theorem d_M_served_597 : decode b_M_served 597 = .ok (.invokevirtual 731, 3) := by decide +kernel
theorem d_M_served_600 : decode b_M_served 600 = .ok (.invokevirtual 884, 3) := by decide +kernel
theorem d_M_served_603 : decode b_M_served 603 = .ok (.aload_n 0, 1) := by decide +kernel
theorem d_M_served_604 : decode b_M_served 604 = .ok (.bipush 48, 2) := by decide +kernel
theorem d_M_served_606 : decode b_M_served 606 = .ok (.ldc 9, 2) := by decide +kernel
theorem d_M_served_608 : decode b_M_served 608 = .ok (.invokevirtual 559, 3) := by decide +kernel
theorem d_M_served_611 : decode b_M_served 611 = .ok (.aload_n 0, 1) := by decide +kernel
theorem d_M_served_612 : decode b_M_served 612 = .ok (.bipush 123, 2) := by decide +kernel
theorem d_M_served_614 : decode b_M_served 614 = .ok (.ldc 9, 2) := by decide +kernel
theorem d_M_served_616 : decode b_M_served 616 = .ok (.invokevirtual 559, 3) := by decide +kernel
theorem d_M_served_619 : decode b_M_served 619 = .ok (.aload_n 0, 1) := by decide +kernel
theorem d_M_served_620 : decode b_M_served 620 = .ok (.aload_n 0, 1) := by decide +kernel
theorem d_M_served_621 : decode b_M_served 621 = .ok (.getfield 137, 3) := by decide +kernel
theorem d_M_served_624 : decode b_M_served 624 = .ok (.aload_n 0, 1) := by decide +kernel
theorem d_M_served_625 : decode b_M_served 625 = .ok (.getfield 785, 3) := by decide +kernel
theorem d_M_served_628 : decode b_M_served 628 = .ok (.bipush 12, 2) := by decide +kernel
theorem d_M_served_630 : decode b_M_served 630 = .ok (.aload_n 0, 1) := by decide +kernel
theorem d_M_served_631 : decode b_M_served 631 = .ok (.getfield 553, 3) := by decide +kernel
theorem d_M_served_634 : decode b_M_served 634 = .ok (.ldc 9, 2) := by decide +kernel
theorem d_M_served_636 : decode b_M_served 636 = .ok (.invokevirtual 867, 3) := by decide +kernel
theorem d_M_served_639 : decode b_M_served 639 = .ok (.aload_n 0, 1) := by decide +kernel
theorem d_M_served_640 : decode b_M_served 640 = .ok (.invokevirtual 861, 3) := by decide +kernel
theorem d_M_served_643 : decode b_M_served 643 = .ok (.aload_n 0, 1) := by decide +kernel
theorem d_M_served_644 : decode b_M_served 644 = .ok (.iconst 2, 1) := by decide +kernel
theorem d_M_served_645 : decode b_M_served 645 = .ok (.aload_n 0, 1) := by decide +kernel
theorem d_M_served_646 : decode b_M_served 646 = .ok (.getfield 785, 3) := by decide +kernel
theorem d_M_served_649 : decode b_M_served 649 = .ok (.lconst 0, 1) := by decide +kernel
theorem d_M_served_650 : decode b_M_served 650 = .ok (.invokevirtual 870, 3) := by decide +kernel
theorem d_M_served_653 : decode b_M_served 653 = .ok (.aload_n 0, 1) := by decide +kernel
theorem d_M_served_654 : decode b_M_served 654 = .ok (.iconst 1, 1) := by decide +kernel
theorem d_M_served_655 : decode b_M_served 655 = .ok (.ldc2_w 981, 3) := by decide +kernel
theorem d_M_served_658 : decode b_M_served 658 = .ok (.invokevirtual 588, 3) := by decide +kernel
theorem d_M_served_661 : decode b_M_served 661 = .ok (.aload_n 0, 1) := by decide +kernel
theorem d_M_served_662 : decode b_M_served 662 = .ok (.iconst 0, 1) := by decide +kernel
theorem d_M_served_663 : decode b_M_served 663 = .ok (.ldc2_w 669, 3) := by decide +kernel
theorem d_M_served_666 : decode b_M_served 666 = .ok (.invokevirtual 588, 3) := by decide +kernel
theorem d_M_served_669 : decode b_M_served 669 = .ok (.aload_n 0, 1) := by decide +kernel
theorem d_M_served_670 : decode b_M_served 670 = .ok (.bipush 48, 2) := by decide +kernel
theorem d_M_served_672 : decode b_M_served 672 = .ok (.ldc 9, 2) := by decide +kernel
theorem d_M_served_674 : decode b_M_served 674 = .ok (.invokevirtual 559, 3) := by decide +kernel
theorem d_M_served_677 : decode b_M_served 677 = .ok (.aload_n 0, 1) := by decide +kernel
theorem d_M_served_678 : decode b_M_served 678 = .ok (.bipush 111, 2) := by decide +kernel
theorem d_M_served_680 : decode b_M_served 680 = .ok (.ldc 9, 2) := by decide +kernel
theorem d_M_served_682 : decode b_M_served 682 = .ok (.invokevirtual 559, 3) := by decide +kernel
theorem d_M_served_685 : decode b_M_served 685 = .ok (.aload_n 0, 1) := by decide +kernel
theorem d_M_served_686 : decode b_M_served 686 = .ok (.invokevirtual 905, 3) := by decide +kernel
theorem d_M_served_689 : decode b_M_served 689 = .ok (.iload 5, 2) := by decide +kernel
theorem d_M_served_691 : decode b_M_served 691 = .ok (.ireturn, 1) := by decide +kernel
abbrev b_M_met : ByteArray := prog_14_method_145_code
def y_M_met : MethodName := ⟨R_M, "met", "(I)I"⟩
abbrev k_M_met : Cond := .code y_M_met b_M_met 4 (some .int)
theorem ki_M_met : k_M_met ∈ lw_tg := List.mem_filter.mpr ⟨List.mem_append_right _ (List.mem_append_right _ (List.mem_append_right _ (List.mem_append_right _ (List.mem_append_right _ (List.mem_append_right _ (List.mem_append_right _ (List.mem_append_right _ (List.mem_append_right _ (List.mem_append_right _ (List.mem_append_right _ (List.mem_append_right _ (List.mem_append_left _ (List.mem_of_getElem? (i := 181) rfl))))))))))))), rfl⟩
theorem ks_M_met : Cond.instanceMethod y_M_met ∈ lw_tg := in_t 2819 (by decide +kernel)
theorem kx_M_met : Cond.selects R_M y_M_met y_M_met ∈ lw_tg := in_t 2820 (by decide +kernel)
theorem hd_M_met : y_M_met.cls = R_M ∧ y_M_met.cls ≠ "java/lang/invoke/MethodHandle" ∧ y_M_met.cls ≠ "java/lang/invoke/VarHandle" ∧ (parseMethodDescriptor y_M_met.desc).map (fun d => d.parameters.length) = some 1 := by decide +kernel
theorem d_M_met_0 : decode b_M_met 0 = .ok (.aload_n 0, 1) := by decide +kernel
theorem d_M_met_1 : decode b_M_met 1 = .ok (.getfield 332, 3) := by decide +kernel
theorem d_M_met_4 : decode b_M_met 4 = .ok (.istore_n 2, 1) := by decide +kernel
theorem d_M_met_5 : decode b_M_met 5 = .ok (.aload_n 0, 1) := by decide +kernel
theorem d_M_met_6 : decode b_M_met 6 = .ok (.iconst 0, 1) := by decide +kernel
theorem d_M_met_7 : decode b_M_met 7 = .ok (.putfield 332, 3) := by decide +kernel
theorem d_M_met_10 : decode b_M_met 10 = .ok (.aload_n 0, 1) := by decide +kernel
theorem d_M_met_11 : decode b_M_met 11 = .ok (.iload_n 1, 1) := by decide +kernel
theorem d_M_met_12 : decode b_M_met 12 = .ok (.invokevirtual 916, 3) := by decide +kernel
theorem d_M_met_15 : decode b_M_met 15 = .ok (.ifCond .ne 5, 3) := by decide +kernel
theorem d_M_met_18 : decode b_M_met 18 = .ok (.iconst (-1), 1) := by decide +kernel
theorem d_M_met_19 : decode b_M_met 19 = .ok (.ireturn, 1) := by decide +kernel
theorem d_M_met_20 : decode b_M_met 20 = .ok (.aload_n 0, 1) := by decide +kernel
theorem d_M_met_21 : decode b_M_met 21 = .ok (.getfield 257, 3) := by decide +kernel
theorem d_M_met_24 : decode b_M_met 24 = .ok (.iload_n 1, 1) := by decide +kernel
theorem d_M_met_25 : decode b_M_met 25 = .ok (.baload, 1) := by decide +kernel
theorem d_M_met_26 : decode b_M_met 26 = .ok (.ifCond .ne 6, 3) := by decide +kernel
theorem d_M_met_29 : decode b_M_met 29 = .ok (.bipush (-3), 2) := by decide +kernel
theorem d_M_met_31 : decode b_M_met 31 = .ok (.ireturn, 1) := by decide +kernel
theorem d_M_met_32 : decode b_M_met 32 = .ok (.aload_n 0, 1) := by decide +kernel
theorem d_M_met_33 : decode b_M_met 33 = .ok (.getfield 257, 3) := by decide +kernel
theorem d_M_met_36 : decode b_M_met 36 = .ok (.iload_n 1, 1) := by decide +kernel
theorem d_M_met_37 : decode b_M_met 37 = .ok (.iconst 0, 1) := by decide +kernel
theorem d_M_met_38 : decode b_M_met 38 = .ok (.bastore, 1) := by decide +kernel
theorem d_M_met_39 : decode b_M_met 39 = .ok (.aload_n 0, 1) := by decide +kernel
theorem d_M_met_40 : decode b_M_met 40 = .ok (.bipush 15, 2) := by decide +kernel
theorem d_M_met_42 : decode b_M_met 42 = .ok (.ldc_w 983, 3) := by decide +kernel
theorem d_M_met_45 : decode b_M_met 45 = .ok (.iconst 0, 1) := by decide +kernel
theorem d_M_met_46 : decode b_M_met 46 = .ok (.iload_n 2, 1) := by decide +kernel
theorem d_M_met_47 : decode b_M_met 47 = .ok (.iconst 0, 1) := by decide +kernel
theorem d_M_met_48 : decode b_M_met 48 = .ok (.invokevirtual 522, 3) := by decide +kernel
theorem d_M_met_51 : decode b_M_met 51 = .ok (.ifCond .ne 6, 3) := by decide +kernel
theorem d_M_met_54 : decode b_M_met 54 = .ok (.bipush (-60), 2) := by decide +kernel
theorem d_M_met_56 : decode b_M_met 56 = .ok (.ireturn, 1) := by decide +kernel
theorem d_M_met_57 : decode b_M_met 57 = .ok (.aload_n 0, 1) := by decide +kernel
theorem d_M_met_58 : decode b_M_met 58 = .ok (.iconst 0, 1) := by decide +kernel
theorem d_M_met_59 : decode b_M_met 59 = .ok (.iconst 0, 1) := by decide +kernel
theorem d_M_met_60 : decode b_M_met 60 = .ok (.invokevirtual 665, 3) := by decide +kernel
theorem d_M_met_63 : decode b_M_met 63 = .ok (.ldc2_w 669, 3) := by decide +kernel
theorem d_M_met_66 : decode b_M_met 66 = .ok (.lcmp, 1) := by decide +kernel
theorem d_M_met_67 : decode b_M_met 67 = .ok (.ifCond .eq 6, 3) := by decide +kernel
theorem d_M_met_70 : decode b_M_met 70 = .ok (.bipush (-3), 2) := by decide +kernel
theorem d_M_met_72 : decode b_M_met 72 = .ok (.ireturn, 1) := by decide +kernel
theorem d_M_met_73 : decode b_M_met 73 = .ok (.aload_n 0, 1) := by decide +kernel
theorem d_M_met_74 : decode b_M_met 74 = .ok (.iconst 0, 1) := by decide +kernel
theorem d_M_met_75 : decode b_M_met 75 = .ok (.iconst 1, 1) := by decide +kernel
theorem d_M_met_76 : decode b_M_met 76 = .ok (.invokevirtual 665, 3) := by decide +kernel
theorem d_M_met_79 : decode b_M_met 79 = .ok (.ldc2_w 981, 3) := by decide +kernel
theorem d_M_met_82 : decode b_M_met 82 = .ok (.lcmp, 1) := by decide +kernel
theorem d_M_met_83 : decode b_M_met 83 = .ok (.ifCond .eq 6, 3) := by decide +kernel
theorem d_M_met_86 : decode b_M_met 86 = .ok (.bipush (-40), 2) := by decide +kernel
theorem d_M_met_88 : decode b_M_met 88 = .ok (.ireturn, 1) := by decide +kernel
theorem d_M_met_89 : decode b_M_met 89 = .ok (.iconst 0, 1) := by decide +kernel
theorem d_M_met_90 : decode b_M_met 90 = .ok (.istore_n 3, 1) := by decide +kernel
theorem d_M_met_91 : decode b_M_met 91 = .ok (.iload_n 3, 1) := by decide +kernel
theorem d_M_met_92 : decode b_M_met 92 = .ok (.bipush 32, 2) := by decide +kernel
theorem d_M_met_94 : decode b_M_met 94 = .ok (.if_icmp .ge 26, 3) := by decide +kernel
theorem d_M_met_97 : decode b_M_met 97 = .ok (.aload_n 0, 1) := by decide +kernel
theorem d_M_met_98 : decode b_M_met 98 = .ok (.getfield 137, 3) := by decide +kernel
theorem d_M_met_101 : decode b_M_met 101 = .ok (.iload_n 3, 1) := by decide +kernel
theorem d_M_met_102 : decode b_M_met 102 = .ok (.aload_n 0, 1) := by decide +kernel
theorem d_M_met_103 : decode b_M_met 103 = .ok (.getfield 272, 3) := by decide +kernel
theorem d_M_met_106 : decode b_M_met 106 = .ok (.bipush 32, 2) := by decide +kernel
theorem d_M_met_108 : decode b_M_met 108 = .ok (.iload_n 1, 1) := by decide +kernel
theorem d_M_met_109 : decode b_M_met 109 = .ok (.imul, 1) := by decide +kernel
theorem d_M_met_110 : decode b_M_met 110 = .ok (.iload_n 3, 1) := by decide +kernel
theorem d_M_met_111 : decode b_M_met 111 = .ok (.iadd, 1) := by decide +kernel
theorem d_M_met_112 : decode b_M_met 112 = .ok (.baload, 1) := by decide +kernel
theorem d_M_met_113 : decode b_M_met 113 = .ok (.bastore, 1) := by decide +kernel
theorem d_M_met_114 : decode b_M_met 114 = .ok (.iinc 3 1, 3) := by decide +kernel
theorem d_M_met_117 : decode b_M_met 117 = .ok (.goto (-26), 3) := by decide +kernel
theorem d_M_met_120 : decode b_M_met 120 = .ok (.aload_n 0, 1) := by decide +kernel
theorem d_M_met_121 : decode b_M_met 121 = .ok (.ldc_w 516, 3) := by decide +kernel
theorem d_M_met_124 : decode b_M_met 124 = .ok (.aload_n 0, 1) := by decide +kernel
theorem d_M_met_125 : decode b_M_met 125 = .ok (.iconst 0, 1) := by decide +kernel
theorem d_M_met_126 : decode b_M_met 126 = .ok (.iconst 2, 1) := by decide +kernel
theorem d_M_met_127 : decode b_M_met 127 = .ok (.invokevirtual 536, 3) := by decide +kernel
theorem d_M_met_130 : decode b_M_met 130 = .ok (.aload_n 0, 1) := by decide +kernel
theorem d_M_met_131 : decode b_M_met 131 = .ok (.iconst 0, 1) := by decide +kernel
theorem d_M_met_132 : decode b_M_met 132 = .ok (.iconst 2, 1) := by decide +kernel
theorem d_M_met_133 : decode b_M_met 133 = .ok (.invokevirtual 539, 3) := by decide +kernel
theorem d_M_met_136 : decode b_M_met 136 = .ok (.bipush 6, 2) := by decide +kernel
theorem d_M_met_138 : decode b_M_met 138 = .ok (.invokevirtual 487, 3) := by decide +kernel
theorem d_M_met_141 : decode b_M_met 141 = .ok (.pop, 1) := by decide +kernel
theorem d_M_met_142 : decode b_M_met 142 = .ok (.aload_n 0, 1) := by decide +kernel
theorem d_M_met_143 : decode b_M_met 143 = .ok (.bipush 6, 2) := by decide +kernel
theorem d_M_met_145 : decode b_M_met 145 = .ok (.iconst 0, 1) := by decide +kernel
theorem d_M_met_146 : decode b_M_met 146 = .ok (.invokevirtual 665, 3) := by decide +kernel
theorem d_M_met_149 : decode b_M_met 149 = .ok (.aload_n 0, 1) := by decide +kernel
theorem d_M_met_150 : decode b_M_met 150 = .ok (.getfield 260, 3) := by decide +kernel
theorem d_M_met_153 : decode b_M_met 153 = .ok (.iload_n 1, 1) := by decide +kernel
theorem d_M_met_154 : decode b_M_met 154 = .ok (.iaload, 1) := by decide +kernel
theorem d_M_met_155 : decode b_M_met 155 = .ok (.i2l, 1) := by decide +kernel
theorem d_M_met_156 : decode b_M_met 156 = .ok (.lcmp, 1) := by decide +kernel
theorem d_M_met_157 : decode b_M_met 157 = .ok (.ifCond .eq 6, 3) := by decide +kernel
theorem d_M_met_160 : decode b_M_met 160 = .ok (.bipush (-31), 2) := by decide +kernel
theorem d_M_met_162 : decode b_M_met 162 = .ok (.ireturn, 1) := by decide +kernel
theorem d_M_met_163 : decode b_M_met 163 = .ok (.aload_n 0, 1) := by decide +kernel
theorem d_M_met_164 : decode b_M_met 164 = .ok (.aload_n 0, 1) := by decide +kernel
theorem d_M_met_165 : decode b_M_met 165 = .ok (.bipush 6, 2) := by decide +kernel
theorem d_M_met_167 : decode b_M_met 167 = .ok (.iconst 2, 1) := by decide +kernel
theorem d_M_met_168 : decode b_M_met 168 = .ok (.invokevirtual 536, 3) := by decide +kernel
theorem d_M_met_171 : decode b_M_met 171 = .ok (.aload_n 0, 1) := by decide +kernel
theorem d_M_met_172 : decode b_M_met 172 = .ok (.bipush 6, 2) := by decide +kernel
theorem d_M_met_174 : decode b_M_met 174 = .ok (.iconst 2, 1) := by decide +kernel
theorem d_M_met_175 : decode b_M_met 175 = .ok (.invokevirtual 539, 3) := by decide +kernel
theorem d_M_met_178 : decode b_M_met 178 = .ok (.iconst 4, 1) := by decide +kernel
theorem d_M_met_179 : decode b_M_met 179 = .ok (.invokevirtual 476, 3) := by decide +kernel
theorem d_M_met_182 : decode b_M_met 182 = .ok (.pop, 1) := by decide +kernel
theorem d_M_met_183 : decode b_M_met 183 = .ok (.aload_n 0, 1) := by decide +kernel
theorem d_M_met_184 : decode b_M_met 184 = .ok (.aload_n 0, 1) := by decide +kernel
theorem d_M_met_185 : decode b_M_met 185 = .ok (.getfield 137, 3) := by decide +kernel
theorem d_M_met_188 : decode b_M_met 188 = .ok (.aload_n 0, 1) := by decide +kernel
theorem d_M_met_189 : decode b_M_met 189 = .ok (.getfield 260, 3) := by decide +kernel
theorem d_M_met_192 : decode b_M_met 192 = .ok (.iload_n 1, 1) := by decide +kernel
theorem d_M_met_193 : decode b_M_met 193 = .ok (.iaload, 1) := by decide +kernel
theorem d_M_met_194 : decode b_M_met 194 = .ok (.bipush 12, 2) := by decide +kernel
theorem d_M_met_196 : decode b_M_met 196 = .ok (.aload_n 0, 1) := by decide +kernel
theorem d_M_met_197 : decode b_M_met 197 = .ok (.getfield 470, 3) := by decide +kernel
theorem d_M_met_200 : decode b_M_met 200 = .ok (.aload_n 0, 1) := by decide +kernel
theorem d_M_met_201 : decode b_M_met 201 = .ok (.getfield 473, 3) := by decide +kernel
theorem d_M_met_204 : decode b_M_met 204 = .ok (.sipush 4200, 3) := by decide +kernel
theorem d_M_met_207 : decode b_M_met 207 = .ok (.invokevirtual 765, 3) := by decide +kernel
theorem d_M_met_210 : decode b_M_met 210 = .ok (.istore_n 3, 1) := by decide +kernel
theorem d_M_met_211 : decode b_M_met 211 = .ok (.iload_n 3, 1) := by decide +kernel
theorem d_M_met_212 : decode b_M_met 212 = .ok (.ifCond .ge 6, 3) := by decide +kernel
theorem d_M_met_215 : decode b_M_met 215 = .ok (.bipush (-31), 2) := by decide +kernel
theorem d_M_met_217 : decode b_M_met 217 = .ok (.ireturn, 1) := by decide +kernel
theorem d_M_met_218 : decode b_M_met 218 = .ok (.aload_n 0, 1) := by decide +kernel
theorem d_M_met_219 : decode b_M_met 219 = .ok (.bipush 27, 2) := by decide +kernel
theorem d_M_met_221 : decode b_M_met 221 = .ok (.ldc_w 985, 3) := by decide +kernel
theorem d_M_met_224 : decode b_M_met 224 = .ok (.sipush 4200, 3) := by decide +kernel
theorem d_M_met_227 : decode b_M_met 227 = .ok (.sipush 4200, 3) := by decide +kernel
theorem d_M_met_230 : decode b_M_met 230 = .ok (.iload_n 3, 1) := by decide +kernel
theorem d_M_met_231 : decode b_M_met 231 = .ok (.iadd, 1) := by decide +kernel
theorem d_M_met_232 : decode b_M_met 232 = .ok (.iconst 4, 1) := by decide +kernel
theorem d_M_met_233 : decode b_M_met 233 = .ok (.invokevirtual 522, 3) := by decide +kernel
theorem d_M_met_236 : decode b_M_met 236 = .ok (.ifCond .ne 6, 3) := by decide +kernel
theorem d_M_met_239 : decode b_M_met 239 = .ok (.bipush (-60), 2) := by decide +kernel
theorem d_M_met_241 : decode b_M_met 241 = .ok (.ireturn, 1) := by decide +kernel
theorem d_M_met_242 : decode b_M_met 242 = .ok (.aload_n 0, 1) := by decide +kernel
theorem d_M_met_243 : decode b_M_met 243 = .ok (.iconst 4, 1) := by decide +kernel
theorem d_M_met_244 : decode b_M_met 244 = .ok (.iconst 0, 1) := by decide +kernel
theorem d_M_met_245 : decode b_M_met 245 = .ok (.invokevirtual 731, 3) := by decide +kernel
theorem d_M_met_248 : decode b_M_met 248 = .ok (.aload_n 0, 1) := by decide +kernel
theorem d_M_met_249 : decode b_M_met 249 = .ok (.getfield 278, 3) := by decide +kernel
theorem d_M_met_252 : decode b_M_met 252 = .ok (.iload_n 1, 1) := by decide +kernel
theorem d_M_met_253 : decode b_M_met 253 = .ok (.laload, 1) := by decide +kernel
theorem d_M_met_254 : decode b_M_met 254 = .ok (.lcmp, 1) := by decide +kernel
theorem d_M_met_255 : decode b_M_met 255 = .ok (.ifCond .ne 20, 3) := by decide +kernel
theorem d_M_met_258 : decode b_M_met 258 = .ok (.aload_n 0, 1) := by decide +kernel
theorem d_M_met_259 : decode b_M_met 259 = .ok (.iconst 4, 1) := by decide +kernel
theorem d_M_met_260 : decode b_M_met 260 = .ok (.iconst 1, 1) := by decide +kernel
theorem d_M_met_261 : decode b_M_met 261 = .ok (.invokevirtual 665, 3) := by decide +kernel
theorem d_M_met_264 : decode b_M_met 264 = .ok (.aload_n 0, 1) := by decide +kernel
theorem d_M_met_265 : decode b_M_met 265 = .ok (.getfield 266, 3) := by decide +kernel
theorem d_M_met_268 : decode b_M_met 268 = .ok (.iload_n 1, 1) := by decide +kernel
theorem d_M_met_269 : decode b_M_met 269 = .ok (.iaload, 1) := by decide +kernel
theorem d_M_met_270 : decode b_M_met 270 = .ok (.i2l, 1) := by decide +kernel
theorem d_M_met_271 : decode b_M_met 271 = .ok (.lcmp, 1) := by decide +kernel
theorem d_M_met_272 : decode b_M_met 272 = .ok (.ifCond .eq 6, 3) := by decide +kernel
theorem d_M_met_275 : decode b_M_met 275 = .ok (.bipush (-46), 2) := by decide +kernel
theorem d_M_met_277 : decode b_M_met 277 = .ok (.ireturn, 1) := by decide +kernel
theorem d_M_met_278 : decode b_M_met 278 = .ok (.aload_n 0, 1) := by decide +kernel
theorem d_M_met_279 : decode b_M_met 279 = .ok (.getfield 284, 3) := by decide +kernel
theorem d_M_met_282 : decode b_M_met 282 = .ok (.iload_n 1, 1) := by decide +kernel
theorem d_M_met_283 : decode b_M_met 283 = .ok (.aload_n 0, 1) := by decide +kernel
theorem d_M_met_284 : decode b_M_met 284 = .ok (.iconst 4, 1) := by decide +kernel
theorem d_M_met_285 : decode b_M_met 285 = .ok (.iconst 3, 1) := by decide +kernel
theorem d_M_met_286 : decode b_M_met 286 = .ok (.invokevirtual 675, 3) := by decide +kernel
theorem d_M_met_289 : decode b_M_met 289 = .ok (.ifCond .eq 12, 3) := by decide +kernel
theorem d_M_met_292 : decode b_M_met 292 = .ok (.aload_n 0, 1) := by decide +kernel
theorem d_M_met_293 : decode b_M_met 293 = .ok (.iconst 4, 1) := by decide +kernel
theorem d_M_met_294 : decode b_M_met 294 = .ok (.iconst 3, 1) := by decide +kernel
theorem d_M_met_295 : decode b_M_met 295 = .ok (.invokevirtual 665, 3) := by decide +kernel
theorem d_M_met_298 : decode b_M_met 298 = .ok (.goto 4, 3) := by decide +kernel
theorem d_M_met_301 : decode b_M_met 301 = .ok (.lconst 0, 1) := by decide +kernel
theorem d_M_met_302 : decode b_M_met 302 = .ok (.lastore, 1) := by decide +kernel
theorem d_M_met_303 : decode b_M_met 303 = .ok (.iconst 0, 1) := by decide +kernel
theorem d_M_met_304 : decode b_M_met 304 = .ok (.ireturn, 1) := by decide +kernel
abbrev b_M_joins : ByteArray := prog_14_method_146_code
def y_M_joins : MethodName := ⟨R_M, "joins", "(II)Z"⟩
abbrev k_M_joins : Cond := .code y_M_joins b_M_joins 5 (some .boolean)
theorem ki_M_joins : k_M_joins ∈ lw_tg := in_t 2827 (by decide +kernel)
theorem ks_M_joins : Cond.instanceMethod y_M_joins ∈ lw_tg := in_t 2825 (by decide +kernel)
theorem kx_M_joins : Cond.selects R_M y_M_joins y_M_joins ∈ lw_tg := in_t 2826 (by decide +kernel)
theorem hd_M_joins : y_M_joins.cls = R_M ∧ y_M_joins.cls ≠ "java/lang/invoke/MethodHandle" ∧ y_M_joins.cls ≠ "java/lang/invoke/VarHandle" ∧ (parseMethodDescriptor y_M_joins.desc).map (fun d => d.parameters.length) = some 2 := by decide +kernel
theorem d_M_joins_0 : decode b_M_joins 0 = .ok (.iload_n 1, 1) := by decide +kernel
theorem d_M_joins_1 : decode b_M_joins 1 = .ok (.ifCond .lt 35, 3) := by decide +kernel
theorem d_M_joins_4 : decode b_M_joins 4 = .ok (.iload_n 1, 1) := by decide +kernel
theorem d_M_joins_5 : decode b_M_joins 5 = .ok (.bipush 7, 2) := by decide +kernel
theorem d_M_joins_7 : decode b_M_joins 7 = .ok (.if_icmp .gt 29, 3) := by decide +kernel
theorem d_M_joins_10 : decode b_M_joins 10 = .ok (.aload_n 0, 1) := by decide +kernel
theorem d_M_joins_11 : decode b_M_joins 11 = .ok (.getfield 290, 3) := by decide +kernel
theorem d_M_joins_14 : decode b_M_joins 14 = .ok (.iload_n 1, 1) := by decide +kernel
theorem d_M_joins_15 : decode b_M_joins 15 = .ok (.baload, 1) := by decide +kernel
theorem d_M_joins_16 : decode b_M_joins 16 = .ok (.ifCond .eq 20, 3) := by decide +kernel
theorem d_M_joins_19 : decode b_M_joins 19 = .ok (.aload_n 0, 1) := by decide +kernel
theorem d_M_joins_20 : decode b_M_joins 20 = .ok (.iload_n 2, 1) := by decide +kernel
theorem d_M_joins_21 : decode b_M_joins 21 = .ok (.invokevirtual 916, 3) := by decide +kernel
theorem d_M_joins_24 : decode b_M_joins 24 = .ok (.ifCond .eq 12, 3) := by decide +kernel
theorem d_M_joins_27 : decode b_M_joins 27 = .ok (.aload_n 0, 1) := by decide +kernel
theorem d_M_joins_28 : decode b_M_joins 28 = .ok (.getfield 269, 3) := by decide +kernel
theorem d_M_joins_31 : decode b_M_joins 31 = .ok (.iload_n 2, 1) := by decide +kernel
theorem d_M_joins_32 : decode b_M_joins 32 = .ok (.iaload, 1) := by decide +kernel
theorem d_M_joins_33 : decode b_M_joins 33 = .ok (.ifCond .ge 5, 3) := by decide +kernel
theorem d_M_joins_36 : decode b_M_joins 36 = .ok (.iconst 0, 1) := by decide +kernel
theorem d_M_joins_37 : decode b_M_joins 37 = .ok (.ireturn, 1) := by decide +kernel
theorem d_M_joins_38 : decode b_M_joins 38 = .ok (.aload_n 0, 1) := by decide +kernel
theorem d_M_joins_39 : decode b_M_joins 39 = .ok (.getfield 308, 3) := by decide +kernel
theorem d_M_joins_42 : decode b_M_joins 42 = .ok (.iload_n 1, 1) := by decide +kernel
theorem d_M_joins_43 : decode b_M_joins 43 = .ok (.laload, 1) := by decide +kernel
theorem d_M_joins_44 : decode b_M_joins 44 = .ok (.aload_n 0, 1) := by decide +kernel
theorem d_M_joins_45 : decode b_M_joins 45 = .ok (.getfield 278, 3) := by decide +kernel
theorem d_M_joins_48 : decode b_M_joins 48 = .ok (.iload_n 2, 1) := by decide +kernel
theorem d_M_joins_49 : decode b_M_joins 49 = .ok (.laload, 1) := by decide +kernel
theorem d_M_joins_50 : decode b_M_joins 50 = .ok (.lcmp, 1) := by decide +kernel
theorem d_M_joins_51 : decode b_M_joins 51 = .ok (.ifCond .ne 53, 3) := by decide +kernel
theorem d_M_joins_54 : decode b_M_joins 54 = .ok (.aload_n 0, 1) := by decide +kernel
theorem d_M_joins_55 : decode b_M_joins 55 = .ok (.getfield 314, 3) := by decide +kernel
theorem d_M_joins_58 : decode b_M_joins 58 = .ok (.iload_n 1, 1) := by decide +kernel
theorem d_M_joins_59 : decode b_M_joins 59 = .ok (.iaload, 1) := by decide +kernel
theorem d_M_joins_60 : decode b_M_joins 60 = .ok (.aload_n 0, 1) := by decide +kernel
theorem d_M_joins_61 : decode b_M_joins 61 = .ok (.getfield 266, 3) := by decide +kernel
theorem d_M_joins_64 : decode b_M_joins 64 = .ok (.iload_n 2, 1) := by decide +kernel
theorem d_M_joins_65 : decode b_M_joins 65 = .ok (.iaload, 1) := by decide +kernel
theorem d_M_joins_66 : decode b_M_joins 66 = .ok (.if_icmp .ne 38, 3) := by decide +kernel
theorem d_M_joins_69 : decode b_M_joins 69 = .ok (.aload_n 0, 1) := by decide +kernel
theorem d_M_joins_70 : decode b_M_joins 70 = .ok (.getfield 311, 3) := by decide +kernel
theorem d_M_joins_73 : decode b_M_joins 73 = .ok (.iload_n 1, 1) := by decide +kernel
theorem d_M_joins_74 : decode b_M_joins 74 = .ok (.laload, 1) := by decide +kernel
theorem d_M_joins_75 : decode b_M_joins 75 = .ok (.aload_n 0, 1) := by decide +kernel
theorem d_M_joins_76 : decode b_M_joins 76 = .ok (.getfield 281, 3) := by decide +kernel
theorem d_M_joins_79 : decode b_M_joins 79 = .ok (.iload_n 2, 1) := by decide +kernel
theorem d_M_joins_80 : decode b_M_joins 80 = .ok (.laload, 1) := by decide +kernel
theorem d_M_joins_81 : decode b_M_joins 81 = .ok (.lcmp, 1) := by decide +kernel
theorem d_M_joins_82 : decode b_M_joins 82 = .ok (.ifCond .ne 22, 3) := by decide +kernel
theorem d_M_joins_85 : decode b_M_joins 85 = .ok (.aload_n 0, 1) := by decide +kernel
theorem d_M_joins_86 : decode b_M_joins 86 = .ok (.getfield 317, 3) := by decide +kernel
theorem d_M_joins_89 : decode b_M_joins 89 = .ok (.iload_n 1, 1) := by decide +kernel
theorem d_M_joins_90 : decode b_M_joins 90 = .ok (.iaload, 1) := by decide +kernel
theorem d_M_joins_91 : decode b_M_joins 91 = .ok (.aload_n 0, 1) := by decide +kernel
theorem d_M_joins_92 : decode b_M_joins 92 = .ok (.getfield 260, 3) := by decide +kernel
theorem d_M_joins_95 : decode b_M_joins 95 = .ok (.iload_n 2, 1) := by decide +kernel
theorem d_M_joins_96 : decode b_M_joins 96 = .ok (.iaload, 1) := by decide +kernel
theorem d_M_joins_97 : decode b_M_joins 97 = .ok (.if_icmp .ne 7, 3) := by decide +kernel
theorem d_M_joins_100 : decode b_M_joins 100 = .ok (.iconst 1, 1) := by decide +kernel
theorem d_M_joins_101 : decode b_M_joins 101 = .ok (.goto 4, 3) := by decide +kernel
theorem d_M_joins_104 : decode b_M_joins 104 = .ok (.iconst 0, 1) := by decide +kernel
theorem d_M_joins_105 : decode b_M_joins 105 = .ok (.istore_n 3, 1) := by decide +kernel
theorem d_M_joins_106 : decode b_M_joins 106 = .ok (.iconst 0, 1) := by decide +kernel
theorem d_M_joins_107 : decode b_M_joins 107 = .ok (.istore 4, 2) := by decide +kernel
theorem d_M_joins_109 : decode b_M_joins 109 = .ok (.iload 4, 2) := by decide +kernel
theorem d_M_joins_111 : decode b_M_joins 111 = .ok (.aload_n 0, 1) := by decide +kernel
theorem d_M_joins_112 : decode b_M_joins 112 = .ok (.getfield 260, 3) := by decide +kernel
theorem d_M_joins_115 : decode b_M_joins 115 = .ok (.iload_n 2, 1) := by decide +kernel
theorem d_M_joins_116 : decode b_M_joins 116 = .ok (.iaload, 1) := by decide +kernel
theorem d_M_joins_117 : decode b_M_joins 117 = .ok (.invokestatic 438, 3) := by decide +kernel
theorem d_M_joins_120 : decode b_M_joins 120 = .ok (.if_icmp .ge 46, 3) := by decide +kernel
theorem d_M_joins_123 : decode b_M_joins 123 = .ok (.iload_n 3, 1) := by decide +kernel
theorem d_M_joins_124 : decode b_M_joins 124 = .ok (.ifCond .eq 42, 3) := by decide +kernel
theorem d_M_joins_127 : decode b_M_joins 127 = .ok (.aload_n 0, 1) := by decide +kernel
theorem d_M_joins_128 : decode b_M_joins 128 = .ok (.getfield 320, 3) := by decide +kernel
theorem d_M_joins_131 : decode b_M_joins 131 = .ok (.bipush 32, 2) := by decide +kernel
theorem d_M_joins_133 : decode b_M_joins 133 = .ok (.iload_n 1, 1) := by decide +kernel
theorem d_M_joins_134 : decode b_M_joins 134 = .ok (.imul, 1) := by decide +kernel
theorem d_M_joins_135 : decode b_M_joins 135 = .ok (.iload 4, 2) := by decide +kernel
theorem d_M_joins_137 : decode b_M_joins 137 = .ok (.iadd, 1) := by decide +kernel
theorem d_M_joins_138 : decode b_M_joins 138 = .ok (.baload, 1) := by decide +kernel
theorem d_M_joins_139 : decode b_M_joins 139 = .ok (.aload_n 0, 1) := by decide +kernel
theorem d_M_joins_140 : decode b_M_joins 140 = .ok (.getfield 272, 3) := by decide +kernel
theorem d_M_joins_143 : decode b_M_joins 143 = .ok (.bipush 32, 2) := by decide +kernel
theorem d_M_joins_145 : decode b_M_joins 145 = .ok (.iload_n 2, 1) := by decide +kernel
theorem d_M_joins_146 : decode b_M_joins 146 = .ok (.imul, 1) := by decide +kernel
theorem d_M_joins_147 : decode b_M_joins 147 = .ok (.iload 4, 2) := by decide +kernel
theorem d_M_joins_149 : decode b_M_joins 149 = .ok (.iadd, 1) := by decide +kernel
theorem d_M_joins_150 : decode b_M_joins 150 = .ok (.baload, 1) := by decide +kernel
theorem d_M_joins_151 : decode b_M_joins 151 = .ok (.if_icmp .ne 7, 3) := by decide +kernel
theorem d_M_joins_154 : decode b_M_joins 154 = .ok (.iconst 1, 1) := by decide +kernel
theorem d_M_joins_155 : decode b_M_joins 155 = .ok (.goto 4, 3) := by decide +kernel
theorem d_M_joins_158 : decode b_M_joins 158 = .ok (.iconst 0, 1) := by decide +kernel
theorem d_M_joins_159 : decode b_M_joins 159 = .ok (.istore_n 3, 1) := by decide +kernel
theorem d_M_joins_160 : decode b_M_joins 160 = .ok (.iinc 4 1, 3) := by decide +kernel
theorem d_M_joins_163 : decode b_M_joins 163 = .ok (.goto (-54), 3) := by decide +kernel
theorem d_M_joins_166 : decode b_M_joins 166 = .ok (.iload_n 3, 1) := by decide +kernel
theorem d_M_joins_167 : decode b_M_joins 167 = .ok (.ifCond .ne 5, 3) := by decide +kernel
theorem d_M_joins_170 : decode b_M_joins 170 = .ok (.iconst 0, 1) := by decide +kernel
theorem d_M_joins_171 : decode b_M_joins 171 = .ok (.ireturn, 1) := by decide +kernel
theorem d_M_joins_172 : decode b_M_joins 172 = .ok (.aload_n 0, 1) := by decide +kernel
theorem d_M_joins_173 : decode b_M_joins 173 = .ok (.getfield 296, 3) := by decide +kernel
theorem d_M_joins_176 : decode b_M_joins 176 = .ok (.iload_n 1, 1) := by decide +kernel
theorem d_M_joins_177 : decode b_M_joins 177 = .ok (.iload_n 2, 1) := by decide +kernel
theorem d_M_joins_178 : decode b_M_joins 178 = .ok (.iastore, 1) := by decide +kernel
theorem d_M_joins_179 : decode b_M_joins 179 = .ok (.aload_n 0, 1) := by decide +kernel
theorem d_M_joins_180 : decode b_M_joins 180 = .ok (.getfield 302, 3) := by decide +kernel
theorem d_M_joins_183 : decode b_M_joins 183 = .ok (.iconst 2, 1) := by decide +kernel
theorem d_M_joins_184 : decode b_M_joins 184 = .ok (.iload_n 1, 1) := by decide +kernel
theorem d_M_joins_185 : decode b_M_joins 185 = .ok (.imul, 1) := by decide +kernel
theorem d_M_joins_186 : decode b_M_joins 186 = .ok (.aload_n 0, 1) := by decide +kernel
theorem d_M_joins_187 : decode b_M_joins 187 = .ok (.getfield 281, 3) := by decide +kernel
theorem d_M_joins_190 : decode b_M_joins 190 = .ok (.iload_n 2, 1) := by decide +kernel
theorem d_M_joins_191 : decode b_M_joins 191 = .ok (.laload, 1) := by decide +kernel
theorem d_M_joins_192 : decode b_M_joins 192 = .ok (.lastore, 1) := by decide +kernel
theorem d_M_joins_193 : decode b_M_joins 193 = .ok (.aload_n 0, 1) := by decide +kernel
theorem d_M_joins_194 : decode b_M_joins 194 = .ok (.getfield 305, 3) := by decide +kernel
theorem d_M_joins_197 : decode b_M_joins 197 = .ok (.iconst 2, 1) := by decide +kernel
theorem d_M_joins_198 : decode b_M_joins 198 = .ok (.iload_n 1, 1) := by decide +kernel
theorem d_M_joins_199 : decode b_M_joins 199 = .ok (.imul, 1) := by decide +kernel
theorem d_M_joins_200 : decode b_M_joins 200 = .ok (.aload_n 0, 1) := by decide +kernel
theorem d_M_joins_201 : decode b_M_joins 201 = .ok (.getfield 284, 3) := by decide +kernel
theorem d_M_joins_204 : decode b_M_joins 204 = .ok (.iload_n 2, 1) := by decide +kernel
theorem d_M_joins_205 : decode b_M_joins 205 = .ok (.laload, 1) := by decide +kernel
theorem d_M_joins_206 : decode b_M_joins 206 = .ok (.lastore, 1) := by decide +kernel
theorem d_M_joins_207 : decode b_M_joins 207 = .ok (.iconst 1, 1) := by decide +kernel
theorem d_M_joins_208 : decode b_M_joins 208 = .ok (.ireturn, 1) := by decide +kernel
abbrev b_M_hasSide : ByteArray := prog_14_method_147_code
def y_M_hasSide : MethodName := ⟨R_M, "hasSide", "(II)Z"⟩
abbrev k_M_hasSide : Cond := .code y_M_hasSide b_M_hasSide 3 (some .boolean)
theorem ki_M_hasSide : k_M_hasSide ∈ lw_tg := in_t 2835 (by decide +kernel)
theorem ks_M_hasSide : Cond.instanceMethod y_M_hasSide ∈ lw_tg := in_t 2834 (by decide +kernel)
theorem kx_M_hasSide : Cond.selects R_M y_M_hasSide y_M_hasSide ∈ lw_tg := List.mem_filter.mpr ⟨List.mem_append_left _ (List.mem_of_getElem? (i := 184) (by decide +kernel)), rfl⟩
theorem kl_M_hasSide : Cond.methodLink R_M 990 y_M_hasSide ∈ lw_tg := in_t 2832 (by decide +kernel)
theorem hd_M_hasSide : y_M_hasSide.cls = R_M ∧ y_M_hasSide.cls ≠ "java/lang/invoke/MethodHandle" ∧ y_M_hasSide.cls ≠ "java/lang/invoke/VarHandle" ∧ (parseMethodDescriptor y_M_hasSide.desc).map (fun d => d.parameters.length) = some 2 := by decide +kernel
theorem d_M_hasSide_0 : decode b_M_hasSide 0 = .ok (.iload_n 1, 1) := by decide +kernel
theorem d_M_hasSide_1 : decode b_M_hasSide 1 = .ok (.ifCond .lt 40, 3) := by decide +kernel
theorem d_M_hasSide_4 : decode b_M_hasSide 4 = .ok (.iload_n 1, 1) := by decide +kernel
theorem d_M_hasSide_5 : decode b_M_hasSide 5 = .ok (.bipush 8, 2) := by decide +kernel
theorem d_M_hasSide_7 : decode b_M_hasSide 7 = .ok (.if_icmp .ge 34, 3) := by decide +kernel
theorem d_M_hasSide_10 : decode b_M_hasSide 10 = .ok (.aload_n 0, 1) := by decide +kernel
theorem d_M_hasSide_11 : decode b_M_hasSide 11 = .ok (.getfield 290, 3) := by decide +kernel
theorem d_M_hasSide_14 : decode b_M_hasSide 14 = .ok (.iload_n 1, 1) := by decide +kernel
theorem d_M_hasSide_15 : decode b_M_hasSide 15 = .ok (.baload, 1) := by decide +kernel
theorem d_M_hasSide_16 : decode b_M_hasSide 16 = .ok (.ifCond .eq 25, 3) := by decide +kernel
theorem d_M_hasSide_19 : decode b_M_hasSide 19 = .ok (.iload_n 2, 1) := by decide +kernel
theorem d_M_hasSide_20 : decode b_M_hasSide 20 = .ok (.iconst 1, 1) := by decide +kernel
theorem d_M_hasSide_21 : decode b_M_hasSide 21 = .ok (.if_icmp .eq 16, 3) := by decide +kernel
theorem d_M_hasSide_24 : decode b_M_hasSide 24 = .ok (.iload_n 2, 1) := by decide +kernel
theorem d_M_hasSide_25 : decode b_M_hasSide 25 = .ok (.ifCond .ne 16, 3) := by decide +kernel
theorem d_M_hasSide_28 : decode b_M_hasSide 28 = .ok (.aload_n 0, 1) := by decide +kernel
theorem d_M_hasSide_29 : decode b_M_hasSide 29 = .ok (.getfield 296, 3) := by decide +kernel
theorem d_M_hasSide_32 : decode b_M_hasSide 32 = .ok (.iload_n 1, 1) := by decide +kernel
theorem d_M_hasSide_33 : decode b_M_hasSide 33 = .ok (.iaload, 1) := by decide +kernel
theorem d_M_hasSide_34 : decode b_M_hasSide 34 = .ok (.ifCond .lt 7, 3) := by decide +kernel
theorem d_M_hasSide_37 : decode b_M_hasSide 37 = .ok (.iconst 1, 1) := by decide +kernel
theorem d_M_hasSide_38 : decode b_M_hasSide 38 = .ok (.goto 4, 3) := by decide +kernel
theorem d_M_hasSide_41 : decode b_M_hasSide 41 = .ok (.iconst 0, 1) := by decide +kernel
theorem d_M_hasSide_42 : decode b_M_hasSide 42 = .ok (.ireturn, 1) := by decide +kernel
abbrev b_M_clockOfSide : ByteArray := prog_14_method_148_code
def y_M_clockOfSide : MethodName := ⟨R_M, "clockOfSide", "(II)J"⟩
abbrev k_M_clockOfSide : Cond := .code y_M_clockOfSide b_M_clockOfSide 3 (some .long)
theorem ki_M_clockOfSide : k_M_clockOfSide ∈ lw_tg := in_t 2843 (by decide +kernel)
theorem ks_M_clockOfSide : Cond.instanceMethod y_M_clockOfSide ∈ lw_tg := in_t 2842 (by decide +kernel)
theorem kx_M_clockOfSide : Cond.selects R_M y_M_clockOfSide y_M_clockOfSide ∈ lw_tg := List.mem_filter.mpr ⟨List.mem_append_left _ (List.mem_of_getElem? (i := 186) (by decide +kernel)), rfl⟩
theorem kl_M_clockOfSide : Cond.methodLink R_M 987 y_M_clockOfSide ∈ lw_tg := in_t 2840 (by decide +kernel)
theorem hd_M_clockOfSide : y_M_clockOfSide.cls = R_M ∧ y_M_clockOfSide.cls ≠ "java/lang/invoke/MethodHandle" ∧ y_M_clockOfSide.cls ≠ "java/lang/invoke/VarHandle" ∧ (parseMethodDescriptor y_M_clockOfSide.desc).map (fun d => d.parameters.length) = some 2 := by decide +kernel
theorem d_M_clockOfSide_0 : decode b_M_clockOfSide 0 = .ok (.iload_n 2, 1) := by decide +kernel
theorem d_M_clockOfSide_1 : decode b_M_clockOfSide 1 = .ok (.iconst 1, 1) := by decide +kernel
theorem d_M_clockOfSide_2 : decode b_M_clockOfSide 2 = .ok (.if_icmp .ne 11, 3) := by decide +kernel
theorem d_M_clockOfSide_5 : decode b_M_clockOfSide 5 = .ok (.aload_n 0, 1) := by decide +kernel
theorem d_M_clockOfSide_6 : decode b_M_clockOfSide 6 = .ok (.getfield 18, 3) := by decide +kernel
theorem d_M_clockOfSide_9 : decode b_M_clockOfSide 9 = .ok (.i2l, 1) := by decide +kernel
theorem d_M_clockOfSide_10 : decode b_M_clockOfSide 10 = .ok (.goto 13, 3) := by decide +kernel
theorem d_M_clockOfSide_13 : decode b_M_clockOfSide 13 = .ok (.aload_n 0, 1) := by decide +kernel
theorem d_M_clockOfSide_14 : decode b_M_clockOfSide 14 = .ok (.aload_n 0, 1) := by decide +kernel
theorem d_M_clockOfSide_15 : decode b_M_clockOfSide 15 = .ok (.getfield 296, 3) := by decide +kernel
theorem d_M_clockOfSide_18 : decode b_M_clockOfSide 18 = .ok (.iload_n 1, 1) := by decide +kernel
theorem d_M_clockOfSide_19 : decode b_M_clockOfSide 19 = .ok (.iaload, 1) := by decide +kernel
theorem d_M_clockOfSide_20 : decode b_M_clockOfSide 20 = .ok (.invokevirtual 927, 3) := by decide +kernel
theorem d_M_clockOfSide_23 : decode b_M_clockOfSide 23 = .ok (.lreturn, 1) := by decide +kernel
abbrev b_M_message : ByteArray := prog_14_method_149_code
def y_M_message : MethodName := ⟨R_M, "message", "(III)V"⟩
abbrev k_M_message : Cond := .code y_M_message b_M_message 6 none
theorem ki_M_message : k_M_message ∈ lw_tg := in_t 2839 (by decide +kernel)
theorem ks_M_message : Cond.instanceMethod y_M_message ∈ lw_tg := in_t 2838 (by decide +kernel)
theorem kx_M_message : Cond.selects R_M y_M_message y_M_message ∈ lw_tg := List.mem_filter.mpr ⟨List.mem_append_left _ (List.mem_of_getElem? (i := 185) (by decide +kernel)), rfl⟩
theorem kl_M_message : Cond.methodLink R_M 993 y_M_message ∈ lw_tg := in_t 2836 (by decide +kernel)
theorem hd_M_message : y_M_message.cls = R_M ∧ y_M_message.cls ≠ "java/lang/invoke/MethodHandle" ∧ y_M_message.cls ≠ "java/lang/invoke/VarHandle" ∧ (parseMethodDescriptor y_M_message.desc).map (fun d => d.parameters.length) = some 3 := by decide +kernel
theorem d_M_message_0 : decode b_M_message 0 = .ok (.aload_n 0, 1) := by decide +kernel
theorem d_M_message_1 : decode b_M_message 1 = .ok (.getfield 323, 3) := by decide +kernel
theorem d_M_message_4 : decode b_M_message 4 = .ok (.iconst 0, 1) := by decide +kernel
theorem d_M_message_5 : decode b_M_message 5 = .ok (.bipush 10, 2) := by decide +kernel
theorem d_M_message_7 : decode b_M_message 7 = .ok (.bastore, 1) := by decide +kernel
theorem d_M_message_8 : decode b_M_message 8 = .ok (.aload_n 0, 1) := by decide +kernel
theorem d_M_message_9 : decode b_M_message 9 = .ok (.getfield 323, 3) := by decide +kernel
theorem d_M_message_12 : decode b_M_message 12 = .ok (.iconst 3, 1) := by decide +kernel
theorem d_M_message_13 : decode b_M_message 13 = .ok (.iload_n 2, 1) := by decide +kernel
theorem d_M_message_14 : decode b_M_message 14 = .ok (.i2b, 1) := by decide +kernel
theorem d_M_message_15 : decode b_M_message 15 = .ok (.bastore, 1) := by decide +kernel
theorem d_M_message_16 : decode b_M_message 16 = .ok (.aload_n 0, 1) := by decide +kernel
theorem d_M_message_17 : decode b_M_message 17 = .ok (.getfield 553, 3) := by decide +kernel
theorem d_M_message_20 : decode b_M_message 20 = .ok (.istore 4, 2) := by decide +kernel
theorem d_M_message_22 : decode b_M_message 22 = .ok (.aload_n 0, 1) := by decide +kernel
theorem d_M_message_23 : decode b_M_message 23 = .ok (.getfield 553, 3) := by decide +kernel
theorem d_M_message_26 : decode b_M_message 26 = .ok (.istore 5, 2) := by decide +kernel
theorem d_M_message_28 : decode b_M_message 28 = .ok (.aload_n 0, 1) := by decide +kernel
theorem d_M_message_29 : decode b_M_message 29 = .ok (.iconst 1, 1) := by decide +kernel
theorem d_M_message_30 : decode b_M_message 30 = .ok (.aload_n 0, 1) := by decide +kernel
theorem d_M_message_31 : decode b_M_message 31 = .ok (.getfield 323, 3) := by decide +kernel
theorem d_M_message_34 : decode b_M_message 34 = .ok (.iconst 0, 1) := by decide +kernel
theorem d_M_message_35 : decode b_M_message 35 = .ok (.iconst 4, 1) := by decide +kernel
theorem d_M_message_36 : decode b_M_message 36 = .ok (.invokevirtual 584, 3) := by decide +kernel
theorem d_M_message_39 : decode b_M_message 39 = .ok (.aload_n 0, 1) := by decide +kernel
theorem d_M_message_40 : decode b_M_message 40 = .ok (.iconst 0, 1) := by decide +kernel
theorem d_M_message_41 : decode b_M_message 41 = .ok (.ldc2_w 810, 3) := by decide +kernel
theorem d_M_message_44 : decode b_M_message 44 = .ok (.invokevirtual 588, 3) := by decide +kernel
theorem d_M_message_47 : decode b_M_message 47 = .ok (.aload_n 0, 1) := by decide +kernel
theorem d_M_message_48 : decode b_M_message 48 = .ok (.bipush 48, 2) := by decide +kernel
theorem d_M_message_50 : decode b_M_message 50 = .ok (.iload 4, 2) := by decide +kernel
theorem d_M_message_52 : decode b_M_message 52 = .ok (.invokevirtual 559, 3) := by decide +kernel
theorem d_M_message_55 : decode b_M_message 55 = .ok (.aload_n 0, 1) := by decide +kernel
theorem d_M_message_56 : decode b_M_message 56 = .ok (.iconst 4, 1) := by decide +kernel
theorem d_M_message_57 : decode b_M_message 57 = .ok (.iload 4, 2) := by decide +kernel
theorem d_M_message_59 : decode b_M_message 59 = .ok (.invokevirtual 567, 3) := by decide +kernel
theorem d_M_message_62 : decode b_M_message 62 = .ok (.aload_n 0, 1) := by decide +kernel
theorem d_M_message_63 : decode b_M_message 63 = .ok (.iconst 3, 1) := by decide +kernel
theorem d_M_message_64 : decode b_M_message 64 = .ok (.aload_n 0, 1) := by decide +kernel
theorem d_M_message_65 : decode b_M_message 65 = .ok (.getfield 302, 3) := by decide +kernel
theorem d_M_message_68 : decode b_M_message 68 = .ok (.iconst 2, 1) := by decide +kernel
theorem d_M_message_69 : decode b_M_message 69 = .ok (.iload_n 1, 1) := by decide +kernel
theorem d_M_message_70 : decode b_M_message 70 = .ok (.imul, 1) := by decide +kernel
theorem d_M_message_71 : decode b_M_message 71 = .ok (.iload_n 2, 1) := by decide +kernel
theorem d_M_message_72 : decode b_M_message 72 = .ok (.iadd, 1) := by decide +kernel
theorem d_M_message_73 : decode b_M_message 73 = .ok (.laload, 1) := by decide +kernel
theorem d_M_message_74 : decode b_M_message 74 = .ok (.invokevirtual 588, 3) := by decide +kernel
theorem d_M_message_77 : decode b_M_message 77 = .ok (.aload_n 0, 1) := by decide +kernel
theorem d_M_message_78 : decode b_M_message 78 = .ok (.iconst 2, 1) := by decide +kernel
theorem d_M_message_79 : decode b_M_message 79 = .ok (.lconst 0, 1) := by decide +kernel
theorem d_M_message_80 : decode b_M_message 80 = .ok (.invokevirtual 588, 3) := by decide +kernel
theorem d_M_message_83 : decode b_M_message 83 = .ok (.aload_n 0, 1) := by decide +kernel
theorem d_M_message_84 : decode b_M_message 84 = .ok (.iconst 1, 1) := by decide +kernel
theorem d_M_message_85 : decode b_M_message 85 = .ok (.aload_n 0, 1) := by decide +kernel
theorem d_M_message_86 : decode b_M_message 86 = .ok (.iload_n 1, 1) := by decide +kernel
theorem d_M_message_87 : decode b_M_message 87 = .ok (.iload_n 2, 1) := by decide +kernel
theorem d_M_message_88 : decode b_M_message 88 = .ok (.invokevirtual 987, 3) := by decide +kernel
theorem d_M_message_91 : decode b_M_message 91 = .ok (.invokevirtual 884, 3) := by decide +kernel
theorem d_M_message_94 : decode b_M_message 94 = .ok (.aload_n 0, 1) := by decide +kernel
theorem d_M_message_95 : decode b_M_message 95 = .ok (.iconst 0, 1) := by decide +kernel
theorem d_M_message_96 : decode b_M_message 96 = .ok (.aload_n 0, 1) := by decide +kernel
theorem d_M_message_97 : decode b_M_message 97 = .ok (.getfield 10, 3) := by decide +kernel
theorem d_M_message_100 : decode b_M_message 100 = .ok (.iconst 0, 1) := by decide +kernel
theorem d_M_message_101 : decode b_M_message 101 = .ok (.iload_n 3, 1) := by decide +kernel
theorem d_M_message_102 : decode b_M_message 102 = .ok (.invokevirtual 584, 3) := by decide +kernel
theorem d_M_message_105 : decode b_M_message 105 = .ok (.aload_n 0, 1) := by decide +kernel
theorem d_M_message_106 : decode b_M_message 106 = .ok (.bipush 48, 2) := by decide +kernel
theorem d_M_message_108 : decode b_M_message 108 = .ok (.iload 5, 2) := by decide +kernel
theorem d_M_message_110 : decode b_M_message 110 = .ok (.invokevirtual 559, 3) := by decide +kernel
theorem d_M_message_113 : decode b_M_message 113 = .ok (.aload_n 0, 1) := by decide +kernel
theorem d_M_message_114 : decode b_M_message 114 = .ok (.getfield 302, 3) := by decide +kernel
theorem d_M_message_117 : decode b_M_message 117 = .ok (.iconst 2, 1) := by decide +kernel
theorem d_M_message_118 : decode b_M_message 118 = .ok (.iload_n 1, 1) := by decide +kernel
theorem d_M_message_119 : decode b_M_message 119 = .ok (.imul, 1) := by decide +kernel
theorem d_M_message_120 : decode b_M_message 120 = .ok (.iload_n 2, 1) := by decide +kernel
theorem d_M_message_121 : decode b_M_message 121 = .ok (.iadd, 1) := by decide +kernel
theorem d_M_message_122 : decode b_M_message 122 = .ok (.aload_n 0, 1) := by decide +kernel
theorem d_M_message_123 : decode b_M_message 123 = .ok (.getfield 302, 3) := by decide +kernel
theorem d_M_message_126 : decode b_M_message 126 = .ok (.iconst 2, 1) := by decide +kernel
theorem d_M_message_127 : decode b_M_message 127 = .ok (.iload_n 1, 1) := by decide +kernel
theorem d_M_message_128 : decode b_M_message 128 = .ok (.imul, 1) := by decide +kernel
theorem d_M_message_129 : decode b_M_message 129 = .ok (.iload_n 2, 1) := by decide +kernel
theorem d_M_message_130 : decode b_M_message 130 = .ok (.iadd, 1) := by decide +kernel
theorem d_M_message_131 : decode b_M_message 131 = .ok (.laload, 1) := by decide +kernel
theorem d_M_message_132 : decode b_M_message 132 = .ok (.lconst 1, 1) := by decide +kernel
theorem d_M_message_133 : decode b_M_message 133 = .ok (.ladd, 1) := by decide +kernel
theorem d_M_message_134 : decode b_M_message 134 = .ok (.ldc2_w 503, 3) := by decide +kernel
theorem d_M_message_137 : decode b_M_message 137 = .ok (.land, 1) := by decide +kernel
theorem d_M_message_138 : decode b_M_message 138 = .ok (.lastore, 1) := by decide +kernel
theorem d_M_message_139 : decode b_M_message 139 = .ok (.return_, 1) := by decide +kernel
abbrev b_M_send : ByteArray := prog_14_method_150_code
def y_M_send : MethodName := ⟨R_M, "send", "(II)I"⟩
abbrev k_M_send : Cond := .code y_M_send b_M_send 6 (some .int)
theorem ki_M_send : k_M_send ∈ lw_tg := in_t 2831 (by decide +kernel)
theorem ks_M_send : Cond.instanceMethod y_M_send ∈ lw_tg := in_t 2829 (by decide +kernel)
theorem kx_M_send : Cond.selects R_M y_M_send y_M_send ∈ lw_tg := in_t 2830 (by decide +kernel)
theorem hd_M_send : y_M_send.cls = R_M ∧ y_M_send.cls ≠ "java/lang/invoke/MethodHandle" ∧ y_M_send.cls ≠ "java/lang/invoke/VarHandle" ∧ (parseMethodDescriptor y_M_send.desc).map (fun d => d.parameters.length) = some 2 := by decide +kernel
theorem d_M_send_0 : decode b_M_send 0 = .ok (.aload_n 0, 1) := by decide +kernel
theorem d_M_send_1 : decode b_M_send 1 = .ok (.getfield 332, 3) := by decide +kernel
theorem d_M_send_4 : decode b_M_send 4 = .ok (.istore_n 3, 1) := by decide +kernel
theorem d_M_send_5 : decode b_M_send 5 = .ok (.aload_n 0, 1) := by decide +kernel
theorem d_M_send_6 : decode b_M_send 6 = .ok (.iload_n 1, 1) := by decide +kernel
theorem d_M_send_7 : decode b_M_send 7 = .ok (.iload_n 2, 1) := by decide +kernel
theorem d_M_send_8 : decode b_M_send 8 = .ok (.invokevirtual 990, 3) := by decide +kernel
theorem d_M_send_11 : decode b_M_send 11 = .ok (.ifCond .eq 14, 3) := by decide +kernel
theorem d_M_send_14 : decode b_M_send 14 = .ok (.iload_n 3, 1) := by decide +kernel
theorem d_M_send_15 : decode b_M_send 15 = .ok (.sipush 1000, 3) := by decide +kernel
theorem d_M_send_18 : decode b_M_send 18 = .ok (.if_icmp .gt 7, 3) := by decide +kernel
theorem d_M_send_21 : decode b_M_send 21 = .ok (.iconst 1, 1) := by decide +kernel
theorem d_M_send_22 : decode b_M_send 22 = .ok (.goto 4, 3) := by decide +kernel
theorem d_M_send_25 : decode b_M_send 25 = .ok (.iconst 0, 1) := by decide +kernel
theorem d_M_send_26 : decode b_M_send 26 = .ok (.istore 4, 2) := by decide +kernel
theorem d_M_send_28 : decode b_M_send 28 = .ok (.aload_n 0, 1) := by decide +kernel
theorem d_M_send_29 : decode b_M_send 29 = .ok (.iconst 0, 1) := by decide +kernel
theorem d_M_send_30 : decode b_M_send 30 = .ok (.putfield 332, 3) := by decide +kernel
theorem d_M_send_33 : decode b_M_send 33 = .ok (.iload 4, 2) := by decide +kernel
theorem d_M_send_35 : decode b_M_send 35 = .ok (.ifCond .ne 5, 3) := by decide +kernel
theorem d_M_send_38 : decode b_M_send 38 = .ok (.iconst (-1), 1) := by decide +kernel
theorem d_M_send_39 : decode b_M_send 39 = .ok (.ireturn, 1) := by decide +kernel
theorem d_M_send_40 : decode b_M_send 40 = .ok (.aload_n 0, 1) := by decide +kernel
theorem d_M_send_41 : decode b_M_send 41 = .ok (.invokevirtual 861, 3) := by decide +kernel
theorem d_M_send_44 : decode b_M_send 44 = .ok (.aload_n 0, 1) := by decide +kernel
theorem d_M_send_45 : decode b_M_send 45 = .ok (.iload_n 1, 1) := by decide +kernel
theorem d_M_send_46 : decode b_M_send 46 = .ok (.iload_n 2, 1) := by decide +kernel
theorem d_M_send_47 : decode b_M_send 47 = .ok (.iload_n 3, 1) := by decide +kernel
theorem d_M_send_48 : decode b_M_send 48 = .ok (.invokevirtual 993, 3) := by decide +kernel
theorem d_M_send_51 : decode b_M_send 51 = .ok (.aload_n 0, 1) := by decide +kernel
theorem d_M_send_52 : decode b_M_send 52 = .ok (.bipush 124, 2) := by decide +kernel
theorem d_M_send_54 : decode b_M_send 54 = .ok (.ldc 9, 2) := by decide +kernel
theorem d_M_send_56 : decode b_M_send 56 = .ok (.invokevirtual 559, 3) := by decide +kernel
theorem d_M_send_59 : decode b_M_send 59 = .ok (.iconst 0, 1) := by decide +kernel
theorem d_M_send_60 : decode b_M_send 60 = .ok (.istore 5, 2) := by decide +kernel
theorem d_M_send_62 : decode b_M_send 62 = .ok (.iload 5, 2) := by decide +kernel
theorem d_M_send_64 : decode b_M_send 64 = .ok (.bipush 32, 2) := by decide +kernel
theorem d_M_send_66 : decode b_M_send 66 = .ok (.if_icmp .ge 28, 3) := by decide +kernel
theorem d_M_send_69 : decode b_M_send 69 = .ok (.aload_n 0, 1) := by decide +kernel
theorem d_M_send_70 : decode b_M_send 70 = .ok (.getfield 137, 3) := by decide +kernel
theorem d_M_send_73 : decode b_M_send 73 = .ok (.iload 5, 2) := by decide +kernel
theorem d_M_send_75 : decode b_M_send 75 = .ok (.aload_n 0, 1) := by decide +kernel
theorem d_M_send_76 : decode b_M_send 76 = .ok (.getfield 299, 3) := by decide +kernel
theorem d_M_send_79 : decode b_M_send 79 = .ok (.bipush 32, 2) := by decide +kernel
theorem d_M_send_81 : decode b_M_send 81 = .ok (.iload_n 1, 1) := by decide +kernel
theorem d_M_send_82 : decode b_M_send 82 = .ok (.imul, 1) := by decide +kernel
theorem d_M_send_83 : decode b_M_send 83 = .ok (.iload 5, 2) := by decide +kernel
theorem d_M_send_85 : decode b_M_send 85 = .ok (.iadd, 1) := by decide +kernel
theorem d_M_send_86 : decode b_M_send 86 = .ok (.baload, 1) := by decide +kernel
theorem d_M_send_87 : decode b_M_send 87 = .ok (.bastore, 1) := by decide +kernel
theorem d_M_send_88 : decode b_M_send 88 = .ok (.iinc 5 1, 3) := by decide +kernel
theorem d_M_send_91 : decode b_M_send 91 = .ok (.goto (-29), 3) := by decide +kernel
theorem d_M_send_94 : decode b_M_send 94 = .ok (.aload_n 0, 1) := by decide +kernel
theorem d_M_send_95 : decode b_M_send 95 = .ok (.aload_n 0, 1) := by decide +kernel
theorem d_M_send_96 : decode b_M_send 96 = .ok (.getfield 137, 3) := by decide +kernel
theorem d_M_send_99 : decode b_M_send 99 = .ok (.aload_n 0, 1) := by decide +kernel
theorem d_M_send_100 : decode b_M_send 100 = .ok (.getfield 293, 3) := by decide +kernel
theorem d_M_send_103 : decode b_M_send 103 = .ok (.iload_n 1, 1) := by decide +kernel
theorem d_M_send_104 : decode b_M_send 104 = .ok (.iaload, 1) := by decide +kernel
theorem d_M_send_105 : decode b_M_send 105 = .ok (.bipush 13, 2) := by decide +kernel
theorem d_M_send_107 : decode b_M_send 107 = .ok (.aload_n 0, 1) := by decide +kernel
theorem d_M_send_108 : decode b_M_send 108 = .ok (.getfield 553, 3) := by decide +kernel
theorem d_M_send_111 : decode b_M_send 111 = .ok (.ldc 9, 2) := by decide +kernel
theorem d_M_send_113 : decode b_M_send 113 = .ok (.invokevirtual 867, 3) := by decide +kernel
theorem d_M_send_116 : decode b_M_send 116 = .ok (.aload_n 0, 1) := by decide +kernel
theorem d_M_send_117 : decode b_M_send 117 = .ok (.invokevirtual 861, 3) := by decide +kernel
theorem d_M_send_120 : decode b_M_send 120 = .ok (.aload_n 0, 1) := by decide +kernel
theorem d_M_send_121 : decode b_M_send 121 = .ok (.iconst 3, 1) := by decide +kernel
theorem d_M_send_122 : decode b_M_send 122 = .ok (.aload_n 0, 1) := by decide +kernel
theorem d_M_send_123 : decode b_M_send 123 = .ok (.getfield 293, 3) := by decide +kernel
theorem d_M_send_126 : decode b_M_send 126 = .ok (.iload_n 1, 1) := by decide +kernel
theorem d_M_send_127 : decode b_M_send 127 = .ok (.iaload, 1) := by decide +kernel
theorem d_M_send_128 : decode b_M_send 128 = .ok (.lconst 0, 1) := by decide +kernel
theorem d_M_send_129 : decode b_M_send 129 = .ok (.invokevirtual 870, 3) := by decide +kernel
theorem d_M_send_132 : decode b_M_send 132 = .ok (.aload_n 0, 1) := by decide +kernel
theorem d_M_send_133 : decode b_M_send 133 = .ok (.iconst 1, 1) := by decide +kernel
theorem d_M_send_134 : decode b_M_send 134 = .ok (.ldc2_w 996, 3) := by decide +kernel
theorem d_M_send_137 : decode b_M_send 137 = .ok (.invokevirtual 588, 3) := by decide +kernel
theorem d_M_send_140 : decode b_M_send 140 = .ok (.aload_n 0, 1) := by decide +kernel
theorem d_M_send_141 : decode b_M_send 141 = .ok (.iconst 0, 1) := by decide +kernel
theorem d_M_send_142 : decode b_M_send 142 = .ok (.ldc2_w 669, 3) := by decide +kernel
theorem d_M_send_145 : decode b_M_send 145 = .ok (.invokevirtual 588, 3) := by decide +kernel
theorem d_M_send_148 : decode b_M_send 148 = .ok (.aload_n 0, 1) := by decide +kernel
theorem d_M_send_149 : decode b_M_send 149 = .ok (.bipush 48, 2) := by decide +kernel
theorem d_M_send_151 : decode b_M_send 151 = .ok (.ldc 9, 2) := by decide +kernel
theorem d_M_send_153 : decode b_M_send 153 = .ok (.invokevirtual 559, 3) := by decide +kernel
theorem d_M_send_156 : decode b_M_send 156 = .ok (.aload_n 0, 1) := by decide +kernel
theorem d_M_send_157 : decode b_M_send 157 = .ok (.bipush 117, 2) := by decide +kernel
theorem d_M_send_159 : decode b_M_send 159 = .ok (.ldc 9, 2) := by decide +kernel
theorem d_M_send_161 : decode b_M_send 161 = .ok (.invokevirtual 559, 3) := by decide +kernel
theorem d_M_send_164 : decode b_M_send 164 = .ok (.aload_n 0, 1) := by decide +kernel
theorem d_M_send_165 : decode b_M_send 165 = .ok (.invokevirtual 905, 3) := by decide +kernel
theorem d_M_send_168 : decode b_M_send 168 = .ok (.aload_n 0, 1) := by decide +kernel
theorem d_M_send_169 : decode b_M_send 169 = .ok (.getfield 348, 3) := by decide +kernel
theorem d_M_send_172 : decode b_M_send 172 = .ok (.ireturn, 1) := by decide +kernel
abbrev b_M_receive : ByteArray := prog_14_method_151_code
def y_M_receive : MethodName := ⟨R_M, "receive", "(II)I"⟩
abbrev k_M_receive : Cond := .code y_M_receive b_M_receive 5 (some .int)
theorem ki_M_receive : k_M_receive ∈ lw_tg := in_t 2848 (by decide +kernel)
theorem ks_M_receive : Cond.instanceMethod y_M_receive ∈ lw_tg := in_t 2846 (by decide +kernel)
theorem kx_M_receive : Cond.selects R_M y_M_receive y_M_receive ∈ lw_tg := in_t 2847 (by decide +kernel)
theorem hd_M_receive : y_M_receive.cls = R_M ∧ y_M_receive.cls ≠ "java/lang/invoke/MethodHandle" ∧ y_M_receive.cls ≠ "java/lang/invoke/VarHandle" ∧ (parseMethodDescriptor y_M_receive.desc).map (fun d => d.parameters.length) = some 2 := by decide +kernel
theorem d_M_receive_0 : decode b_M_receive 0 = .ok (.aload_n 0, 1) := by decide +kernel
theorem d_M_receive_1 : decode b_M_receive 1 = .ok (.getfield 332, 3) := by decide +kernel
theorem d_M_receive_4 : decode b_M_receive 4 = .ok (.istore_n 3, 1) := by decide +kernel
theorem d_M_receive_5 : decode b_M_receive 5 = .ok (.aload_n 0, 1) := by decide +kernel
theorem d_M_receive_6 : decode b_M_receive 6 = .ok (.iconst 0, 1) := by decide +kernel
theorem d_M_receive_7 : decode b_M_receive 7 = .ok (.putfield 332, 3) := by decide +kernel
theorem d_M_receive_10 : decode b_M_receive 10 = .ok (.aload_n 0, 1) := by decide +kernel
theorem d_M_receive_11 : decode b_M_receive 11 = .ok (.iload_n 1, 1) := by decide +kernel
theorem d_M_receive_12 : decode b_M_receive 12 = .ok (.iload_n 2, 1) := by decide +kernel
theorem d_M_receive_13 : decode b_M_receive 13 = .ok (.invokevirtual 990, 3) := by decide +kernel
theorem d_M_receive_16 : decode b_M_receive 16 = .ok (.ifCond .ne 5, 3) := by decide +kernel
theorem d_M_receive_19 : decode b_M_receive 19 = .ok (.iconst (-1), 1) := by decide +kernel
theorem d_M_receive_20 : decode b_M_receive 20 = .ok (.ireturn, 1) := by decide +kernel
theorem d_M_receive_21 : decode b_M_receive 21 = .ok (.aload_n 0, 1) := by decide +kernel
theorem d_M_receive_22 : decode b_M_receive 22 = .ok (.bipush 21, 2) := by decide +kernel
theorem d_M_receive_24 : decode b_M_receive 24 = .ok (.ldc_w 998, 3) := by decide +kernel
theorem d_M_receive_27 : decode b_M_receive 27 = .ok (.iconst 0, 1) := by decide +kernel
theorem d_M_receive_28 : decode b_M_receive 28 = .ok (.iload_n 3, 1) := by decide +kernel
theorem d_M_receive_29 : decode b_M_receive 29 = .ok (.iconst 0, 1) := by decide +kernel
theorem d_M_receive_30 : decode b_M_receive 30 = .ok (.invokevirtual 522, 3) := by decide +kernel
theorem d_M_receive_33 : decode b_M_receive 33 = .ok (.ifCond .ne 6, 3) := by decide +kernel
theorem d_M_receive_36 : decode b_M_receive 36 = .ok (.bipush (-60), 2) := by decide +kernel
theorem d_M_receive_38 : decode b_M_receive 38 = .ok (.ireturn, 1) := by decide +kernel
theorem d_M_receive_39 : decode b_M_receive 39 = .ok (.aload_n 0, 1) := by decide +kernel
theorem d_M_receive_40 : decode b_M_receive 40 = .ok (.iconst 0, 1) := by decide +kernel
theorem d_M_receive_41 : decode b_M_receive 41 = .ok (.iconst 0, 1) := by decide +kernel
theorem d_M_receive_42 : decode b_M_receive 42 = .ok (.invokevirtual 665, 3) := by decide +kernel
theorem d_M_receive_45 : decode b_M_receive 45 = .ok (.ldc2_w 669, 3) := by decide +kernel
theorem d_M_receive_48 : decode b_M_receive 48 = .ok (.lcmp, 1) := by decide +kernel
theorem d_M_receive_49 : decode b_M_receive 49 = .ok (.ifCond .eq 6, 3) := by decide +kernel
theorem d_M_receive_52 : decode b_M_receive 52 = .ok (.bipush (-3), 2) := by decide +kernel
theorem d_M_receive_54 : decode b_M_receive 54 = .ok (.ireturn, 1) := by decide +kernel
theorem d_M_receive_55 : decode b_M_receive 55 = .ok (.aload_n 0, 1) := by decide +kernel
theorem d_M_receive_56 : decode b_M_receive 56 = .ok (.iconst 0, 1) := by decide +kernel
theorem d_M_receive_57 : decode b_M_receive 57 = .ok (.iconst 1, 1) := by decide +kernel
theorem d_M_receive_58 : decode b_M_receive 58 = .ok (.invokevirtual 665, 3) := by decide +kernel
theorem d_M_receive_61 : decode b_M_receive 61 = .ok (.ldc2_w 996, 3) := by decide +kernel
theorem d_M_receive_64 : decode b_M_receive 64 = .ok (.lcmp, 1) := by decide +kernel
theorem d_M_receive_65 : decode b_M_receive 65 = .ok (.ifCond .eq 6, 3) := by decide +kernel
theorem d_M_receive_68 : decode b_M_receive 68 = .ok (.bipush (-40), 2) := by decide +kernel
theorem d_M_receive_70 : decode b_M_receive 70 = .ok (.ireturn, 1) := by decide +kernel
theorem d_M_receive_71 : decode b_M_receive 71 = .ok (.iconst 0, 1) := by decide +kernel
theorem d_M_receive_72 : decode b_M_receive 72 = .ok (.istore 4, 2) := by decide +kernel
theorem d_M_receive_74 : decode b_M_receive 74 = .ok (.iload 4, 2) := by decide +kernel
theorem d_M_receive_76 : decode b_M_receive 76 = .ok (.bipush 32, 2) := by decide +kernel
theorem d_M_receive_78 : decode b_M_receive 78 = .ok (.if_icmp .ge 28, 3) := by decide +kernel
theorem d_M_receive_81 : decode b_M_receive 81 = .ok (.aload_n 0, 1) := by decide +kernel
theorem d_M_receive_82 : decode b_M_receive 82 = .ok (.getfield 137, 3) := by decide +kernel
theorem d_M_receive_85 : decode b_M_receive 85 = .ok (.iload 4, 2) := by decide +kernel
theorem d_M_receive_87 : decode b_M_receive 87 = .ok (.aload_n 0, 1) := by decide +kernel
theorem d_M_receive_88 : decode b_M_receive 88 = .ok (.getfield 299, 3) := by decide +kernel
theorem d_M_receive_91 : decode b_M_receive 91 = .ok (.bipush 32, 2) := by decide +kernel
theorem d_M_receive_93 : decode b_M_receive 93 = .ok (.iload_n 1, 1) := by decide +kernel
theorem d_M_receive_94 : decode b_M_receive 94 = .ok (.imul, 1) := by decide +kernel
theorem d_M_receive_95 : decode b_M_receive 95 = .ok (.iload 4, 2) := by decide +kernel
theorem d_M_receive_97 : decode b_M_receive 97 = .ok (.iadd, 1) := by decide +kernel
theorem d_M_receive_98 : decode b_M_receive 98 = .ok (.baload, 1) := by decide +kernel
theorem d_M_receive_99 : decode b_M_receive 99 = .ok (.bastore, 1) := by decide +kernel
theorem d_M_receive_100 : decode b_M_receive 100 = .ok (.iinc 4 1, 3) := by decide +kernel
theorem d_M_receive_103 : decode b_M_receive 103 = .ok (.goto (-29), 3) := by decide +kernel
theorem d_M_receive_106 : decode b_M_receive 106 = .ok (.aload_n 0, 1) := by decide +kernel
theorem d_M_receive_107 : decode b_M_receive 107 = .ok (.ldc_w 516, 3) := by decide +kernel
theorem d_M_receive_110 : decode b_M_receive 110 = .ok (.aload_n 0, 1) := by decide +kernel
theorem d_M_receive_111 : decode b_M_receive 111 = .ok (.iconst 0, 1) := by decide +kernel
theorem d_M_receive_112 : decode b_M_receive 112 = .ok (.iconst 3, 1) := by decide +kernel
theorem d_M_receive_113 : decode b_M_receive 113 = .ok (.invokevirtual 536, 3) := by decide +kernel
theorem d_M_receive_116 : decode b_M_receive 116 = .ok (.aload_n 0, 1) := by decide +kernel
theorem d_M_receive_117 : decode b_M_receive 117 = .ok (.iconst 0, 1) := by decide +kernel
theorem d_M_receive_118 : decode b_M_receive 118 = .ok (.iconst 3, 1) := by decide +kernel
theorem d_M_receive_119 : decode b_M_receive 119 = .ok (.invokevirtual 539, 3) := by decide +kernel
theorem d_M_receive_122 : decode b_M_receive 122 = .ok (.bipush 6, 2) := by decide +kernel
theorem d_M_receive_124 : decode b_M_receive 124 = .ok (.invokevirtual 487, 3) := by decide +kernel
theorem d_M_receive_127 : decode b_M_receive 127 = .ok (.pop, 1) := by decide +kernel
theorem d_M_receive_128 : decode b_M_receive 128 = .ok (.aload_n 0, 1) := by decide +kernel
theorem d_M_receive_129 : decode b_M_receive 129 = .ok (.bipush 6, 2) := by decide +kernel
theorem d_M_receive_131 : decode b_M_receive 131 = .ok (.iconst 0, 1) := by decide +kernel
theorem d_M_receive_132 : decode b_M_receive 132 = .ok (.invokevirtual 665, 3) := by decide +kernel
theorem d_M_receive_135 : decode b_M_receive 135 = .ok (.aload_n 0, 1) := by decide +kernel
theorem d_M_receive_136 : decode b_M_receive 136 = .ok (.getfield 293, 3) := by decide +kernel
theorem d_M_receive_139 : decode b_M_receive 139 = .ok (.iload_n 1, 1) := by decide +kernel
theorem d_M_receive_140 : decode b_M_receive 140 = .ok (.iaload, 1) := by decide +kernel
theorem d_M_receive_141 : decode b_M_receive 141 = .ok (.i2l, 1) := by decide +kernel
theorem d_M_receive_142 : decode b_M_receive 142 = .ok (.lcmp, 1) := by decide +kernel
theorem d_M_receive_143 : decode b_M_receive 143 = .ok (.ifCond .eq 6, 3) := by decide +kernel
theorem d_M_receive_146 : decode b_M_receive 146 = .ok (.bipush (-31), 2) := by decide +kernel
theorem d_M_receive_148 : decode b_M_receive 148 = .ok (.ireturn, 1) := by decide +kernel
theorem d_M_receive_149 : decode b_M_receive 149 = .ok (.aload_n 0, 1) := by decide +kernel
theorem d_M_receive_150 : decode b_M_receive 150 = .ok (.aload_n 0, 1) := by decide +kernel
theorem d_M_receive_151 : decode b_M_receive 151 = .ok (.bipush 6, 2) := by decide +kernel
theorem d_M_receive_153 : decode b_M_receive 153 = .ok (.iconst 2, 1) := by decide +kernel
theorem d_M_receive_154 : decode b_M_receive 154 = .ok (.invokevirtual 536, 3) := by decide +kernel
theorem d_M_receive_157 : decode b_M_receive 157 = .ok (.aload_n 0, 1) := by decide +kernel
theorem d_M_receive_158 : decode b_M_receive 158 = .ok (.bipush 6, 2) := by decide +kernel
theorem d_M_receive_160 : decode b_M_receive 160 = .ok (.iconst 2, 1) := by decide +kernel
theorem d_M_receive_161 : decode b_M_receive 161 = .ok (.invokevirtual 539, 3) := by decide +kernel
theorem d_M_receive_164 : decode b_M_receive 164 = .ok (.iconst 4, 1) := by decide +kernel
theorem d_M_receive_165 : decode b_M_receive 165 = .ok (.invokevirtual 476, 3) := by decide +kernel
theorem d_M_receive_168 : decode b_M_receive 168 = .ok (.pop, 1) := by decide +kernel
theorem d_M_receive_169 : decode b_M_receive 169 = .ok (.aload_n 0, 1) := by decide +kernel
theorem d_M_receive_170 : decode b_M_receive 170 = .ok (.aload_n 0, 1) := by decide +kernel
theorem d_M_receive_171 : decode b_M_receive 171 = .ok (.getfield 137, 3) := by decide +kernel
theorem d_M_receive_174 : decode b_M_receive 174 = .ok (.aload_n 0, 1) := by decide +kernel
theorem d_M_receive_175 : decode b_M_receive 175 = .ok (.getfield 293, 3) := by decide +kernel
theorem d_M_receive_178 : decode b_M_receive 178 = .ok (.iload_n 1, 1) := by decide +kernel
theorem d_M_receive_179 : decode b_M_receive 179 = .ok (.iaload, 1) := by decide +kernel
theorem d_M_receive_180 : decode b_M_receive 180 = .ok (.bipush 13, 2) := by decide +kernel
theorem d_M_receive_182 : decode b_M_receive 182 = .ok (.aload_n 0, 1) := by decide +kernel
theorem d_M_receive_183 : decode b_M_receive 183 = .ok (.getfield 470, 3) := by decide +kernel
theorem d_M_receive_186 : decode b_M_receive 186 = .ok (.aload_n 0, 1) := by decide +kernel
theorem d_M_receive_187 : decode b_M_receive 187 = .ok (.getfield 473, 3) := by decide +kernel
theorem d_M_receive_190 : decode b_M_receive 190 = .ok (.sipush 4200, 3) := by decide +kernel
theorem d_M_receive_193 : decode b_M_receive 193 = .ok (.invokevirtual 765, 3) := by decide +kernel
theorem d_M_receive_196 : decode b_M_receive 196 = .ok (.istore 4, 2) := by decide +kernel
theorem d_M_receive_198 : decode b_M_receive 198 = .ok (.iload 4, 2) := by decide +kernel
theorem d_M_receive_200 : decode b_M_receive 200 = .ok (.ifCond .ge 6, 3) := by decide +kernel
theorem d_M_receive_203 : decode b_M_receive 203 = .ok (.bipush (-31), 2) := by decide +kernel
theorem d_M_receive_205 : decode b_M_receive 205 = .ok (.ireturn, 1) := by decide +kernel
theorem d_M_receive_206 : decode b_M_receive 206 = .ok (.aload_n 0, 1) := by decide +kernel
theorem d_M_receive_207 : decode b_M_receive 207 = .ok (.bipush 28, 2) := by decide +kernel
theorem d_M_receive_209 : decode b_M_receive 209 = .ok (.ldc_w 528, 3) := by decide +kernel
theorem d_M_receive_212 : decode b_M_receive 212 = .ok (.sipush 4200, 3) := by decide +kernel
theorem d_M_receive_215 : decode b_M_receive 215 = .ok (.sipush 4200, 3) := by decide +kernel
theorem d_M_receive_218 : decode b_M_receive 218 = .ok (.iload 4, 2) := by decide +kernel
theorem d_M_receive_220 : decode b_M_receive 220 = .ok (.iadd, 1) := by decide +kernel
theorem d_M_receive_221 : decode b_M_receive 221 = .ok (.iconst 4, 1) := by decide +kernel
theorem d_M_receive_222 : decode b_M_receive 222 = .ok (.invokevirtual 522, 3) := by decide +kernel
theorem d_M_receive_225 : decode b_M_receive 225 = .ok (.ifCond .ne 6, 3) := by decide +kernel
theorem d_M_receive_228 : decode b_M_receive 228 = .ok (.bipush (-60), 2) := by decide +kernel
theorem d_M_receive_230 : decode b_M_receive 230 = .ok (.ireturn, 1) := by decide +kernel
theorem d_M_receive_231 : decode b_M_receive 231 = .ok (.aload_n 0, 1) := by decide +kernel
theorem d_M_receive_232 : decode b_M_receive 232 = .ok (.iload_n 1, 1) := by decide +kernel
theorem d_M_receive_233 : decode b_M_receive 233 = .ok (.iload_n 2, 1) := by decide +kernel
theorem d_M_receive_234 : decode b_M_receive 234 = .ok (.invokevirtual 1000, 3) := by decide +kernel
theorem d_M_receive_237 : decode b_M_receive 237 = .ok (.ireturn, 1) := by decide +kernel
