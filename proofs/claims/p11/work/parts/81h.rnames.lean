abbrev b_M_error : ByteArray := prog_14_method_122_code
def y_M_error : MethodName := ⟨R_M, "error", "(I)V"⟩
abbrev k_M_error : Cond := .code y_M_error b_M_error 5 none
theorem ki_M_error : k_M_error ∈ lw_tg := in_t 2705 (by decide +kernel)
theorem ks_M_error : Cond.instanceMethod y_M_error ∈ lw_tg := in_t 2704 (by decide +kernel)
theorem kx_M_error : Cond.selects R_M y_M_error y_M_error ∈ lw_tg := List.mem_filter.mpr ⟨List.mem_append_left _ (List.mem_of_getElem? (i := 167) (by decide +kernel)), rfl⟩
theorem kl_M_error : Cond.methodLink R_M 657 y_M_error ∈ lw_tg := in_t 2702 (by decide +kernel)
theorem hd_M_error : y_M_error.cls = R_M ∧ y_M_error.cls ≠ "java/lang/invoke/MethodHandle" ∧ y_M_error.cls ≠ "java/lang/invoke/VarHandle" ∧ (parseMethodDescriptor y_M_error.desc).map (fun d => d.parameters.length) = some 1 := by decide +kernel
theorem d_M_error_0 : decode b_M_error 0 = .ok (.aload_n 0, 1) := by decide +kernel
theorem d_M_error_1 : decode b_M_error 1 = .ok (.invokevirtual 861, 3) := by decide +kernel
theorem d_M_error_4 : decode b_M_error 4 = .ok (.aload_n 0, 1) := by decide +kernel
theorem d_M_error_5 : decode b_M_error 5 = .ok (.getfield 651, 3) := by decide +kernel
theorem d_M_error_8 : decode b_M_error 8 = .ok (.ifCond .eq 130, 3) := by decide +kernel
theorem d_M_error_11 : decode b_M_error 11 = .ok (.aload_n 0, 1) := by decide +kernel
theorem d_M_error_12 : decode b_M_error 12 = .ok (.getfield 553, 3) := by decide +kernel
theorem d_M_error_15 : decode b_M_error 15 = .ok (.istore_n 2, 1) := by decide +kernel
theorem d_M_error_16 : decode b_M_error 16 = .ok (.aload_n 0, 1) := by decide +kernel
theorem d_M_error_17 : decode b_M_error 17 = .ok (.getfield 553, 3) := by decide +kernel
theorem d_M_error_20 : decode b_M_error 20 = .ok (.istore_n 3, 1) := by decide +kernel
theorem d_M_error_21 : decode b_M_error 21 = .ok (.aload_n 0, 1) := by decide +kernel
theorem d_M_error_22 : decode b_M_error 22 = .ok (.aload_n 0, 1) := by decide +kernel
theorem d_M_error_23 : decode b_M_error 23 = .ok (.getfield 752, 3) := by decide +kernel
theorem d_M_error_26 : decode b_M_error 26 = .ok (.aload_n 0, 1) := by decide +kernel
theorem d_M_error_27 : decode b_M_error 27 = .ok (.getfield 755, 3) := by decide +kernel
theorem d_M_error_30 : decode b_M_error 30 = .ok (.aload_n 0, 1) := by decide +kernel
theorem d_M_error_31 : decode b_M_error 31 = .ok (.getfield 758, 3) := by decide +kernel
theorem d_M_error_34 : decode b_M_error 34 = .ok (.ifCond .eq 13, 3) := by decide +kernel
theorem d_M_error_37 : decode b_M_error 37 = .ok (.bipush 35, 2) := by decide +kernel
theorem d_M_error_39 : decode b_M_error 39 = .ok (.aload_n 0, 1) := by decide +kernel
theorem d_M_error_40 : decode b_M_error 40 = .ok (.getfield 755, 3) := by decide +kernel
theorem d_M_error_43 : decode b_M_error 43 = .ok (.isub, 1) := by decide +kernel
theorem d_M_error_44 : decode b_M_error 44 = .ok (.goto 4, 3) := by decide +kernel
theorem d_M_error_47 : decode b_M_error 47 = .ok (.iconst 0, 1) := by decide +kernel
theorem d_M_error_48 : decode b_M_error 48 = .ok (.invokevirtual 896, 3) := by decide +kernel
theorem d_M_error_51 : decode b_M_error 51 = .ok (.aload_n 0, 1) := by decide +kernel
theorem d_M_error_52 : decode b_M_error 52 = .ok (.bipush 48, 2) := by decide +kernel
theorem d_M_error_54 : decode b_M_error 54 = .ok (.iload_n 3, 1) := by decide +kernel
theorem d_M_error_55 : decode b_M_error 55 = .ok (.invokevirtual 559, 3) := by decide +kernel
theorem d_M_error_58 : decode b_M_error 58 = .ok (.aload_n 0, 1) := by decide +kernel
theorem d_M_error_59 : decode b_M_error 59 = .ok (.iconst 4, 1) := by decide +kernel
theorem d_M_error_60 : decode b_M_error 60 = .ok (.iload_n 3, 1) := by decide +kernel
theorem d_M_error_61 : decode b_M_error 61 = .ok (.invokevirtual 559, 3) := by decide +kernel
theorem d_M_error_64 : decode b_M_error 64 = .ok (.aload_n 0, 1) := by decide +kernel
theorem d_M_error_65 : decode b_M_error 65 = .ok (.iconst 2, 1) := by decide +kernel
theorem d_M_error_66 : decode b_M_error 66 = .ok (.iload_n 3, 1) := by decide +kernel
theorem d_M_error_67 : decode b_M_error 67 = .ok (.invokevirtual 567, 3) := by decide +kernel
theorem d_M_error_70 : decode b_M_error 70 = .ok (.aload_n 0, 1) := by decide +kernel
theorem d_M_error_71 : decode b_M_error 71 = .ok (.iconst 1, 1) := by decide +kernel
theorem d_M_error_72 : decode b_M_error 72 = .ok (.ldc2_w 899, 3) := by decide +kernel
theorem d_M_error_75 : decode b_M_error 75 = .ok (.invokevirtual 588, 3) := by decide +kernel
theorem d_M_error_78 : decode b_M_error 78 = .ok (.aload_n 0, 1) := by decide +kernel
theorem d_M_error_79 : decode b_M_error 79 = .ok (.bipush 48, 2) := by decide +kernel
theorem d_M_error_81 : decode b_M_error 81 = .ok (.iload_n 3, 1) := by decide +kernel
theorem d_M_error_82 : decode b_M_error 82 = .ok (.invokevirtual 559, 3) := by decide +kernel
theorem d_M_error_85 : decode b_M_error 85 = .ok (.aload_n 0, 1) := by decide +kernel
theorem d_M_error_86 : decode b_M_error 86 = .ok (.getfield 553, 3) := by decide +kernel
theorem d_M_error_89 : decode b_M_error 89 = .ok (.istore 4, 2) := by decide +kernel
theorem d_M_error_91 : decode b_M_error 91 = .ok (.aload_n 0, 1) := by decide +kernel
theorem d_M_error_92 : decode b_M_error 92 = .ok (.iconst 2, 1) := by decide +kernel
theorem d_M_error_93 : decode b_M_error 93 = .ok (.aload_n 0, 1) := by decide +kernel
theorem d_M_error_94 : decode b_M_error 94 = .ok (.getfield 131, 3) := by decide +kernel
theorem d_M_error_97 : decode b_M_error 97 = .ok (.iconst 0, 1) := by decide +kernel
theorem d_M_error_98 : decode b_M_error 98 = .ok (.iconst 0, 1) := by decide +kernel
theorem d_M_error_99 : decode b_M_error 99 = .ok (.invokevirtual 584, 3) := by decide +kernel
theorem d_M_error_102 : decode b_M_error 102 = .ok (.aload_n 0, 1) := by decide +kernel
theorem d_M_error_103 : decode b_M_error 103 = .ok (.iconst 1, 1) := by decide +kernel
theorem d_M_error_104 : decode b_M_error 104 = .ok (.ldc2_w 810, 3) := by decide +kernel
theorem d_M_error_107 : decode b_M_error 107 = .ok (.invokevirtual 588, 3) := by decide +kernel
theorem d_M_error_110 : decode b_M_error 110 = .ok (.aload_n 0, 1) := by decide +kernel
theorem d_M_error_111 : decode b_M_error 111 = .ok (.bipush 48, 2) := by decide +kernel
theorem d_M_error_113 : decode b_M_error 113 = .ok (.iload 4, 2) := by decide +kernel
theorem d_M_error_115 : decode b_M_error 115 = .ok (.invokevirtual 559, 3) := by decide +kernel
theorem d_M_error_118 : decode b_M_error 118 = .ok (.aload_n 0, 1) := by decide +kernel
theorem d_M_error_119 : decode b_M_error 119 = .ok (.bipush 48, 2) := by decide +kernel
theorem d_M_error_121 : decode b_M_error 121 = .ok (.iload_n 2, 1) := by decide +kernel
theorem d_M_error_122 : decode b_M_error 122 = .ok (.invokevirtual 559, 3) := by decide +kernel
theorem d_M_error_125 : decode b_M_error 125 = .ok (.aload_n 0, 1) := by decide +kernel
theorem d_M_error_126 : decode b_M_error 126 = .ok (.iconst 4, 1) := by decide +kernel
theorem d_M_error_127 : decode b_M_error 127 = .ok (.iload_n 2, 1) := by decide +kernel
theorem d_M_error_128 : decode b_M_error 128 = .ok (.invokevirtual 559, 3) := by decide +kernel
theorem d_M_error_131 : decode b_M_error 131 = .ok (.aload_n 0, 1) := by decide +kernel
theorem d_M_error_132 : decode b_M_error 132 = .ok (.bipush 12, 2) := by decide +kernel
theorem d_M_error_134 : decode b_M_error 134 = .ok (.iload_n 2, 1) := by decide +kernel
theorem d_M_error_135 : decode b_M_error 135 = .ok (.invokevirtual 567, 3) := by decide +kernel
theorem d_M_error_138 : decode b_M_error 138 = .ok (.aload_n 0, 1) := by decide +kernel
theorem d_M_error_139 : decode b_M_error 139 = .ok (.getfield 648, 3) := by decide +kernel
theorem d_M_error_142 : decode b_M_error 142 = .ok (.ifCond .eq 33, 3) := by decide +kernel
theorem d_M_error_145 : decode b_M_error 145 = .ok (.aload_n 0, 1) := by decide +kernel
theorem d_M_error_146 : decode b_M_error 146 = .ok (.iconst 1, 1) := by decide +kernel
theorem d_M_error_147 : decode b_M_error 147 = .ok (.iconst 3, 1) := by decide +kernel
theorem d_M_error_148 : decode b_M_error 148 = .ok (.invokevirtual 675, 3) := by decide +kernel
theorem d_M_error_151 : decode b_M_error 151 = .ok (.ifCond .eq 24, 3) := by decide +kernel
theorem d_M_error_154 : decode b_M_error 154 = .ok (.aload_n 0, 1) := by decide +kernel
theorem d_M_error_155 : decode b_M_error 155 = .ok (.bipush 10, 2) := by decide +kernel
theorem d_M_error_157 : decode b_M_error 157 = .ok (.aload_n 0, 1) := by decide +kernel
theorem d_M_error_158 : decode b_M_error 158 = .ok (.iconst 1, 1) := by decide +kernel
theorem d_M_error_159 : decode b_M_error 159 = .ok (.iconst 3, 1) := by decide +kernel
theorem d_M_error_160 : decode b_M_error 160 = .ok (.invokevirtual 536, 3) := by decide +kernel
theorem d_M_error_163 : decode b_M_error 163 = .ok (.aload_n 0, 1) := by decide +kernel
theorem d_M_error_164 : decode b_M_error 164 = .ok (.iconst 1, 1) := by decide +kernel
theorem d_M_error_165 : decode b_M_error 165 = .ok (.iconst 3, 1) := by decide +kernel
theorem d_M_error_166 : decode b_M_error 166 = .ok (.invokevirtual 539, 3) := by decide +kernel
theorem d_M_error_169 : decode b_M_error 169 = .ok (.invokevirtual 874, 3) := by decide +kernel
theorem d_M_error_172 : decode b_M_error 172 = .ok (.goto 11, 3) := by decide +kernel
theorem d_M_error_175 : decode b_M_error 175 = .ok (.aload_n 0, 1) := by decide +kernel
theorem d_M_error_176 : decode b_M_error 176 = .ok (.bipush 10, 2) := by decide +kernel
theorem d_M_error_178 : decode b_M_error 178 = .ok (.iconst 0, 1) := by decide +kernel
theorem d_M_error_179 : decode b_M_error 179 = .ok (.iconst 2, 1) := by decide +kernel
theorem d_M_error_180 : decode b_M_error 180 = .ok (.invokevirtual 908, 3) := by decide +kernel
theorem d_M_error_183 : decode b_M_error 183 = .ok (.aload_n 0, 1) := by decide +kernel
theorem d_M_error_184 : decode b_M_error 184 = .ok (.bipush 9, 2) := by decide +kernel
theorem d_M_error_186 : decode b_M_error 186 = .ok (.ldc_w 621, 3) := by decide +kernel
theorem d_M_error_189 : decode b_M_error 189 = .ok (.invokevirtual 878, 3) := by decide +kernel
theorem d_M_error_192 : decode b_M_error 192 = .ok (.aload_n 0, 1) := by decide +kernel
theorem d_M_error_193 : decode b_M_error 193 = .ok (.getfield 648, 3) := by decide +kernel
theorem d_M_error_196 : decode b_M_error 196 = .ok (.ifCond .eq 55, 3) := by decide +kernel
theorem d_M_error_199 : decode b_M_error 199 = .ok (.aload_n 0, 1) := by decide +kernel
theorem d_M_error_200 : decode b_M_error 200 = .ok (.getfield 660, 3) := by decide +kernel
theorem d_M_error_203 : decode b_M_error 203 = .ok (.ifCond .eq 48, 3) := by decide +kernel
theorem d_M_error_206 : decode b_M_error 206 = .ok (.aload_n 0, 1) := by decide +kernel
theorem d_M_error_207 : decode b_M_error 207 = .ok (.iconst 1, 1) := by decide +kernel
theorem d_M_error_208 : decode b_M_error 208 = .ok (.iconst 1, 1) := by decide +kernel
theorem d_M_error_209 : decode b_M_error 209 = .ok (.invokevirtual 675, 3) := by decide +kernel
theorem d_M_error_212 : decode b_M_error 212 = .ok (.ifCond .eq 39, 3) := by decide +kernel
theorem d_M_error_215 : decode b_M_error 215 = .ok (.aload_n 0, 1) := by decide +kernel
theorem d_M_error_216 : decode b_M_error 216 = .ok (.bipush 8, 2) := by decide +kernel
theorem d_M_error_218 : decode b_M_error 218 = .ok (.aload_n 0, 1) := by decide +kernel
theorem d_M_error_219 : decode b_M_error 219 = .ok (.iconst 1, 1) := by decide +kernel
theorem d_M_error_220 : decode b_M_error 220 = .ok (.iconst 1, 1) := by decide +kernel
theorem d_M_error_221 : decode b_M_error 221 = .ok (.invokevirtual 536, 3) := by decide +kernel
theorem d_M_error_224 : decode b_M_error 224 = .ok (.aload_n 0, 1) := by decide +kernel
theorem d_M_error_225 : decode b_M_error 225 = .ok (.iconst 1, 1) := by decide +kernel
theorem d_M_error_226 : decode b_M_error 226 = .ok (.iconst 1, 1) := by decide +kernel
theorem d_M_error_227 : decode b_M_error 227 = .ok (.invokevirtual 539, 3) := by decide +kernel
theorem d_M_error_230 : decode b_M_error 230 = .ok (.invokevirtual 874, 3) := by decide +kernel
theorem d_M_error_233 : decode b_M_error 233 = .ok (.aload_n 0, 1) := by decide +kernel
theorem d_M_error_234 : decode b_M_error 234 = .ok (.bipush 7, 2) := by decide +kernel
theorem d_M_error_236 : decode b_M_error 236 = .ok (.aload_n 0, 1) := by decide +kernel
theorem d_M_error_237 : decode b_M_error 237 = .ok (.iconst 1, 1) := by decide +kernel
theorem d_M_error_238 : decode b_M_error 238 = .ok (.iconst 2, 1) := by decide +kernel
theorem d_M_error_239 : decode b_M_error 239 = .ok (.invokevirtual 536, 3) := by decide +kernel
theorem d_M_error_242 : decode b_M_error 242 = .ok (.aload_n 0, 1) := by decide +kernel
theorem d_M_error_243 : decode b_M_error 243 = .ok (.iconst 1, 1) := by decide +kernel
theorem d_M_error_244 : decode b_M_error 244 = .ok (.iconst 2, 1) := by decide +kernel
theorem d_M_error_245 : decode b_M_error 245 = .ok (.invokevirtual 539, 3) := by decide +kernel
theorem d_M_error_248 : decode b_M_error 248 = .ok (.invokevirtual 874, 3) := by decide +kernel
theorem d_M_error_251 : decode b_M_error 251 = .ok (.aload_n 0, 1) := by decide +kernel
theorem d_M_error_252 : decode b_M_error 252 = .ok (.iload_n 1, 1) := by decide +kernel
theorem d_M_error_253 : decode b_M_error 253 = .ok (.invokevirtual 911, 3) := by decide +kernel
theorem d_M_error_256 : decode b_M_error 256 = .ok (.aload_n 0, 1) := by decide +kernel
theorem d_M_error_257 : decode b_M_error 257 = .ok (.invokevirtual 905, 3) := by decide +kernel
theorem d_M_error_260 : decode b_M_error 260 = .ok (.return_, 1) := by decide +kernel
abbrev b_M_errorHead : ByteArray := prog_14_method_123_code
def y_M_errorHead : MethodName := ⟨R_M, "errorHead", "(I)V"⟩
abbrev k_M_errorHead : Cond := .code y_M_errorHead b_M_errorHead 2 none
theorem ki_M_errorHead : k_M_errorHead ∈ lw_tg := in_t 2717 (by decide +kernel)
theorem ks_M_errorHead : Cond.instanceMethod y_M_errorHead ∈ lw_tg := in_t 2716 (by decide +kernel)
theorem kx_M_errorHead : Cond.selects R_M y_M_errorHead y_M_errorHead ∈ lw_tg := List.mem_filter.mpr ⟨List.mem_append_left _ (List.mem_of_getElem? (i := 170) (by decide +kernel)), rfl⟩
theorem kl_M_errorHead : Cond.methodLink R_M 911 y_M_errorHead ∈ lw_tg := in_t 2714 (by decide +kernel)
theorem hd_M_errorHead : y_M_errorHead.cls = R_M ∧ y_M_errorHead.cls ≠ "java/lang/invoke/MethodHandle" ∧ y_M_errorHead.cls ≠ "java/lang/invoke/VarHandle" ∧ (parseMethodDescriptor y_M_errorHead.desc).map (fun d => d.parameters.length) = some 1 := by decide +kernel
theorem d_M_errorHead_0 : decode b_M_errorHead 0 = .ok (.aload_n 0, 1) := by decide +kernel
theorem d_M_errorHead_1 : decode b_M_errorHead 1 = .ok (.bipush 6, 2) := by decide +kernel
theorem d_M_errorHead_3 : decode b_M_errorHead 3 = .ok (.iload_n 1, 1) := by decide +kernel
theorem d_M_errorHead_4 : decode b_M_errorHead 4 = .ok (.i2l, 1) := by decide +kernel
theorem d_M_errorHead_5 : decode b_M_errorHead 5 = .ok (.invokevirtual 588, 3) := by decide +kernel
theorem d_M_errorHead_8 : decode b_M_errorHead 8 = .ok (.aload_n 0, 1) := by decide +kernel
theorem d_M_errorHead_9 : decode b_M_errorHead 9 = .ok (.iconst 5, 1) := by decide +kernel
theorem d_M_errorHead_10 : decode b_M_errorHead 10 = .ok (.lconst 0, 1) := by decide +kernel
theorem d_M_errorHead_11 : decode b_M_errorHead 11 = .ok (.invokevirtual 588, 3) := by decide +kernel
theorem d_M_errorHead_14 : decode b_M_errorHead 14 = .ok (.aload_n 0, 1) := by decide +kernel
theorem d_M_errorHead_15 : decode b_M_errorHead 15 = .ok (.iconst 4, 1) := by decide +kernel
theorem d_M_errorHead_16 : decode b_M_errorHead 16 = .ok (.aload_n 0, 1) := by decide +kernel
theorem d_M_errorHead_17 : decode b_M_errorHead 17 = .ok (.getfield 18, 3) := by decide +kernel
theorem d_M_errorHead_20 : decode b_M_errorHead 20 = .ok (.i2l, 1) := by decide +kernel
theorem d_M_errorHead_21 : decode b_M_errorHead 21 = .ok (.invokevirtual 884, 3) := by decide +kernel
theorem d_M_errorHead_24 : decode b_M_errorHead 24 = .ok (.aload_n 0, 1) := by decide +kernel
theorem d_M_errorHead_25 : decode b_M_errorHead 25 = .ok (.iconst 1, 1) := by decide +kernel
theorem d_M_errorHead_26 : decode b_M_errorHead 26 = .ok (.ldc2_w 914, 3) := by decide +kernel
theorem d_M_errorHead_29 : decode b_M_errorHead 29 = .ok (.invokevirtual 588, 3) := by decide +kernel
theorem d_M_errorHead_32 : decode b_M_errorHead 32 = .ok (.aload_n 0, 1) := by decide +kernel
theorem d_M_errorHead_33 : decode b_M_errorHead 33 = .ok (.iconst 0, 1) := by decide +kernel
theorem d_M_errorHead_34 : decode b_M_errorHead 34 = .ok (.ldc2_w 669, 3) := by decide +kernel
theorem d_M_errorHead_37 : decode b_M_errorHead 37 = .ok (.invokevirtual 588, 3) := by decide +kernel
theorem d_M_errorHead_40 : decode b_M_errorHead 40 = .ok (.aload_n 0, 1) := by decide +kernel
theorem d_M_errorHead_41 : decode b_M_errorHead 41 = .ok (.bipush 48, 2) := by decide +kernel
theorem d_M_errorHead_43 : decode b_M_errorHead 43 = .ok (.ldc 9, 2) := by decide +kernel
theorem d_M_errorHead_45 : decode b_M_errorHead 45 = .ok (.invokevirtual 559, 3) := by decide +kernel
theorem d_M_errorHead_48 : decode b_M_errorHead 48 = .ok (.aload_n 0, 1) := by decide +kernel
theorem d_M_errorHead_49 : decode b_M_errorHead 49 = .ok (.bipush 126, 2) := by decide +kernel
theorem d_M_errorHead_51 : decode b_M_errorHead 51 = .ok (.ldc 9, 2) := by decide +kernel
theorem d_M_errorHead_53 : decode b_M_errorHead 53 = .ok (.invokevirtual 559, 3) := by decide +kernel
theorem d_M_errorHead_56 : decode b_M_errorHead 56 = .ok (.return_, 1) := by decide +kernel
abbrev b_M_hasAgent : ByteArray := prog_14_method_124_code
def y_M_hasAgent : MethodName := ⟨R_M, "hasAgent", "(I)Z"⟩
abbrev k_M_hasAgent : Cond := .code y_M_hasAgent b_M_hasAgent 2 (some .boolean)
theorem ki_M_hasAgent : k_M_hasAgent ∈ lw_tg := in_t 2730 (by decide +kernel)
theorem ks_M_hasAgent : Cond.instanceMethod y_M_hasAgent ∈ lw_tg := in_t 2729 (by decide +kernel)
theorem kx_M_hasAgent : Cond.selects R_M y_M_hasAgent y_M_hasAgent ∈ lw_tg := List.mem_filter.mpr ⟨List.mem_append_left _ (List.mem_of_getElem? (i := 171) (by decide +kernel)), rfl⟩
theorem kl_M_hasAgent : Cond.methodLink R_M 916 y_M_hasAgent ∈ lw_tg := in_t 2727 (by decide +kernel)
theorem hd_M_hasAgent : y_M_hasAgent.cls = R_M ∧ y_M_hasAgent.cls ≠ "java/lang/invoke/MethodHandle" ∧ y_M_hasAgent.cls ≠ "java/lang/invoke/VarHandle" ∧ (parseMethodDescriptor y_M_hasAgent.desc).map (fun d => d.parameters.length) = some 1 := by decide +kernel
theorem d_M_hasAgent_0 : decode b_M_hasAgent 0 = .ok (.iload_n 1, 1) := by decide +kernel
theorem d_M_hasAgent_1 : decode b_M_hasAgent 1 = .ok (.ifCond .lt 21, 3) := by decide +kernel
theorem d_M_hasAgent_4 : decode b_M_hasAgent 4 = .ok (.iload_n 1, 1) := by decide +kernel
theorem d_M_hasAgent_5 : decode b_M_hasAgent 5 = .ok (.iconst 4, 1) := by decide +kernel
theorem d_M_hasAgent_6 : decode b_M_hasAgent 6 = .ok (.if_icmp .ge 16, 3) := by decide +kernel
theorem d_M_hasAgent_9 : decode b_M_hasAgent 9 = .ok (.aload_n 0, 1) := by decide +kernel
theorem d_M_hasAgent_10 : decode b_M_hasAgent 10 = .ok (.getfield 165, 3) := by decide +kernel
theorem d_M_hasAgent_13 : decode b_M_hasAgent 13 = .ok (.iload_n 1, 1) := by decide +kernel
theorem d_M_hasAgent_14 : decode b_M_hasAgent 14 = .ok (.baload, 1) := by decide +kernel
theorem d_M_hasAgent_15 : decode b_M_hasAgent 15 = .ok (.ifCond .eq 7, 3) := by decide +kernel
theorem d_M_hasAgent_18 : decode b_M_hasAgent 18 = .ok (.iconst 1, 1) := by decide +kernel
theorem d_M_hasAgent_19 : decode b_M_hasAgent 19 = .ok (.goto 4, 3) := by decide +kernel
theorem d_M_hasAgent_22 : decode b_M_hasAgent 22 = .ok (.iconst 0, 1) := by decide +kernel
theorem d_M_hasAgent_23 : decode b_M_hasAgent 23 = .ok (.ireturn, 1) := by decide +kernel
abbrev b_M_hasTicket : ByteArray := prog_14_method_125_code
def y_M_hasTicket : MethodName := ⟨R_M, "hasTicket", "(II)Z"⟩
abbrev k_M_hasTicket : Cond := .code y_M_hasTicket b_M_hasTicket 3 (some .boolean)
theorem ki_M_hasTicket : k_M_hasTicket ∈ lw_tg := in_t 2740 (by decide +kernel)
theorem ks_M_hasTicket : Cond.instanceMethod y_M_hasTicket ∈ lw_tg := in_t 2739 (by decide +kernel)
theorem kx_M_hasTicket : Cond.selects R_M y_M_hasTicket y_M_hasTicket ∈ lw_tg := List.mem_filter.mpr ⟨List.mem_append_left _ (List.mem_of_getElem? (i := 172) (by decide +kernel)), rfl⟩
theorem kl_M_hasTicket : Cond.methodLink R_M 923 y_M_hasTicket ∈ lw_tg := in_t 2737 (by decide +kernel)
theorem hd_M_hasTicket : y_M_hasTicket.cls = R_M ∧ y_M_hasTicket.cls ≠ "java/lang/invoke/MethodHandle" ∧ y_M_hasTicket.cls ≠ "java/lang/invoke/VarHandle" ∧ (parseMethodDescriptor y_M_hasTicket.desc).map (fun d => d.parameters.length) = some 2 := by decide +kernel
theorem d_M_hasTicket_0 : decode b_M_hasTicket 0 = .ok (.aload_n 0, 1) := by decide +kernel
theorem d_M_hasTicket_1 : decode b_M_hasTicket 1 = .ok (.iload_n 1, 1) := by decide +kernel
theorem d_M_hasTicket_2 : decode b_M_hasTicket 2 = .ok (.invokevirtual 916, 3) := by decide +kernel
theorem d_M_hasTicket_5 : decode b_M_hasTicket 5 = .ok (.ifCond .eq 31, 3) := by decide +kernel
theorem d_M_hasTicket_8 : decode b_M_hasTicket 8 = .ok (.iload_n 2, 1) := by decide +kernel
theorem d_M_hasTicket_9 : decode b_M_hasTicket 9 = .ok (.ifCond .lt 27, 3) := by decide +kernel
theorem d_M_hasTicket_12 : decode b_M_hasTicket 12 = .ok (.iload_n 2, 1) := by decide +kernel
theorem d_M_hasTicket_13 : decode b_M_hasTicket 13 = .ok (.bipush 8, 2) := by decide +kernel
theorem d_M_hasTicket_15 : decode b_M_hasTicket 15 = .ok (.if_icmp .ge 21, 3) := by decide +kernel
theorem d_M_hasTicket_18 : decode b_M_hasTicket 18 = .ok (.aload_n 0, 1) := by decide +kernel
theorem d_M_hasTicket_19 : decode b_M_hasTicket 19 = .ok (.getfield 184, 3) := by decide +kernel
theorem d_M_hasTicket_22 : decode b_M_hasTicket 22 = .ok (.bipush 8, 2) := by decide +kernel
theorem d_M_hasTicket_24 : decode b_M_hasTicket 24 = .ok (.iload_n 1, 1) := by decide +kernel
theorem d_M_hasTicket_25 : decode b_M_hasTicket 25 = .ok (.imul, 1) := by decide +kernel
theorem d_M_hasTicket_26 : decode b_M_hasTicket 26 = .ok (.iload_n 2, 1) := by decide +kernel
theorem d_M_hasTicket_27 : decode b_M_hasTicket 27 = .ok (.iadd, 1) := by decide +kernel
theorem d_M_hasTicket_28 : decode b_M_hasTicket 28 = .ok (.baload, 1) := by decide +kernel
theorem d_M_hasTicket_29 : decode b_M_hasTicket 29 = .ok (.ifCond .eq 7, 3) := by decide +kernel
theorem d_M_hasTicket_32 : decode b_M_hasTicket 32 = .ok (.iconst 1, 1) := by decide +kernel
theorem d_M_hasTicket_33 : decode b_M_hasTicket 33 = .ok (.goto 4, 3) := by decide +kernel
theorem d_M_hasTicket_36 : decode b_M_hasTicket 36 = .ok (.iconst 0, 1) := by decide +kernel
theorem d_M_hasTicket_37 : decode b_M_hasTicket 37 = .ok (.ireturn, 1) := by decide +kernel
abbrev b_M_clockOf : ByteArray := prog_14_method_126_code
def y_M_clockOf : MethodName := ⟨R_M, "clockOf", "(I)J"⟩
abbrev k_M_clockOf : Cond := .code y_M_clockOf b_M_clockOf 4 (some .long)
theorem ki_M_clockOf : k_M_clockOf ∈ lw_tg := in_t 2753 (by decide +kernel)
theorem ks_M_clockOf : Cond.instanceMethod y_M_clockOf ∈ lw_tg := in_t 2752 (by decide +kernel)
theorem kx_M_clockOf : Cond.selects R_M y_M_clockOf y_M_clockOf ∈ lw_tg := List.mem_filter.mpr ⟨List.mem_append_left _ (List.mem_of_getElem? (i := 173) (by decide +kernel)), rfl⟩
theorem kl_M_clockOf : Cond.methodLink R_M 927 y_M_clockOf ∈ lw_tg := in_t 2750 (by decide +kernel)
theorem hd_M_clockOf : y_M_clockOf.cls = R_M ∧ y_M_clockOf.cls ≠ "java/lang/invoke/MethodHandle" ∧ y_M_clockOf.cls ≠ "java/lang/invoke/VarHandle" ∧ (parseMethodDescriptor y_M_clockOf.desc).map (fun d => d.parameters.length) = some 1 := by decide +kernel
theorem d_M_clockOf_0 : decode b_M_clockOf 0 = .ok (.aload_n 0, 1) := by decide +kernel
theorem d_M_clockOf_1 : decode b_M_clockOf 1 = .ok (.getfield 18, 3) := by decide +kernel
theorem d_M_clockOf_4 : decode b_M_clockOf 4 = .ok (.i2l, 1) := by decide +kernel
theorem d_M_clockOf_5 : decode b_M_clockOf 5 = .ok (.aload_n 0, 1) := by decide +kernel
theorem d_M_clockOf_6 : decode b_M_clockOf 6 = .ok (.getfield 175, 3) := by decide +kernel
theorem d_M_clockOf_9 : decode b_M_clockOf 9 = .ok (.iload_n 1, 1) := by decide +kernel
theorem d_M_clockOf_10 : decode b_M_clockOf 10 = .ok (.iaload, 1) := by decide +kernel
theorem d_M_clockOf_11 : decode b_M_clockOf 11 = .ok (.i2l, 1) := by decide +kernel
theorem d_M_clockOf_12 : decode b_M_clockOf 12 = .ok (.ladd, 1) := by decide +kernel
theorem d_M_clockOf_13 : decode b_M_clockOf 13 = .ok (.lstore_n 2, 1) := by decide +kernel
theorem d_M_clockOf_14 : decode b_M_clockOf 14 = .ok (.lload_n 2, 1) := by decide +kernel
theorem d_M_clockOf_15 : decode b_M_clockOf 15 = .ok (.lconst 0, 1) := by decide +kernel
theorem d_M_clockOf_16 : decode b_M_clockOf 16 = .ok (.lcmp, 1) := by decide +kernel
theorem d_M_clockOf_17 : decode b_M_clockOf 17 = .ok (.ifCond .ge 7, 3) := by decide +kernel
theorem d_M_clockOf_20 : decode b_M_clockOf 20 = .ok (.lconst 0, 1) := by decide +kernel
theorem d_M_clockOf_21 : decode b_M_clockOf 21 = .ok (.goto 18, 3) := by decide +kernel
theorem d_M_clockOf_24 : decode b_M_clockOf 24 = .ok (.lload_n 2, 1) := by decide +kernel
theorem d_M_clockOf_25 : decode b_M_clockOf 25 = .ok (.ldc2_w 919, 3) := by decide +kernel
theorem d_M_clockOf_28 : decode b_M_clockOf 28 = .ok (.lcmp, 1) := by decide +kernel
theorem d_M_clockOf_29 : decode b_M_clockOf 29 = .ok (.ifCond .le 9, 3) := by decide +kernel
theorem d_M_clockOf_32 : decode b_M_clockOf 32 = .ok (.ldc2_w 919, 3) := by decide +kernel
theorem d_M_clockOf_35 : decode b_M_clockOf 35 = .ok (.goto 4, 3) := by decide +kernel
theorem d_M_clockOf_38 : decode b_M_clockOf 38 = .ok (.lload_n 2, 1) := by decide +kernel
theorem d_M_clockOf_39 : decode b_M_clockOf 39 = .ok (.lreturn, 1) := by decide +kernel
abbrev b_M_agent : ByteArray := prog_14_method_127_code
def y_M_agent : MethodName := ⟨R_M, "agent", "(II)Z"⟩
abbrev k_M_agent : Cond := .code y_M_agent b_M_agent 6 (some .boolean)
theorem ki_M_agent : k_M_agent ∈ lw_tg := in_t 2722 (by decide +kernel)
theorem ks_M_agent : Cond.instanceMethod y_M_agent ∈ lw_tg := in_t 2720 (by decide +kernel)
theorem kx_M_agent : Cond.selects R_M y_M_agent y_M_agent ∈ lw_tg := in_t 2721 (by decide +kernel)
theorem hd_M_agent : y_M_agent.cls = R_M ∧ y_M_agent.cls ≠ "java/lang/invoke/MethodHandle" ∧ y_M_agent.cls ≠ "java/lang/invoke/VarHandle" ∧ (parseMethodDescriptor y_M_agent.desc).map (fun d => d.parameters.length) = some 2 := by decide +kernel
theorem d_M_agent_0 : decode b_M_agent 0 = .ok (.aload_n 0, 1) := by decide +kernel
theorem d_M_agent_1 : decode b_M_agent 1 = .ok (.iconst 0, 1) := by decide +kernel
theorem d_M_agent_2 : decode b_M_agent 2 = .ok (.invokevirtual 633, 3) := by decide +kernel
theorem d_M_agent_5 : decode b_M_agent 5 = .ok (.ifCond .eq 28, 3) := by decide +kernel
theorem d_M_agent_8 : decode b_M_agent 8 = .ok (.iload_n 1, 1) := by decide +kernel
theorem d_M_agent_9 : decode b_M_agent 9 = .ok (.ifCond .lt 24, 3) := by decide +kernel
theorem d_M_agent_12 : decode b_M_agent 12 = .ok (.iload_n 1, 1) := by decide +kernel
theorem d_M_agent_13 : decode b_M_agent 13 = .ok (.iconst 4, 1) := by decide +kernel
theorem d_M_agent_14 : decode b_M_agent 14 = .ok (.if_icmp .ge 19, 3) := by decide +kernel
theorem d_M_agent_17 : decode b_M_agent 17 = .ok (.iload_n 2, 1) := by decide +kernel
theorem d_M_agent_18 : decode b_M_agent 18 = .ok (.iconst 1, 1) := by decide +kernel
theorem d_M_agent_19 : decode b_M_agent 19 = .ok (.if_icmp .lt 14, 3) := by decide +kernel
theorem d_M_agent_22 : decode b_M_agent 22 = .ok (.iload_n 2, 1) := by decide +kernel
theorem d_M_agent_23 : decode b_M_agent 23 = .ok (.sipush 200, 3) := by decide +kernel
theorem d_M_agent_26 : decode b_M_agent 26 = .ok (.if_icmp .gt 7, 3) := by decide +kernel
theorem d_M_agent_29 : decode b_M_agent 29 = .ok (.iconst 1, 1) := by decide +kernel
theorem d_M_agent_30 : decode b_M_agent 30 = .ok (.goto 4, 3) := by decide +kernel
theorem d_M_agent_33 : decode b_M_agent 33 = .ok (.iconst 0, 1) := by decide +kernel
theorem d_M_agent_34 : decode b_M_agent 34 = .ok (.istore_n 3, 1) := by decide +kernel
theorem d_M_agent_35 : decode b_M_agent 35 = .ok (.aload_n 0, 1) := by decide +kernel
theorem d_M_agent_36 : decode b_M_agent 36 = .ok (.iconst 0, 1) := by decide +kernel
theorem d_M_agent_37 : decode b_M_agent 37 = .ok (.putfield 332, 3) := by decide +kernel
theorem d_M_agent_40 : decode b_M_agent 40 = .ok (.iload_n 3, 1) := by decide +kernel
theorem d_M_agent_41 : decode b_M_agent 41 = .ok (.ifCond .ne 5, 3) := by decide +kernel
theorem d_M_agent_44 : decode b_M_agent 44 = .ok (.iconst 0, 1) := by decide +kernel
theorem d_M_agent_45 : decode b_M_agent 45 = .ok (.ireturn, 1) := by decide +kernel
theorem d_M_agent_46 : decode b_M_agent 46 = .ok (.aload_n 0, 1) := by decide +kernel
theorem d_M_agent_47 : decode b_M_agent 47 = .ok (.getfield 165, 3) := by decide +kernel
theorem d_M_agent_50 : decode b_M_agent 50 = .ok (.iload_n 1, 1) := by decide +kernel
theorem d_M_agent_51 : decode b_M_agent 51 = .ok (.iconst 1, 1) := by decide +kernel
theorem d_M_agent_52 : decode b_M_agent 52 = .ok (.bastore, 1) := by decide +kernel
theorem d_M_agent_53 : decode b_M_agent 53 = .ok (.aload_n 0, 1) := by decide +kernel
theorem d_M_agent_54 : decode b_M_agent 54 = .ok (.getfield 172, 3) := by decide +kernel
theorem d_M_agent_57 : decode b_M_agent 57 = .ok (.iload_n 1, 1) := by decide +kernel
theorem d_M_agent_58 : decode b_M_agent 58 = .ok (.aload_n 0, 1) := by decide +kernel
theorem d_M_agent_59 : decode b_M_agent 59 = .ok (.getfield 608, 3) := by decide +kernel
theorem d_M_agent_62 : decode b_M_agent 62 = .ok (.iastore, 1) := by decide +kernel
theorem d_M_agent_63 : decode b_M_agent 63 = .ok (.iconst 0, 1) := by decide +kernel
theorem d_M_agent_64 : decode b_M_agent 64 = .ok (.istore 4, 2) := by decide +kernel
theorem d_M_agent_66 : decode b_M_agent 66 = .ok (.iload 4, 2) := by decide +kernel
theorem d_M_agent_68 : decode b_M_agent 68 = .ok (.aload_n 0, 1) := by decide +kernel
theorem d_M_agent_69 : decode b_M_agent 69 = .ok (.getfield 608, 3) := by decide +kernel
theorem d_M_agent_72 : decode b_M_agent 72 = .ok (.if_icmp .ge 28, 3) := by decide +kernel
theorem d_M_agent_75 : decode b_M_agent 75 = .ok (.aload_n 0, 1) := by decide +kernel
theorem d_M_agent_76 : decode b_M_agent 76 = .ok (.getfield 169, 3) := by decide +kernel
theorem d_M_agent_79 : decode b_M_agent 79 = .ok (.bipush 40, 2) := by decide +kernel
theorem d_M_agent_81 : decode b_M_agent 81 = .ok (.iload_n 1, 1) := by decide +kernel
theorem d_M_agent_82 : decode b_M_agent 82 = .ok (.imul, 1) := by decide +kernel
theorem d_M_agent_83 : decode b_M_agent 83 = .ok (.iload 4, 2) := by decide +kernel
theorem d_M_agent_85 : decode b_M_agent 85 = .ok (.iadd, 1) := by decide +kernel
theorem d_M_agent_86 : decode b_M_agent 86 = .ok (.aload_n 0, 1) := by decide +kernel
theorem d_M_agent_87 : decode b_M_agent 87 = .ok (.getfield 128, 3) := by decide +kernel
theorem d_M_agent_90 : decode b_M_agent 90 = .ok (.iload 4, 2) := by decide +kernel
theorem d_M_agent_92 : decode b_M_agent 92 = .ok (.baload, 1) := by decide +kernel
theorem d_M_agent_93 : decode b_M_agent 93 = .ok (.bastore, 1) := by decide +kernel
theorem d_M_agent_94 : decode b_M_agent 94 = .ok (.iinc 4 1, 3) := by decide +kernel
theorem d_M_agent_97 : decode b_M_agent 97 = .ok (.goto (-31), 3) := by decide +kernel
theorem d_M_agent_100 : decode b_M_agent 100 = .ok (.aload_n 0, 1) := by decide +kernel
theorem d_M_agent_101 : decode b_M_agent 101 = .ok (.aload_n 0, 1) := by decide +kernel
theorem d_M_agent_102 : decode b_M_agent 102 = .ok (.getfield 128, 3) := by decide +kernel
theorem d_M_agent_105 : decode b_M_agent 105 = .ok (.iconst 0, 1) := by decide +kernel
theorem d_M_agent_106 : decode b_M_agent 106 = .ok (.aload_n 0, 1) := by decide +kernel
theorem d_M_agent_107 : decode b_M_agent 107 = .ok (.getfield 608, 3) := by decide +kernel
theorem d_M_agent_110 : decode b_M_agent 110 = .ok (.invokevirtual 623, 3) := by decide +kernel
theorem d_M_agent_113 : decode b_M_agent 113 = .ok (.iconst 0, 1) := by decide +kernel
theorem d_M_agent_114 : decode b_M_agent 114 = .ok (.istore 4, 2) := by decide +kernel
theorem d_M_agent_116 : decode b_M_agent 116 = .ok (.iload 4, 2) := by decide +kernel
theorem d_M_agent_118 : decode b_M_agent 118 = .ok (.iconst 2, 1) := by decide +kernel
theorem d_M_agent_119 : decode b_M_agent 119 = .ok (.if_icmp .ge 71, 3) := by decide +kernel
theorem d_M_agent_122 : decode b_M_agent 122 = .ok (.aload_n 0, 1) := by decide +kernel
theorem d_M_agent_123 : decode b_M_agent 123 = .ok (.iload 4, 2) := by decide +kernel
theorem d_M_agent_125 : decode b_M_agent 125 = .ok (.ifCond .ne 8, 3) := by decide +kernel
theorem d_M_agent_128 : decode b_M_agent 128 = .ok (.bipush 16, 2) := by decide +kernel
theorem d_M_agent_130 : decode b_M_agent 130 = .ok (.goto 5, 3) := by decide +kernel
theorem d_M_agent_133 : decode b_M_agent 133 = .ok (.bipush 32, 2) := by decide +kernel
theorem d_M_agent_135 : decode b_M_agent 135 = .ok (.iload_n 2, 1) := by decide +kernel
theorem d_M_agent_136 : decode b_M_agent 136 = .ok (.aload_n 0, 1) := by decide +kernel
theorem d_M_agent_137 : decode b_M_agent 137 = .ok (.getfield 131, 3) := by decide +kernel
theorem d_M_agent_140 : decode b_M_agent 140 = .ok (.invokevirtual 626, 3) := by decide +kernel
theorem d_M_agent_143 : decode b_M_agent 143 = .ok (.iconst 0, 1) := by decide +kernel
theorem d_M_agent_144 : decode b_M_agent 144 = .ok (.istore 5, 2) := by decide +kernel
theorem d_M_agent_146 : decode b_M_agent 146 = .ok (.iload 5, 2) := by decide +kernel
theorem d_M_agent_148 : decode b_M_agent 148 = .ok (.bipush 32, 2) := by decide +kernel
theorem d_M_agent_150 : decode b_M_agent 150 = .ok (.if_icmp .ge 34, 3) := by decide +kernel
theorem d_M_agent_153 : decode b_M_agent 153 = .ok (.aload_n 0, 1) := by decide +kernel
theorem d_M_agent_154 : decode b_M_agent 154 = .ok (.getfield 181, 3) := by decide +kernel
theorem d_M_agent_157 : decode b_M_agent 157 = .ok (.bipush 64, 2) := by decide +kernel
theorem d_M_agent_159 : decode b_M_agent 159 = .ok (.iload_n 1, 1) := by decide +kernel
theorem d_M_agent_160 : decode b_M_agent 160 = .ok (.imul, 1) := by decide +kernel
theorem d_M_agent_161 : decode b_M_agent 161 = .ok (.bipush 32, 2) := by decide +kernel
theorem d_M_agent_163 : decode b_M_agent 163 = .ok (.iload 4, 2) := by decide +kernel
theorem d_M_agent_165 : decode b_M_agent 165 = .ok (.imul, 1) := by decide +kernel
theorem d_M_agent_166 : decode b_M_agent 166 = .ok (.iadd, 1) := by decide +kernel
theorem d_M_agent_167 : decode b_M_agent 167 = .ok (.iload 5, 2) := by decide +kernel
theorem d_M_agent_169 : decode b_M_agent 169 = .ok (.iadd, 1) := by decide +kernel
theorem d_M_agent_170 : decode b_M_agent 170 = .ok (.aload_n 0, 1) := by decide +kernel
theorem d_M_agent_171 : decode b_M_agent 171 = .ok (.getfield 131, 3) := by decide +kernel
theorem d_M_agent_174 : decode b_M_agent 174 = .ok (.iload 5, 2) := by decide +kernel
theorem d_M_agent_176 : decode b_M_agent 176 = .ok (.baload, 1) := by decide +kernel
theorem d_M_agent_177 : decode b_M_agent 177 = .ok (.bastore, 1) := by decide +kernel
theorem d_M_agent_178 : decode b_M_agent 178 = .ok (.iinc 5 1, 3) := by decide +kernel
theorem d_M_agent_181 : decode b_M_agent 181 = .ok (.goto (-35), 3) := by decide +kernel
theorem d_M_agent_184 : decode b_M_agent 184 = .ok (.iinc 4 1, 3) := by decide +kernel
theorem d_M_agent_187 : decode b_M_agent 187 = .ok (.goto (-71), 3) := by decide +kernel
theorem d_M_agent_190 : decode b_M_agent 190 = .ok (.aload_n 0, 1) := by decide +kernel
theorem d_M_agent_191 : decode b_M_agent 191 = .ok (.getfield 175, 3) := by decide +kernel
theorem d_M_agent_194 : decode b_M_agent 194 = .ok (.iload_n 1, 1) := by decide +kernel
theorem d_M_agent_195 : decode b_M_agent 195 = .ok (.iconst 0, 1) := by decide +kernel
theorem d_M_agent_196 : decode b_M_agent 196 = .ok (.iastore, 1) := by decide +kernel
theorem d_M_agent_197 : decode b_M_agent 197 = .ok (.aload_n 0, 1) := by decide +kernel
theorem d_M_agent_198 : decode b_M_agent 198 = .ok (.getfield 178, 3) := by decide +kernel
theorem d_M_agent_201 : decode b_M_agent 201 = .ok (.iload_n 1, 1) := by decide +kernel
theorem d_M_agent_202 : decode b_M_agent 202 = .ok (.iconst 0, 1) := by decide +kernel
theorem d_M_agent_203 : decode b_M_agent 203 = .ok (.iastore, 1) := by decide +kernel
theorem d_M_agent_204 : decode b_M_agent 204 = .ok (.aload_n 0, 1) := by decide +kernel
theorem d_M_agent_205 : decode b_M_agent 205 = .ok (.getfield 224, 3) := by decide +kernel
theorem d_M_agent_208 : decode b_M_agent 208 = .ok (.iload_n 1, 1) := by decide +kernel
theorem d_M_agent_209 : decode b_M_agent 209 = .ok (.iconst (-1), 1) := by decide +kernel
theorem d_M_agent_210 : decode b_M_agent 210 = .ok (.iastore, 1) := by decide +kernel
theorem d_M_agent_211 : decode b_M_agent 211 = .ok (.aload_n 0, 1) := by decide +kernel
theorem d_M_agent_212 : decode b_M_agent 212 = .ok (.getfield 257, 3) := by decide +kernel
theorem d_M_agent_215 : decode b_M_agent 215 = .ok (.iload_n 1, 1) := by decide +kernel
theorem d_M_agent_216 : decode b_M_agent 216 = .ok (.iconst 0, 1) := by decide +kernel
theorem d_M_agent_217 : decode b_M_agent 217 = .ok (.bastore, 1) := by decide +kernel
theorem d_M_agent_218 : decode b_M_agent 218 = .ok (.aload_n 0, 1) := by decide +kernel
theorem d_M_agent_219 : decode b_M_agent 219 = .ok (.getfield 269, 3) := by decide +kernel
theorem d_M_agent_222 : decode b_M_agent 222 = .ok (.iload_n 1, 1) := by decide +kernel
theorem d_M_agent_223 : decode b_M_agent 223 = .ok (.iconst (-1), 1) := by decide +kernel
theorem d_M_agent_224 : decode b_M_agent 224 = .ok (.iastore, 1) := by decide +kernel
theorem d_M_agent_225 : decode b_M_agent 225 = .ok (.iconst 0, 1) := by decide +kernel
theorem d_M_agent_226 : decode b_M_agent 226 = .ok (.istore 4, 2) := by decide +kernel
theorem d_M_agent_228 : decode b_M_agent 228 = .ok (.iload 4, 2) := by decide +kernel
theorem d_M_agent_230 : decode b_M_agent 230 = .ok (.bipush 8, 2) := by decide +kernel
theorem d_M_agent_232 : decode b_M_agent 232 = .ok (.if_icmp .ge 41, 3) := by decide +kernel
theorem d_M_agent_235 : decode b_M_agent 235 = .ok (.aload_n 0, 1) := by decide +kernel
theorem d_M_agent_236 : decode b_M_agent 236 = .ok (.getfield 184, 3) := by decide +kernel
theorem d_M_agent_239 : decode b_M_agent 239 = .ok (.bipush 8, 2) := by decide +kernel
theorem d_M_agent_241 : decode b_M_agent 241 = .ok (.iload_n 1, 1) := by decide +kernel
theorem d_M_agent_242 : decode b_M_agent 242 = .ok (.imul, 1) := by decide +kernel
theorem d_M_agent_243 : decode b_M_agent 243 = .ok (.iload 4, 2) := by decide +kernel
theorem d_M_agent_245 : decode b_M_agent 245 = .ok (.iadd, 1) := by decide +kernel
theorem d_M_agent_246 : decode b_M_agent 246 = .ok (.iconst 0, 1) := by decide +kernel
theorem d_M_agent_247 : decode b_M_agent 247 = .ok (.bastore, 1) := by decide +kernel
theorem d_M_agent_248 : decode b_M_agent 248 = .ok (.aload_n 0, 1) := by decide +kernel
theorem d_M_agent_249 : decode b_M_agent 249 = .ok (.getfield 296, 3) := by decide +kernel
theorem d_M_agent_252 : decode b_M_agent 252 = .ok (.iload 4, 2) := by decide +kernel
theorem d_M_agent_254 : decode b_M_agent 254 = .ok (.iaload, 1) := by decide +kernel
theorem d_M_agent_255 : decode b_M_agent 255 = .ok (.iload_n 1, 1) := by decide +kernel
theorem d_M_agent_256 : decode b_M_agent 256 = .ok (.if_icmp .ne 11, 3) := by decide +kernel
theorem d_M_agent_259 : decode b_M_agent 259 = .ok (.aload_n 0, 1) := by decide +kernel
theorem d_M_agent_260 : decode b_M_agent 260 = .ok (.getfield 296, 3) := by decide +kernel
theorem d_M_agent_263 : decode b_M_agent 263 = .ok (.iload 4, 2) := by decide +kernel
theorem d_M_agent_265 : decode b_M_agent 265 = .ok (.iconst (-1), 1) := by decide +kernel
theorem d_M_agent_266 : decode b_M_agent 266 = .ok (.iastore, 1) := by decide +kernel
theorem d_M_agent_267 : decode b_M_agent 267 = .ok (.iinc 4 1, 3) := by decide +kernel
theorem d_M_agent_270 : decode b_M_agent 270 = .ok (.goto (-42), 3) := by decide +kernel
theorem d_M_agent_273 : decode b_M_agent 273 = .ok (.iconst 1, 1) := by decide +kernel
theorem d_M_agent_274 : decode b_M_agent 274 = .ok (.ireturn, 1) := by decide +kernel
abbrev b_M_shift : ByteArray := prog_14_method_128_code
def y_M_shift : MethodName := ⟨R_M, "shift", "(II)Z"⟩
abbrev k_M_shift : Cond := .code y_M_shift b_M_shift 3 (some .boolean)
theorem ki_M_shift : k_M_shift ∈ lw_tg := in_t 2726 (by decide +kernel)
theorem ks_M_shift : Cond.instanceMethod y_M_shift ∈ lw_tg := in_t 2724 (by decide +kernel)
theorem kx_M_shift : Cond.selects R_M y_M_shift y_M_shift ∈ lw_tg := in_t 2725 (by decide +kernel)
theorem hd_M_shift : y_M_shift.cls = R_M ∧ y_M_shift.cls ≠ "java/lang/invoke/MethodHandle" ∧ y_M_shift.cls ≠ "java/lang/invoke/VarHandle" ∧ (parseMethodDescriptor y_M_shift.desc).map (fun d => d.parameters.length) = some 2 := by decide +kernel
theorem d_M_shift_0 : decode b_M_shift 0 = .ok (.aload_n 0, 1) := by decide +kernel
theorem d_M_shift_1 : decode b_M_shift 1 = .ok (.iload_n 1, 1) := by decide +kernel
theorem d_M_shift_2 : decode b_M_shift 2 = .ok (.invokevirtual 916, 3) := by decide +kernel
theorem d_M_shift_5 : decode b_M_shift 5 = .ok (.ifCond .eq 17, 3) := by decide +kernel
theorem d_M_shift_8 : decode b_M_shift 8 = .ok (.iload_n 2, 1) := by decide +kernel
theorem d_M_shift_9 : decode b_M_shift 9 = .ok (.ldc_w 921, 3) := by decide +kernel
theorem d_M_shift_12 : decode b_M_shift 12 = .ok (.if_icmp .lt 10, 3) := by decide +kernel
theorem d_M_shift_15 : decode b_M_shift 15 = .ok (.iload_n 2, 1) := by decide +kernel
theorem d_M_shift_16 : decode b_M_shift 16 = .ok (.ldc_w 922, 3) := by decide +kernel
theorem d_M_shift_19 : decode b_M_shift 19 = .ok (.if_icmp .le 5, 3) := by decide +kernel
theorem d_M_shift_22 : decode b_M_shift 22 = .ok (.iconst 0, 1) := by decide +kernel
theorem d_M_shift_23 : decode b_M_shift 23 = .ok (.ireturn, 1) := by decide +kernel
theorem d_M_shift_24 : decode b_M_shift 24 = .ok (.aload_n 0, 1) := by decide +kernel
theorem d_M_shift_25 : decode b_M_shift 25 = .ok (.getfield 175, 3) := by decide +kernel
theorem d_M_shift_28 : decode b_M_shift 28 = .ok (.iload_n 1, 1) := by decide +kernel
theorem d_M_shift_29 : decode b_M_shift 29 = .ok (.iload_n 2, 1) := by decide +kernel
theorem d_M_shift_30 : decode b_M_shift 30 = .ok (.iastore, 1) := by decide +kernel
theorem d_M_shift_31 : decode b_M_shift 31 = .ok (.iconst 1, 1) := by decide +kernel
theorem d_M_shift_32 : decode b_M_shift 32 = .ok (.ireturn, 1) := by decide +kernel
abbrev b_M_ticket : ByteArray := prog_14_method_129_code
def y_M_ticket : MethodName := ⟨R_M, "ticket", "(III)I"⟩
abbrev k_M_ticket : Cond := .code y_M_ticket b_M_ticket 5 (some .int)
theorem ki_M_ticket : k_M_ticket ∈ lw_tg := in_t 2736 (by decide +kernel)
theorem ks_M_ticket : Cond.instanceMethod y_M_ticket ∈ lw_tg := in_t 2734 (by decide +kernel)
theorem kx_M_ticket : Cond.selects R_M y_M_ticket y_M_ticket ∈ lw_tg := in_t 2735 (by decide +kernel)
theorem hd_M_ticket : y_M_ticket.cls = R_M ∧ y_M_ticket.cls ≠ "java/lang/invoke/MethodHandle" ∧ y_M_ticket.cls ≠ "java/lang/invoke/VarHandle" ∧ (parseMethodDescriptor y_M_ticket.desc).map (fun d => d.parameters.length) = some 3 := by decide +kernel
theorem d_M_ticket_0 : decode b_M_ticket 0 = .ok (.aload_n 0, 1) := by decide +kernel
theorem d_M_ticket_1 : decode b_M_ticket 1 = .ok (.iload_n 1, 1) := by decide +kernel
theorem d_M_ticket_2 : decode b_M_ticket 2 = .ok (.iload_n 2, 1) := by decide +kernel
theorem d_M_ticket_3 : decode b_M_ticket 3 = .ok (.invokevirtual 923, 3) := by decide +kernel
theorem d_M_ticket_6 : decode b_M_ticket 6 = .ok (.ifCond .ne 5, 3) := by decide +kernel
theorem d_M_ticket_9 : decode b_M_ticket 9 = .ok (.iconst (-1), 1) := by decide +kernel
theorem d_M_ticket_10 : decode b_M_ticket 10 = .ok (.ireturn, 1) := by decide +kernel
theorem d_M_ticket_11 : decode b_M_ticket 11 = .ok (.bipush 8, 2) := by decide +kernel
theorem d_M_ticket_13 : decode b_M_ticket 13 = .ok (.iload_n 1, 1) := by decide +kernel
theorem d_M_ticket_14 : decode b_M_ticket 14 = .ok (.imul, 1) := by decide +kernel
theorem d_M_ticket_15 : decode b_M_ticket 15 = .ok (.iload_n 2, 1) := by decide +kernel
theorem d_M_ticket_16 : decode b_M_ticket 16 = .ok (.iadd, 1) := by decide +kernel
theorem d_M_ticket_17 : decode b_M_ticket 17 = .ok (.istore 4, 2) := by decide +kernel
theorem d_M_ticket_19 : decode b_M_ticket 19 = .ok (.iload_n 3, 1) := by decide +kernel
theorem d_M_ticket_20 : decode b_M_ticket 20 = .ok (.tableswitch 92 0 5 #[40, 48, 57, 66, 75, 84], 40) := by decide +kernel
theorem d_M_ticket_60 : decode b_M_ticket 60 = .ok (.aload_n 0, 1) := by decide +kernel
theorem d_M_ticket_61 : decode b_M_ticket 61 = .ok (.getfield 197, 3) := by decide +kernel
theorem d_M_ticket_64 : decode b_M_ticket 64 = .ok (.iload 4, 2) := by decide +kernel
theorem d_M_ticket_66 : decode b_M_ticket 66 = .ok (.iaload, 1) := by decide +kernel
theorem d_M_ticket_67 : decode b_M_ticket 67 = .ok (.ireturn, 1) := by decide +kernel
theorem d_M_ticket_68 : decode b_M_ticket 68 = .ok (.aload_n 0, 1) := by decide +kernel
theorem d_M_ticket_69 : decode b_M_ticket 69 = .ok (.getfield 203, 3) := by decide +kernel
theorem d_M_ticket_72 : decode b_M_ticket 72 = .ok (.iload 4, 2) := by decide +kernel
theorem d_M_ticket_74 : decode b_M_ticket 74 = .ok (.laload, 1) := by decide +kernel
theorem d_M_ticket_75 : decode b_M_ticket 75 = .ok (.l2i, 1) := by decide +kernel
theorem d_M_ticket_76 : decode b_M_ticket 76 = .ok (.ireturn, 1) := by decide +kernel
theorem d_M_ticket_77 : decode b_M_ticket 77 = .ok (.aload_n 0, 1) := by decide +kernel
theorem d_M_ticket_78 : decode b_M_ticket 78 = .ok (.getfield 206, 3) := by decide +kernel
theorem d_M_ticket_81 : decode b_M_ticket 81 = .ok (.iload 4, 2) := by decide +kernel
theorem d_M_ticket_83 : decode b_M_ticket 83 = .ok (.laload, 1) := by decide +kernel
theorem d_M_ticket_84 : decode b_M_ticket 84 = .ok (.l2i, 1) := by decide +kernel
theorem d_M_ticket_85 : decode b_M_ticket 85 = .ok (.ireturn, 1) := by decide +kernel
theorem d_M_ticket_86 : decode b_M_ticket 86 = .ok (.aload_n 0, 1) := by decide +kernel
theorem d_M_ticket_87 : decode b_M_ticket 87 = .ok (.getfield 209, 3) := by decide +kernel
theorem d_M_ticket_90 : decode b_M_ticket 90 = .ok (.iload 4, 2) := by decide +kernel
theorem d_M_ticket_92 : decode b_M_ticket 92 = .ok (.laload, 1) := by decide +kernel
theorem d_M_ticket_93 : decode b_M_ticket 93 = .ok (.l2i, 1) := by decide +kernel
theorem d_M_ticket_94 : decode b_M_ticket 94 = .ok (.ireturn, 1) := by decide +kernel
theorem d_M_ticket_95 : decode b_M_ticket 95 = .ok (.aload_n 0, 1) := by decide +kernel
theorem d_M_ticket_96 : decode b_M_ticket 96 = .ok (.getfield 212, 3) := by decide +kernel
theorem d_M_ticket_99 : decode b_M_ticket 99 = .ok (.iload 4, 2) := by decide +kernel
theorem d_M_ticket_101 : decode b_M_ticket 101 = .ok (.laload, 1) := by decide +kernel
theorem d_M_ticket_102 : decode b_M_ticket 102 = .ok (.l2i, 1) := by decide +kernel
theorem d_M_ticket_103 : decode b_M_ticket 103 = .ok (.ireturn, 1) := by decide +kernel
theorem d_M_ticket_104 : decode b_M_ticket 104 = .ok (.aload_n 0, 1) := by decide +kernel
theorem d_M_ticket_105 : decode b_M_ticket 105 = .ok (.getfield 200, 3) := by decide +kernel
theorem d_M_ticket_108 : decode b_M_ticket 108 = .ok (.iload 4, 2) := by decide +kernel
theorem d_M_ticket_110 : decode b_M_ticket 110 = .ok (.iaload, 1) := by decide +kernel
theorem d_M_ticket_111 : decode b_M_ticket 111 = .ok (.ireturn, 1) := by decide +kernel
theorem d_M_ticket_112 : decode b_M_ticket 112 = .ok (.iconst (-1), 1) := by decide +kernel
theorem d_M_ticket_113 : decode b_M_ticket 113 = .ok (.ireturn, 1) := by decide +kernel
abbrev b_M_drop : ByteArray := prog_14_method_130_code
def y_M_drop : MethodName := ⟨R_M, "drop", "(II)Z"⟩
abbrev k_M_drop : Cond := .code y_M_drop b_M_drop 3 (some .boolean)
theorem ki_M_drop : k_M_drop ∈ lw_tg := in_t 2744 (by decide +kernel)
theorem ks_M_drop : Cond.instanceMethod y_M_drop ∈ lw_tg := in_t 2742 (by decide +kernel)
theorem kx_M_drop : Cond.selects R_M y_M_drop y_M_drop ∈ lw_tg := in_t 2743 (by decide +kernel)
theorem hd_M_drop : y_M_drop.cls = R_M ∧ y_M_drop.cls ≠ "java/lang/invoke/MethodHandle" ∧ y_M_drop.cls ≠ "java/lang/invoke/VarHandle" ∧ (parseMethodDescriptor y_M_drop.desc).map (fun d => d.parameters.length) = some 2 := by decide +kernel
theorem d_M_drop_0 : decode b_M_drop 0 = .ok (.aload_n 0, 1) := by decide +kernel
theorem d_M_drop_1 : decode b_M_drop 1 = .ok (.iload_n 1, 1) := by decide +kernel
theorem d_M_drop_2 : decode b_M_drop 2 = .ok (.iload_n 2, 1) := by decide +kernel
theorem d_M_drop_3 : decode b_M_drop 3 = .ok (.invokevirtual 923, 3) := by decide +kernel
theorem d_M_drop_6 : decode b_M_drop 6 = .ok (.ifCond .ne 5, 3) := by decide +kernel
theorem d_M_drop_9 : decode b_M_drop 9 = .ok (.iconst 0, 1) := by decide +kernel
theorem d_M_drop_10 : decode b_M_drop 10 = .ok (.ireturn, 1) := by decide +kernel
theorem d_M_drop_11 : decode b_M_drop 11 = .ok (.aload_n 0, 1) := by decide +kernel
theorem d_M_drop_12 : decode b_M_drop 12 = .ok (.getfield 184, 3) := by decide +kernel
theorem d_M_drop_15 : decode b_M_drop 15 = .ok (.bipush 8, 2) := by decide +kernel
theorem d_M_drop_17 : decode b_M_drop 17 = .ok (.iload_n 1, 1) := by decide +kernel
theorem d_M_drop_18 : decode b_M_drop 18 = .ok (.imul, 1) := by decide +kernel
theorem d_M_drop_19 : decode b_M_drop 19 = .ok (.iload_n 2, 1) := by decide +kernel
theorem d_M_drop_20 : decode b_M_drop 20 = .ok (.iadd, 1) := by decide +kernel
theorem d_M_drop_21 : decode b_M_drop 21 = .ok (.iconst 0, 1) := by decide +kernel
theorem d_M_drop_22 : decode b_M_drop 22 = .ok (.bastore, 1) := by decide +kernel
theorem d_M_drop_23 : decode b_M_drop 23 = .ok (.iconst 1, 1) := by decide +kernel
theorem d_M_drop_24 : decode b_M_drop 24 = .ok (.ireturn, 1) := by decide +kernel
abbrev b_M_rowField : ByteArray := prog_14_method_131_code
def y_M_rowField : MethodName := ⟨R_M, "rowField", "(I[BII)V"⟩
abbrev k_M_rowField : Cond := .code y_M_rowField b_M_rowField 6 none
theorem ki_M_rowField : k_M_rowField ∈ lw_tg := in_t 2779 (by decide +kernel)
theorem ks_M_rowField : Cond.instanceMethod y_M_rowField ∈ lw_tg := in_t 2778 (by decide +kernel)
theorem kx_M_rowField : Cond.selects R_M y_M_rowField y_M_rowField ∈ lw_tg := List.mem_filter.mpr ⟨List.mem_append_left _ (List.mem_of_getElem? (i := 178) (by decide +kernel)), rfl⟩
theorem kl_M_rowField : Cond.methodLink R_M 953 y_M_rowField ∈ lw_tg := in_t 2776 (by decide +kernel)
theorem hd_M_rowField : y_M_rowField.cls = R_M ∧ y_M_rowField.cls ≠ "java/lang/invoke/MethodHandle" ∧ y_M_rowField.cls ≠ "java/lang/invoke/VarHandle" ∧ (parseMethodDescriptor y_M_rowField.desc).map (fun d => d.parameters.length) = some 4 := by decide +kernel
theorem d_M_rowField_0 : decode b_M_rowField 0 = .ok (.aload_n 0, 1) := by decide +kernel
theorem d_M_rowField_1 : decode b_M_rowField 1 = .ok (.getfield 553, 3) := by decide +kernel
theorem d_M_rowField_4 : decode b_M_rowField 4 = .ok (.istore 5, 2) := by decide +kernel
theorem d_M_rowField_6 : decode b_M_rowField 6 = .ok (.aload_n 0, 1) := by decide +kernel
theorem d_M_rowField_7 : decode b_M_rowField 7 = .ok (.aload_n 2, 1) := by decide +kernel
theorem d_M_rowField_8 : decode b_M_rowField 8 = .ok (.iload_n 3, 1) := by decide +kernel
theorem d_M_rowField_9 : decode b_M_rowField 9 = .ok (.iload 4, 2) := by decide +kernel
theorem d_M_rowField_11 : decode b_M_rowField 11 = .ok (.invokevirtual 574, 3) := by decide +kernel
theorem d_M_rowField_14 : decode b_M_rowField 14 = .ok (.aload_n 0, 1) := by decide +kernel
theorem d_M_rowField_15 : decode b_M_rowField 15 = .ok (.iload_n 1, 1) := by decide +kernel
theorem d_M_rowField_16 : decode b_M_rowField 16 = .ok (.iload 5, 2) := by decide +kernel
theorem d_M_rowField_18 : decode b_M_rowField 18 = .ok (.invokevirtual 567, 3) := by decide +kernel
theorem d_M_rowField_21 : decode b_M_rowField 21 = .ok (.return_, 1) := by decide +kernel
abbrev b_M_partsField : ByteArray := prog_14_method_132_code
def y_M_partsField : MethodName := ⟨R_M, "partsField", "(I[BIII)V"⟩
abbrev k_M_partsField : Cond := .code y_M_partsField b_M_partsField 8 none
theorem ki_M_partsField : k_M_partsField ∈ lw_tg := in_t 2767 (by decide +kernel)
theorem ks_M_partsField : Cond.instanceMethod y_M_partsField ∈ lw_tg := in_t 2766 (by decide +kernel)
theorem kx_M_partsField : Cond.selects R_M y_M_partsField y_M_partsField ∈ lw_tg := List.mem_filter.mpr ⟨List.mem_append_left _ (List.mem_of_getElem? (i := 175) (by decide +kernel)), rfl⟩
theorem kl_M_partsField : Cond.methodLink R_M 939 y_M_partsField ∈ lw_tg := in_t 2764 (by decide +kernel)
theorem hd_M_partsField : y_M_partsField.cls = R_M ∧ y_M_partsField.cls ≠ "java/lang/invoke/MethodHandle" ∧ y_M_partsField.cls ≠ "java/lang/invoke/VarHandle" ∧ (parseMethodDescriptor y_M_partsField.desc).map (fun d => d.parameters.length) = some 5 := by decide +kernel
theorem d_M_partsField_0 : decode b_M_partsField 0 = .ok (.aload_n 0, 1) := by decide +kernel
theorem d_M_partsField_1 : decode b_M_partsField 1 = .ok (.getfield 553, 3) := by decide +kernel
theorem d_M_partsField_4 : decode b_M_partsField 4 = .ok (.istore 6, 2) := by decide +kernel
theorem d_M_partsField_6 : decode b_M_partsField 6 = .ok (.aload_n 0, 1) := by decide +kernel
theorem d_M_partsField_7 : decode b_M_partsField 7 = .ok (.getfield 553, 3) := by decide +kernel
theorem d_M_partsField_10 : decode b_M_partsField 10 = .ok (.istore 7, 2) := by decide +kernel
theorem d_M_partsField_12 : decode b_M_partsField 12 = .ok (.aload_n 0, 1) := by decide +kernel
theorem d_M_partsField_13 : decode b_M_partsField 13 = .ok (.aload_n 2, 1) := by decide +kernel
theorem d_M_partsField_14 : decode b_M_partsField 14 = .ok (.iload_n 3, 1) := by decide +kernel
theorem d_M_partsField_15 : decode b_M_partsField 15 = .ok (.iload 4, 2) := by decide +kernel
theorem d_M_partsField_17 : decode b_M_partsField 17 = .ok (.invokevirtual 595, 3) := by decide +kernel
theorem d_M_partsField_20 : decode b_M_partsField 20 = .ok (.aload_n 0, 1) := by decide +kernel
theorem d_M_partsField_21 : decode b_M_partsField 21 = .ok (.bipush 48, 2) := by decide +kernel
theorem d_M_partsField_23 : decode b_M_partsField 23 = .ok (.iload 7, 2) := by decide +kernel
theorem d_M_partsField_25 : decode b_M_partsField 25 = .ok (.invokevirtual 559, 3) := by decide +kernel
theorem d_M_partsField_28 : decode b_M_partsField 28 = .ok (.aload_n 0, 1) := by decide +kernel
theorem d_M_partsField_29 : decode b_M_partsField 29 = .ok (.iconst 1, 1) := by decide +kernel
theorem d_M_partsField_30 : decode b_M_partsField 30 = .ok (.iload 7, 2) := by decide +kernel
theorem d_M_partsField_32 : decode b_M_partsField 32 = .ok (.invokevirtual 567, 3) := by decide +kernel
theorem d_M_partsField_35 : decode b_M_partsField 35 = .ok (.aload_n 0, 1) := by decide +kernel
theorem d_M_partsField_36 : decode b_M_partsField 36 = .ok (.iconst 0, 1) := by decide +kernel
theorem d_M_partsField_37 : decode b_M_partsField 37 = .ok (.iload 5, 2) := by decide +kernel
theorem d_M_partsField_39 : decode b_M_partsField 39 = .ok (.i2l, 1) := by decide +kernel
theorem d_M_partsField_40 : decode b_M_partsField 40 = .ok (.invokevirtual 588, 3) := by decide +kernel
theorem d_M_partsField_43 : decode b_M_partsField 43 = .ok (.aload_n 0, 1) := by decide +kernel
theorem d_M_partsField_44 : decode b_M_partsField 44 = .ok (.bipush 48, 2) := by decide +kernel
theorem d_M_partsField_46 : decode b_M_partsField 46 = .ok (.iload 6, 2) := by decide +kernel
theorem d_M_partsField_48 : decode b_M_partsField 48 = .ok (.invokevirtual 559, 3) := by decide +kernel
theorem d_M_partsField_51 : decode b_M_partsField 51 = .ok (.aload_n 0, 1) := by decide +kernel
theorem d_M_partsField_52 : decode b_M_partsField 52 = .ok (.iload_n 1, 1) := by decide +kernel
theorem d_M_partsField_53 : decode b_M_partsField 53 = .ok (.iload 6, 2) := by decide +kernel
theorem d_M_partsField_55 : decode b_M_partsField 55 = .ok (.invokevirtual 567, 3) := by decide +kernel
theorem d_M_partsField_58 : decode b_M_partsField 58 = .ok (.return_, 1) := by decide +kernel
abbrev b_M_firstType : ByteArray := prog_14_method_133_code
def y_M_firstType : MethodName := ⟨R_M, "firstType", "(I)I"⟩
abbrev k_M_firstType : Cond := .code y_M_firstType b_M_firstType 1 (some .int)
theorem ki_M_firstType : k_M_firstType ∈ lw_tg := in_t 2762 (by decide +kernel)
theorem ks_M_firstType : Cond.static y_M_firstType ∈ lw_tg := in_t 2761 (by decide +kernel)
theorem kl_M_firstType : Cond.methodLink R_M 934 y_M_firstType ∈ lw_tg := in_t 2760 (by decide +kernel)
theorem hd_M_firstType : y_M_firstType.cls = R_M ∧ y_M_firstType.cls ≠ "java/lang/invoke/MethodHandle" ∧ y_M_firstType.cls ≠ "java/lang/invoke/VarHandle" ∧ (parseMethodDescriptor y_M_firstType.desc).map (fun d => d.parameters.length) = some 1 := by decide +kernel
theorem d_M_firstType_0 : decode b_M_firstType 0 = .ok (.iload_n 0, 1) := by decide +kernel
theorem d_M_firstType_1 : decode b_M_firstType 1 = .ok (.iconst 1, 1) := by decide +kernel
theorem d_M_firstType_2 : decode b_M_firstType 2 = .ok (.if_icmp .eq 8, 3) := by decide +kernel
theorem d_M_firstType_5 : decode b_M_firstType 5 = .ok (.iload_n 0, 1) := by decide +kernel
theorem d_M_firstType_6 : decode b_M_firstType 6 = .ok (.iconst 3, 1) := by decide +kernel
theorem d_M_firstType_7 : decode b_M_firstType 7 = .ok (.if_icmp .ne 8, 3) := by decide +kernel
theorem d_M_firstType_10 : decode b_M_firstType 10 = .ok (.bipush 17, 2) := by decide +kernel
theorem d_M_firstType_12 : decode b_M_firstType 12 = .ok (.goto 5, 3) := by decide +kernel
theorem d_M_firstType_15 : decode b_M_firstType 15 = .ok (.bipush 18, 2) := by decide +kernel
theorem d_M_firstType_17 : decode b_M_firstType 17 = .ok (.ireturn, 1) := by decide +kernel
abbrev b_M_request : ByteArray := prog_14_method_134_code
def y_M_request : MethodName := ⟨R_M, "request", "(IIIIIII)I"⟩
abbrev k_M_request : Cond := .code y_M_request b_M_request 18 (some .int)
theorem ki_M_request : k_M_request ∈ lw_tg := List.mem_filter.mpr ⟨List.mem_append_right _ (List.mem_append_right _ (List.mem_append_right _ (List.mem_append_right _ (List.mem_append_right _ (List.mem_append_right _ (List.mem_append_right _ (List.mem_append_right _ (List.mem_append_right _ (List.mem_append_right _ (List.mem_append_right _ (List.mem_append_right _ (List.mem_append_left _ (List.mem_of_getElem? (i := 108) rfl))))))))))))), rfl⟩
theorem ks_M_request : Cond.instanceMethod y_M_request ∈ lw_tg := in_t 2746 (by decide +kernel)
theorem kx_M_request : Cond.selects R_M y_M_request y_M_request ∈ lw_tg := in_t 2747 (by decide +kernel)
theorem hd_M_request : y_M_request.cls = R_M ∧ y_M_request.cls ≠ "java/lang/invoke/MethodHandle" ∧ y_M_request.cls ≠ "java/lang/invoke/VarHandle" ∧ (parseMethodDescriptor y_M_request.desc).map (fun d => d.parameters.length) = some 7 := by decide +kernel
theorem d_M_request_0 : decode b_M_request 0 = .ok (.aload_n 0, 1) := by decide +kernel
theorem d_M_request_1 : decode b_M_request 1 = .ok (.iconst 1, 1) := by decide +kernel
theorem d_M_request_2 : decode b_M_request 2 = .ok (.invokevirtual 613, 3) := by decide +kernel
theorem d_M_request_5 : decode b_M_request 5 = .ok (.ifCond .eq 73, 3) := by decide +kernel
theorem d_M_request_8 : decode b_M_request 8 = .ok (.aload_n 0, 1) := by decide +kernel
theorem d_M_request_9 : decode b_M_request 9 = .ok (.getfield 605, 3) := by decide +kernel
theorem d_M_request_12 : decode b_M_request 12 = .ok (.aload_n 0, 1) := by decide +kernel
theorem d_M_request_13 : decode b_M_request 13 = .ok (.getfield 332, 3) := by decide +kernel
theorem d_M_request_16 : decode b_M_request 16 = .ok (.if_icmp .ne 62, 3) := by decide +kernel
theorem d_M_request_19 : decode b_M_request 19 = .ok (.aload_n 0, 1) := by decide +kernel
theorem d_M_request_20 : decode b_M_request 20 = .ok (.iload_n 1, 1) := by decide +kernel
theorem d_M_request_21 : decode b_M_request 21 = .ok (.invokevirtual 916, 3) := by decide +kernel
theorem d_M_request_24 : decode b_M_request 24 = .ok (.ifCond .eq 54, 3) := by decide +kernel
theorem d_M_request_27 : decode b_M_request 27 = .ok (.iload_n 2, 1) := by decide +kernel
theorem d_M_request_28 : decode b_M_request 28 = .ok (.ifCond .lt 50, 3) := by decide +kernel
theorem d_M_request_31 : decode b_M_request 31 = .ok (.iload_n 2, 1) := by decide +kernel
theorem d_M_request_32 : decode b_M_request 32 = .ok (.iconst 2, 1) := by decide +kernel
theorem d_M_request_33 : decode b_M_request 33 = .ok (.if_icmp .gt 45, 3) := by decide +kernel
theorem d_M_request_36 : decode b_M_request 36 = .ok (.iload 5, 2) := by decide +kernel
theorem d_M_request_38 : decode b_M_request 38 = .ok (.iconst 1, 1) := by decide +kernel
theorem d_M_request_39 : decode b_M_request 39 = .ok (.if_icmp .lt 39, 3) := by decide +kernel
theorem d_M_request_42 : decode b_M_request 42 = .ok (.iload 5, 2) := by decide +kernel
theorem d_M_request_44 : decode b_M_request 44 = .ok (.iconst 4, 1) := by decide +kernel
theorem d_M_request_45 : decode b_M_request 45 = .ok (.if_icmp .gt 33, 3) := by decide +kernel
theorem d_M_request_48 : decode b_M_request 48 = .ok (.iload 6, 2) := by decide +kernel
theorem d_M_request_50 : decode b_M_request 50 = .ok (.ifCond .lt 28, 3) := by decide +kernel
theorem d_M_request_53 : decode b_M_request 53 = .ok (.iload 6, 2) := by decide +kernel
theorem d_M_request_55 : decode b_M_request 55 = .ok (.ldc_w 926, 3) := by decide +kernel
theorem d_M_request_58 : decode b_M_request 58 = .ok (.if_icmp .gt 20, 3) := by decide +kernel
theorem d_M_request_61 : decode b_M_request 61 = .ok (.iload 7, 2) := by decide +kernel
theorem d_M_request_63 : decode b_M_request 63 = .ok (.ifCond .lt 15, 3) := by decide +kernel
theorem d_M_request_66 : decode b_M_request 66 = .ok (.iload 7, 2) := by decide +kernel
theorem d_M_request_68 : decode b_M_request 68 = .ok (.ldc_w 926, 3) := by decide +kernel
theorem d_M_request_71 : decode b_M_request 71 = .ok (.if_icmp .gt 7, 3) := by decide +kernel
theorem d_M_request_74 : decode b_M_request 74 = .ok (.iconst 1, 1) := by decide +kernel
theorem d_M_request_75 : decode b_M_request 75 = .ok (.goto 4, 3) := by decide +kernel
theorem d_M_request_78 : decode b_M_request 78 = .ok (.iconst 0, 1) := by decide +kernel
theorem d_M_request_79 : decode b_M_request 79 = .ok (.istore 8, 2) := by decide +kernel
theorem d_M_request_81 : decode b_M_request 81 = .ok (.iload 8, 2) := by decide +kernel
theorem d_M_request_83 : decode b_M_request 83 = .ok (.ifCond .eq 21, 3) := by decide +kernel
theorem d_M_request_86 : decode b_M_request 86 = .ok (.iload_n 2, 1) := by decide +kernel
theorem d_M_request_87 : decode b_M_request 87 = .ok (.iconst 2, 1) := by decide +kernel
theorem d_M_request_88 : decode b_M_request 88 = .ok (.if_icmp .lt 12, 3) := by decide +kernel
theorem d_M_request_91 : decode b_M_request 91 = .ok (.aload_n 0, 1) := by decide +kernel
theorem d_M_request_92 : decode b_M_request 92 = .ok (.iload_n 1, 1) := by decide +kernel
theorem d_M_request_93 : decode b_M_request 93 = .ok (.iload_n 3, 1) := by decide +kernel
theorem d_M_request_94 : decode b_M_request 94 = .ok (.invokevirtual 923, 3) := by decide +kernel
theorem d_M_request_97 : decode b_M_request 97 = .ok (.ifCond .eq 7, 3) := by decide +kernel
theorem d_M_request_100 : decode b_M_request 100 = .ok (.iconst 1, 1) := by decide +kernel
theorem d_M_request_101 : decode b_M_request 101 = .ok (.goto 4, 3) := by decide +kernel
theorem d_M_request_104 : decode b_M_request 104 = .ok (.iconst 0, 1) := by decide +kernel
theorem d_M_request_105 : decode b_M_request 105 = .ok (.istore 8, 2) := by decide +kernel
theorem d_M_request_107 : decode b_M_request 107 = .ok (.aload_n 0, 1) := by decide +kernel
theorem d_M_request_108 : decode b_M_request 108 = .ok (.iconst 0, 1) := by decide +kernel
theorem d_M_request_109 : decode b_M_request 109 = .ok (.putfield 332, 3) := by decide +kernel
theorem d_M_request_112 : decode b_M_request 112 = .ok (.iload 8, 2) := by decide +kernel
theorem d_M_request_114 : decode b_M_request 114 = .ok (.ifCond .ne 5, 3) := by decide +kernel
theorem d_M_request_117 : decode b_M_request 117 = .ok (.iconst (-1), 1) := by decide +kernel
theorem d_M_request_118 : decode b_M_request 118 = .ok (.ireturn, 1) := by decide +kernel
theorem d_M_request_119 : decode b_M_request 119 = .ok (.bipush 8, 2) := by decide +kernel
theorem d_M_request_121 : decode b_M_request 121 = .ok (.iload_n 1, 1) := by decide +kernel
theorem d_M_request_122 : decode b_M_request 122 = .ok (.imul, 1) := by decide +kernel
theorem d_M_request_123 : decode b_M_request 123 = .ok (.iload_n 3, 1) := by decide +kernel
theorem d_M_request_124 : decode b_M_request 124 = .ok (.iadd, 1) := by decide +kernel
theorem d_M_request_125 : decode b_M_request 125 = .ok (.istore 9, 2) := by decide +kernel
theorem d_M_request_127 : decode b_M_request 127 = .ok (.aload_n 0, 1) := by decide +kernel
theorem d_M_request_128 : decode b_M_request 128 = .ok (.iload_n 1, 1) := by decide +kernel
theorem d_M_request_129 : decode b_M_request 129 = .ok (.invokevirtual 927, 3) := by decide +kernel
theorem d_M_request_132 : decode b_M_request 132 = .ok (.lstore 10, 2) := by decide +kernel
theorem d_M_request_134 : decode b_M_request 134 = .ok (.aload_n 0, 1) := by decide +kernel
theorem d_M_request_135 : decode b_M_request 135 = .ok (.getfield 224, 3) := by decide +kernel
theorem d_M_request_138 : decode b_M_request 138 = .ok (.iload_n 1, 1) := by decide +kernel
theorem d_M_request_139 : decode b_M_request 139 = .ok (.iload_n 2, 1) := by decide +kernel
theorem d_M_request_140 : decode b_M_request 140 = .ok (.iastore, 1) := by decide +kernel
theorem d_M_request_141 : decode b_M_request 141 = .ok (.aload_n 0, 1) := by decide +kernel
theorem d_M_request_142 : decode b_M_request 142 = .ok (.getfield 227, 3) := by decide +kernel
theorem d_M_request_145 : decode b_M_request 145 = .ok (.iload_n 1, 1) := by decide +kernel
theorem d_M_request_146 : decode b_M_request 146 = .ok (.iload 5, 2) := by decide +kernel
theorem d_M_request_148 : decode b_M_request 148 = .ok (.iastore, 1) := by decide +kernel
theorem d_M_request_149 : decode b_M_request 149 = .ok (.aload_n 0, 1) := by decide +kernel
theorem d_M_request_150 : decode b_M_request 150 = .ok (.getfield 239, 3) := by decide +kernel
theorem d_M_request_153 : decode b_M_request 153 = .ok (.iload_n 1, 1) := by decide +kernel
theorem d_M_request_154 : decode b_M_request 154 = .ok (.iload_n 2, 1) := by decide +kernel
theorem d_M_request_155 : decode b_M_request 155 = .ok (.iconst 2, 1) := by decide +kernel
theorem d_M_request_156 : decode b_M_request 156 = .ok (.if_icmp .ne 18, 3) := by decide +kernel
theorem d_M_request_159 : decode b_M_request 159 = .ok (.aload_n 0, 1) := by decide +kernel
theorem d_M_request_160 : decode b_M_request 160 = .ok (.iload 4, 2) := by decide +kernel
theorem d_M_request_162 : decode b_M_request 162 = .ok (.bipush 30, 2) := by decide +kernel
theorem d_M_request_164 : decode b_M_request 164 = .ok (.invokevirtual 820, 3) := by decide +kernel
theorem d_M_request_167 : decode b_M_request 167 = .ok (.ifCond .eq 7, 3) := by decide +kernel
theorem d_M_request_170 : decode b_M_request 170 = .ok (.iconst 1, 1) := by decide +kernel
theorem d_M_request_171 : decode b_M_request 171 = .ok (.goto 4, 3) := by decide +kernel
theorem d_M_request_174 : decode b_M_request 174 = .ok (.iconst 0, 1) := by decide +kernel
theorem d_M_request_175 : decode b_M_request 175 = .ok (.bastore, 1) := by decide +kernel
theorem d_M_request_176 : decode b_M_request 176 = .ok (.aload_n 0, 1) := by decide +kernel
theorem d_M_request_177 : decode b_M_request 177 = .ok (.getfield 233, 3) := by decide +kernel
theorem d_M_request_180 : decode b_M_request 180 = .ok (.iload_n 1, 1) := by decide +kernel
theorem d_M_request_181 : decode b_M_request 181 = .ok (.aload_n 0, 1) := by decide +kernel
theorem d_M_request_182 : decode b_M_request 182 = .ok (.getfield 608, 3) := by decide +kernel
theorem d_M_request_185 : decode b_M_request 185 = .ok (.iastore, 1) := by decide +kernel
theorem d_M_request_186 : decode b_M_request 186 = .ok (.iconst 0, 1) := by decide +kernel
theorem d_M_request_187 : decode b_M_request 187 = .ok (.istore 12, 2) := by decide +kernel
theorem d_M_request_189 : decode b_M_request 189 = .ok (.iload 12, 2) := by decide +kernel
theorem d_M_request_191 : decode b_M_request 191 = .ok (.aload_n 0, 1) := by decide +kernel
theorem d_M_request_192 : decode b_M_request 192 = .ok (.getfield 608, 3) := by decide +kernel
theorem d_M_request_195 : decode b_M_request 195 = .ok (.if_icmp .ge 28, 3) := by decide +kernel
theorem d_M_request_198 : decode b_M_request 198 = .ok (.aload_n 0, 1) := by decide +kernel
theorem d_M_request_199 : decode b_M_request 199 = .ok (.getfield 245, 3) := by decide +kernel
theorem d_M_request_202 : decode b_M_request 202 = .ok (.bipush 40, 2) := by decide +kernel
theorem d_M_request_204 : decode b_M_request 204 = .ok (.iload_n 1, 1) := by decide +kernel
theorem d_M_request_205 : decode b_M_request 205 = .ok (.imul, 1) := by decide +kernel
theorem d_M_request_206 : decode b_M_request 206 = .ok (.iload 12, 2) := by decide +kernel
theorem d_M_request_208 : decode b_M_request 208 = .ok (.iadd, 1) := by decide +kernel
theorem d_M_request_209 : decode b_M_request 209 = .ok (.aload_n 0, 1) := by decide +kernel
theorem d_M_request_210 : decode b_M_request 210 = .ok (.getfield 128, 3) := by decide +kernel
theorem d_M_request_213 : decode b_M_request 213 = .ok (.iload 12, 2) := by decide +kernel
theorem d_M_request_215 : decode b_M_request 215 = .ok (.baload, 1) := by decide +kernel
theorem d_M_request_216 : decode b_M_request 216 = .ok (.bastore, 1) := by decide +kernel
theorem d_M_request_217 : decode b_M_request 217 = .ok (.iinc 12 1, 3) := by decide +kernel
theorem d_M_request_220 : decode b_M_request 220 = .ok (.goto (-31), 3) := by decide +kernel
theorem d_M_request_223 : decode b_M_request 223 = .ok (.aload_n 0, 1) := by decide +kernel
theorem d_M_request_224 : decode b_M_request 224 = .ok (.getfield 236, 3) := by decide +kernel
theorem d_M_request_227 : decode b_M_request 227 = .ok (.iload_n 1, 1) := by decide +kernel
theorem d_M_request_228 : decode b_M_request 228 = .ok (.aload_n 0, 1) := by decide +kernel
theorem d_M_request_229 : decode b_M_request 229 = .ok (.invokevirtual 930, 3) := by decide +kernel
theorem d_M_request_232 : decode b_M_request 232 = .ok (.ldc_w 933, 3) := by decide +kernel
theorem d_M_request_235 : decode b_M_request 235 = .ok (.iand, 1) := by decide +kernel
theorem d_M_request_236 : decode b_M_request 236 = .ok (.i2l, 1) := by decide +kernel
theorem d_M_request_237 : decode b_M_request 237 = .ok (.lastore, 1) := by decide +kernel
theorem d_M_request_238 : decode b_M_request 238 = .ok (.aload_n 0, 1) := by decide +kernel
theorem d_M_request_239 : decode b_M_request 239 = .ok (.getfield 230, 3) := by decide +kernel
theorem d_M_request_242 : decode b_M_request 242 = .ok (.iload_n 1, 1) := by decide +kernel
theorem d_M_request_243 : decode b_M_request 243 = .ok (.iconst 0, 1) := by decide +kernel
theorem d_M_request_244 : decode b_M_request 244 = .ok (.iastore, 1) := by decide +kernel
theorem d_M_request_245 : decode b_M_request 245 = .ok (.iload_n 2, 1) := by decide +kernel
theorem d_M_request_246 : decode b_M_request 246 = .ok (.iconst 2, 1) := by decide +kernel
theorem d_M_request_247 : decode b_M_request 247 = .ok (.if_icmp .ne 136, 3) := by decide +kernel
theorem d_M_request_250 : decode b_M_request 250 = .ok (.aload_n 0, 1) := by decide +kernel
theorem d_M_request_251 : decode b_M_request 251 = .ok (.getfield 230, 3) := by decide +kernel
theorem d_M_request_254 : decode b_M_request 254 = .ok (.iload_n 1, 1) := by decide +kernel
theorem d_M_request_255 : decode b_M_request 255 = .ok (.aload_n 0, 1) := by decide +kernel
theorem d_M_request_256 : decode b_M_request 256 = .ok (.getfield 200, 3) := by decide +kernel
theorem d_M_request_259 : decode b_M_request 259 = .ok (.iload 9, 2) := by decide +kernel
theorem d_M_request_261 : decode b_M_request 261 = .ok (.iaload, 1) := by decide +kernel
theorem d_M_request_262 : decode b_M_request 262 = .ok (.iastore, 1) := by decide +kernel
theorem d_M_request_263 : decode b_M_request 263 = .ok (.aload_n 0, 1) := by decide +kernel
theorem d_M_request_264 : decode b_M_request 264 = .ok (.aload_n 0, 1) := by decide +kernel
theorem d_M_request_265 : decode b_M_request 265 = .ok (.getfield 200, 3) := by decide +kernel
theorem d_M_request_268 : decode b_M_request 268 = .ok (.iload 9, 2) := by decide +kernel
theorem d_M_request_270 : decode b_M_request 270 = .ok (.iaload, 1) := by decide +kernel
theorem d_M_request_271 : decode b_M_request 271 = .ok (.aload_n 0, 1) := by decide +kernel
theorem d_M_request_272 : decode b_M_request 272 = .ok (.getfield 143, 3) := by decide +kernel
theorem d_M_request_275 : decode b_M_request 275 = .ok (.invokevirtual 857, 3) := by decide +kernel
theorem d_M_request_278 : decode b_M_request 278 = .ok (.iconst 0, 1) := by decide +kernel
theorem d_M_request_279 : decode b_M_request 279 = .ok (.istore 12, 2) := by decide +kernel
theorem d_M_request_281 : decode b_M_request 281 = .ok (.iload 12, 2) := by decide +kernel
theorem d_M_request_283 : decode b_M_request 283 = .ok (.bipush 32, 2) := by decide +kernel
theorem d_M_request_285 : decode b_M_request 285 = .ok (.if_icmp .ge 28, 3) := by decide +kernel
theorem d_M_request_288 : decode b_M_request 288 = .ok (.aload_n 0, 1) := by decide +kernel
theorem d_M_request_289 : decode b_M_request 289 = .ok (.getfield 242, 3) := by decide +kernel
theorem d_M_request_292 : decode b_M_request 292 = .ok (.bipush 32, 2) := by decide +kernel
theorem d_M_request_294 : decode b_M_request 294 = .ok (.iload_n 1, 1) := by decide +kernel
theorem d_M_request_295 : decode b_M_request 295 = .ok (.imul, 1) := by decide +kernel
theorem d_M_request_296 : decode b_M_request 296 = .ok (.iload 12, 2) := by decide +kernel
theorem d_M_request_298 : decode b_M_request 298 = .ok (.iadd, 1) := by decide +kernel
theorem d_M_request_299 : decode b_M_request 299 = .ok (.aload_n 0, 1) := by decide +kernel
theorem d_M_request_300 : decode b_M_request 300 = .ok (.getfield 143, 3) := by decide +kernel
theorem d_M_request_303 : decode b_M_request 303 = .ok (.iload 12, 2) := by decide +kernel
theorem d_M_request_305 : decode b_M_request 305 = .ok (.baload, 1) := by decide +kernel
theorem d_M_request_306 : decode b_M_request 306 = .ok (.bastore, 1) := by decide +kernel
theorem d_M_request_307 : decode b_M_request 307 = .ok (.iinc 12 1, 3) := by decide +kernel
theorem d_M_request_310 : decode b_M_request 310 = .ok (.goto (-29), 3) := by decide +kernel
theorem d_M_request_313 : decode b_M_request 313 = .ok (.aload_n 0, 1) := by decide +kernel
theorem d_M_request_314 : decode b_M_request 314 = .ok (.getfield 251, 3) := by decide +kernel
theorem d_M_request_317 : decode b_M_request 317 = .ok (.iload_n 1, 1) := by decide +kernel
theorem d_M_request_318 : decode b_M_request 318 = .ok (.aload_n 0, 1) := by decide +kernel
theorem d_M_request_319 : decode b_M_request 319 = .ok (.getfield 218, 3) := by decide +kernel
theorem d_M_request_322 : decode b_M_request 322 = .ok (.iload 9, 2) := by decide +kernel
theorem d_M_request_324 : decode b_M_request 324 = .ok (.iaload, 1) := by decide +kernel
theorem d_M_request_325 : decode b_M_request 325 = .ok (.iastore, 1) := by decide +kernel
theorem d_M_request_326 : decode b_M_request 326 = .ok (.aload_n 0, 1) := by decide +kernel
theorem d_M_request_327 : decode b_M_request 327 = .ok (.getfield 254, 3) := by decide +kernel
theorem d_M_request_330 : decode b_M_request 330 = .ok (.iload_n 1, 1) := by decide +kernel
theorem d_M_request_331 : decode b_M_request 331 = .ok (.aload_n 0, 1) := by decide +kernel
theorem d_M_request_332 : decode b_M_request 332 = .ok (.getfield 221, 3) := by decide +kernel
theorem d_M_request_335 : decode b_M_request 335 = .ok (.iload 9, 2) := by decide +kernel
theorem d_M_request_337 : decode b_M_request 337 = .ok (.iaload, 1) := by decide +kernel
theorem d_M_request_338 : decode b_M_request 338 = .ok (.iastore, 1) := by decide +kernel
theorem d_M_request_339 : decode b_M_request 339 = .ok (.iconst 0, 1) := by decide +kernel
theorem d_M_request_340 : decode b_M_request 340 = .ok (.istore 12, 2) := by decide +kernel
theorem d_M_request_342 : decode b_M_request 342 = .ok (.iload 12, 2) := by decide +kernel
theorem d_M_request_344 : decode b_M_request 344 = .ok (.sipush 400, 3) := by decide +kernel
theorem d_M_request_347 : decode b_M_request 347 = .ok (.if_icmp .ge 36, 3) := by decide +kernel
theorem d_M_request_350 : decode b_M_request 350 = .ok (.aload_n 0, 1) := by decide +kernel
theorem d_M_request_351 : decode b_M_request 351 = .ok (.getfield 248, 3) := by decide +kernel
theorem d_M_request_354 : decode b_M_request 354 = .ok (.sipush 400, 3) := by decide +kernel
theorem d_M_request_357 : decode b_M_request 357 = .ok (.iload_n 1, 1) := by decide +kernel
theorem d_M_request_358 : decode b_M_request 358 = .ok (.imul, 1) := by decide +kernel
theorem d_M_request_359 : decode b_M_request 359 = .ok (.iload 12, 2) := by decide +kernel
theorem d_M_request_361 : decode b_M_request 361 = .ok (.iadd, 1) := by decide +kernel
theorem d_M_request_362 : decode b_M_request 362 = .ok (.aload_n 0, 1) := by decide +kernel
theorem d_M_request_363 : decode b_M_request 363 = .ok (.getfield 215, 3) := by decide +kernel
theorem d_M_request_366 : decode b_M_request 366 = .ok (.sipush 400, 3) := by decide +kernel
theorem d_M_request_369 : decode b_M_request 369 = .ok (.iload 9, 2) := by decide +kernel
theorem d_M_request_371 : decode b_M_request 371 = .ok (.imul, 1) := by decide +kernel
theorem d_M_request_372 : decode b_M_request 372 = .ok (.iload 12, 2) := by decide +kernel
theorem d_M_request_374 : decode b_M_request 374 = .ok (.iadd, 1) := by decide +kernel
theorem d_M_request_375 : decode b_M_request 375 = .ok (.baload, 1) := by decide +kernel
theorem d_M_request_376 : decode b_M_request 376 = .ok (.bastore, 1) := by decide +kernel
theorem d_M_request_377 : decode b_M_request 377 = .ok (.iinc 12 1, 3) := by decide +kernel
theorem d_M_request_380 : decode b_M_request 380 = .ok (.goto (-38), 3) := by decide +kernel
theorem d_M_request_383 : decode b_M_request 383 = .ok (.aload_n 0, 1) := by decide +kernel
theorem d_M_request_384 : decode b_M_request 384 = .ok (.invokevirtual 861, 3) := by decide +kernel
theorem d_M_request_387 : decode b_M_request 387 = .ok (.aload_n 0, 1) := by decide +kernel
theorem d_M_request_388 : decode b_M_request 388 = .ok (.getfield 553, 3) := by decide +kernel
theorem d_M_request_391 : decode b_M_request 391 = .ok (.istore 12, 2) := by decide +kernel
theorem d_M_request_393 : decode b_M_request 393 = .ok (.iload 5, 2) := by decide +kernel
theorem d_M_request_395 : decode b_M_request 395 = .ok (.iconst 2, 1) := by decide +kernel
theorem d_M_request_396 : decode b_M_request 396 = .ok (.if_icmp .le 22, 3) := by decide +kernel
theorem d_M_request_399 : decode b_M_request 399 = .ok (.aload_n 0, 1) := by decide +kernel
theorem d_M_request_400 : decode b_M_request 400 = .ok (.iload 5, 2) := by decide +kernel
theorem d_M_request_402 : decode b_M_request 402 = .ok (.iconst 3, 1) := by decide +kernel
theorem d_M_request_403 : decode b_M_request 403 = .ok (.if_icmp .ne 9, 3) := by decide +kernel
theorem d_M_request_406 : decode b_M_request 406 = .ok (.ldc2_w 699, 3) := by decide +kernel
theorem d_M_request_409 : decode b_M_request 409 = .ok (.goto 6, 3) := by decide +kernel
theorem d_M_request_412 : decode b_M_request 412 = .ok (.ldc2_w 697, 3) := by decide +kernel
theorem d_M_request_415 : decode b_M_request 415 = .ok (.invokevirtual 563, 3) := by decide +kernel
theorem d_M_request_418 : decode b_M_request 418 = .ok (.aload_n 0, 1) := by decide +kernel
theorem d_M_request_419 : decode b_M_request 419 = .ok (.iload 5, 2) := by decide +kernel
theorem d_M_request_421 : decode b_M_request 421 = .ok (.invokestatic 934, 3) := by decide +kernel
theorem d_M_request_424 : decode b_M_request 424 = .ok (.i2l, 1) := by decide +kernel
theorem d_M_request_425 : decode b_M_request 425 = .ok (.invokevirtual 563, 3) := by decide +kernel
theorem d_M_request_428 : decode b_M_request 428 = .ok (.aload_n 0, 1) := by decide +kernel
theorem d_M_request_429 : decode b_M_request 429 = .ok (.bipush 48, 2) := by decide +kernel
theorem d_M_request_431 : decode b_M_request 431 = .ok (.iload 12, 2) := by decide +kernel
theorem d_M_request_433 : decode b_M_request 433 = .ok (.invokevirtual 559, 3) := by decide +kernel
theorem d_M_request_436 : decode b_M_request 436 = .ok (.aload_n 0, 1) := by decide +kernel
theorem d_M_request_437 : decode b_M_request 437 = .ok (.bipush 8, 2) := by decide +kernel
theorem d_M_request_439 : decode b_M_request 439 = .ok (.iload 12, 2) := by decide +kernel
theorem d_M_request_441 : decode b_M_request 441 = .ok (.invokevirtual 567, 3) := by decide +kernel
theorem d_M_request_444 : decode b_M_request 444 = .ok (.aload_n 0, 1) := by decide +kernel
theorem d_M_request_445 : decode b_M_request 445 = .ok (.bipush 7, 2) := by decide +kernel
theorem d_M_request_447 : decode b_M_request 447 = .ok (.aload_n 0, 1) := by decide +kernel
theorem d_M_request_448 : decode b_M_request 448 = .ok (.getfield 236, 3) := by decide +kernel
theorem d_M_request_451 : decode b_M_request 451 = .ok (.iload_n 1, 1) := by decide +kernel
theorem d_M_request_452 : decode b_M_request 452 = .ok (.laload, 1) := by decide +kernel
theorem d_M_request_453 : decode b_M_request 453 = .ok (.invokevirtual 588, 3) := by decide +kernel
theorem d_M_request_456 : decode b_M_request 456 = .ok (.iload 7, 2) := by decide +kernel
theorem d_M_request_458 : decode b_M_request 458 = .ok (.ifCond .le 21, 3) := by decide +kernel
theorem d_M_request_461 : decode b_M_request 461 = .ok (.aload_n 0, 1) := by decide +kernel
theorem d_M_request_462 : decode b_M_request 462 = .ok (.bipush 6, 2) := by decide +kernel
theorem d_M_request_464 : decode b_M_request 464 = .ok (.lload 10, 2) := by decide +kernel
theorem d_M_request_466 : decode b_M_request 466 = .ok (.iload 7, 2) := by decide +kernel
theorem d_M_request_468 : decode b_M_request 468 = .ok (.i2l, 1) := by decide +kernel
theorem d_M_request_469 : decode b_M_request 469 = .ok (.ladd, 1) := by decide +kernel
theorem d_M_request_470 : decode b_M_request 470 = .ok (.ldc2_w 937, 3) := by decide +kernel
theorem d_M_request_473 : decode b_M_request 473 = .ok (.invokestatic 823, 3) := by decide +kernel
theorem d_M_request_476 : decode b_M_request 476 = .ok (.invokevirtual 884, 3) := by decide +kernel
theorem d_M_request_479 : decode b_M_request 479 = .ok (.aload_n 0, 1) := by decide +kernel
theorem d_M_request_480 : decode b_M_request 480 = .ok (.iconst 5, 1) := by decide +kernel
theorem d_M_request_481 : decode b_M_request 481 = .ok (.iload 6, 2) := by decide +kernel
theorem d_M_request_483 : decode b_M_request 483 = .ok (.ifCond .ne 7, 3) := by decide +kernel
theorem d_M_request_486 : decode b_M_request 486 = .ok (.lconst 0, 1) := by decide +kernel
theorem d_M_request_487 : decode b_M_request 487 = .ok (.goto 15, 3) := by decide +kernel
theorem d_M_request_490 : decode b_M_request 490 = .ok (.lload 10, 2) := by decide +kernel
theorem d_M_request_492 : decode b_M_request 492 = .ok (.iload 6, 2) := by decide +kernel
theorem d_M_request_494 : decode b_M_request 494 = .ok (.i2l, 1) := by decide +kernel
theorem d_M_request_495 : decode b_M_request 495 = .ok (.ladd, 1) := by decide +kernel
theorem d_M_request_496 : decode b_M_request 496 = .ok (.ldc2_w 937, 3) := by decide +kernel
theorem d_M_request_499 : decode b_M_request 499 = .ok (.invokestatic 823, 3) := by decide +kernel
theorem d_M_request_502 : decode b_M_request 502 = .ok (.invokevirtual 884, 3) := by decide +kernel
theorem d_M_request_505 : decode b_M_request 505 = .ok (.aload_n 0, 1) := by decide +kernel
theorem d_M_request_506 : decode b_M_request 506 = .ok (.iconst 3, 1) := by decide +kernel
theorem d_M_request_507 : decode b_M_request 507 = .ok (.aload_n 0, 1) := by decide +kernel
theorem d_M_request_508 : decode b_M_request 508 = .ok (.getfield 245, 3) := by decide +kernel
theorem d_M_request_511 : decode b_M_request 511 = .ok (.bipush 40, 2) := by decide +kernel
theorem d_M_request_513 : decode b_M_request 513 = .ok (.iload_n 1, 1) := by decide +kernel
theorem d_M_request_514 : decode b_M_request 514 = .ok (.imul, 1) := by decide +kernel
theorem d_M_request_515 : decode b_M_request 515 = .ok (.aload_n 0, 1) := by decide +kernel
theorem d_M_request_516 : decode b_M_request 516 = .ok (.getfield 608, 3) := by decide +kernel
theorem d_M_request_519 : decode b_M_request 519 = .ok (.iconst 2, 1) := by decide +kernel
theorem d_M_request_520 : decode b_M_request 520 = .ok (.invokevirtual 939, 3) := by decide +kernel
theorem d_M_request_523 : decode b_M_request 523 = .ok (.aload_n 0, 1) := by decide +kernel
theorem d_M_request_524 : decode b_M_request 524 = .ok (.iconst 2, 1) := by decide +kernel
theorem d_M_request_525 : decode b_M_request 525 = .ok (.ldc_w 621, 3) := by decide +kernel
theorem d_M_request_528 : decode b_M_request 528 = .ok (.invokevirtual 878, 3) := by decide +kernel
theorem d_M_request_531 : decode b_M_request 531 = .ok (.iload_n 2, 1) := by decide +kernel
theorem d_M_request_532 : decode b_M_request 532 = .ok (.iconst 2, 1) := by decide +kernel
theorem d_M_request_533 : decode b_M_request 533 = .ok (.if_icmp .ge 23, 3) := by decide +kernel
theorem d_M_request_536 : decode b_M_request 536 = .ok (.aload_n 0, 1) := by decide +kernel
theorem d_M_request_537 : decode b_M_request 537 = .ok (.iconst 1, 1) := by decide +kernel
theorem d_M_request_538 : decode b_M_request 538 = .ok (.aload_n 0, 1) := by decide +kernel
theorem d_M_request_539 : decode b_M_request 539 = .ok (.getfield 169, 3) := by decide +kernel
theorem d_M_request_542 : decode b_M_request 542 = .ok (.bipush 40, 2) := by decide +kernel
theorem d_M_request_544 : decode b_M_request 544 = .ok (.iload_n 1, 1) := by decide +kernel
theorem d_M_request_545 : decode b_M_request 545 = .ok (.imul, 1) := by decide +kernel
theorem d_M_request_546 : decode b_M_request 546 = .ok (.aload_n 0, 1) := by decide +kernel
theorem d_M_request_547 : decode b_M_request 547 = .ok (.getfield 172, 3) := by decide +kernel
theorem d_M_request_550 : decode b_M_request 550 = .ok (.iload_n 1, 1) := by decide +kernel
theorem d_M_request_551 : decode b_M_request 551 = .ok (.iaload, 1) := by decide +kernel
theorem d_M_request_552 : decode b_M_request 552 = .ok (.iconst 1, 1) := by decide +kernel
theorem d_M_request_553 : decode b_M_request 553 = .ok (.invokevirtual 939, 3) := by decide +kernel
theorem d_M_request_556 : decode b_M_request 556 = .ok (.aload_n 0, 1) := by decide +kernel
theorem d_M_request_557 : decode b_M_request 557 = .ok (.iconst 0, 1) := by decide +kernel
theorem d_M_request_558 : decode b_M_request 558 = .ok (.iload 4, 2) := by decide +kernel
theorem d_M_request_560 : decode b_M_request 560 = .ok (.invokevirtual 890, 3) := by decide +kernel
theorem d_M_request_563 : decode b_M_request 563 = .ok (.aload_n 0, 1) := by decide +kernel
theorem d_M_request_564 : decode b_M_request 564 = .ok (.bipush 48, 2) := by decide +kernel
theorem d_M_request_566 : decode b_M_request 566 = .ok (.ldc 9, 2) := by decide +kernel
theorem d_M_request_568 : decode b_M_request 568 = .ok (.invokevirtual 559, 3) := by decide +kernel
theorem d_M_request_571 : decode b_M_request 571 = .ok (.ldc 9, 2) := by decide +kernel
theorem d_M_request_573 : decode b_M_request 573 = .ok (.aload_n 0, 1) := by decide +kernel
theorem d_M_request_574 : decode b_M_request 574 = .ok (.getfield 553, 3) := by decide +kernel
theorem d_M_request_577 : decode b_M_request 577 = .ok (.isub, 1) := by decide +kernel
theorem d_M_request_578 : decode b_M_request 578 = .ok (.istore 13, 2) := by decide +kernel
theorem d_M_request_580 : decode b_M_request 580 = .ok (.iconst 0, 1) := by decide +kernel
theorem d_M_request_581 : decode b_M_request 581 = .ok (.istore 14, 2) := by decide +kernel
theorem d_M_request_583 : decode b_M_request 583 = .ok (.iload 14, 2) := by decide +kernel
theorem d_M_request_585 : decode b_M_request 585 = .ok (.iload 13, 2) := by decide +kernel
theorem d_M_request_587 : decode b_M_request 587 = .ok (.if_icmp .ge 32, 3) := by decide +kernel
theorem d_M_request_590 : decode b_M_request 590 = .ok (.aload_n 0, 1) := by decide +kernel
theorem d_M_request_591 : decode b_M_request 591 = .ok (.getfield 10, 3) := by decide +kernel
theorem d_M_request_594 : decode b_M_request 594 = .ok (.sipush 22200, 3) := by decide +kernel
theorem d_M_request_597 : decode b_M_request 597 = .ok (.iload 14, 2) := by decide +kernel
theorem d_M_request_599 : decode b_M_request 599 = .ok (.iadd, 1) := by decide +kernel
theorem d_M_request_600 : decode b_M_request 600 = .ok (.aload_n 0, 1) := by decide +kernel
theorem d_M_request_601 : decode b_M_request 601 = .ok (.getfield 10, 3) := by decide +kernel
theorem d_M_request_604 : decode b_M_request 604 = .ok (.aload_n 0, 1) := by decide +kernel
theorem d_M_request_605 : decode b_M_request 605 = .ok (.getfield 553, 3) := by decide +kernel
theorem d_M_request_608 : decode b_M_request 608 = .ok (.iload 14, 2) := by decide +kernel
theorem d_M_request_610 : decode b_M_request 610 = .ok (.iadd, 1) := by decide +kernel
theorem d_M_request_611 : decode b_M_request 611 = .ok (.baload, 1) := by decide +kernel
theorem d_M_request_612 : decode b_M_request 612 = .ok (.bastore, 1) := by decide +kernel
theorem d_M_request_613 : decode b_M_request 613 = .ok (.iinc 14 1, 3) := by decide +kernel
theorem d_M_request_616 : decode b_M_request 616 = .ok (.goto (-33), 3) := by decide +kernel
theorem d_M_request_619 : decode b_M_request 619 = .ok (.iload 5, 2) := by decide +kernel
theorem d_M_request_621 : decode b_M_request 621 = .ok (.invokestatic 934, 3) := by decide +kernel
theorem d_M_request_624 : decode b_M_request 624 = .ok (.istore 14, 2) := by decide +kernel
theorem d_M_request_626 : decode b_M_request 626 = .ok (.iconst 0, 1) := by decide +kernel
theorem d_M_request_627 : decode b_M_request 627 = .ok (.istore 15, 2) := by decide +kernel
theorem d_M_request_629 : decode b_M_request 629 = .ok (.iload_n 2, 1) := by decide +kernel
theorem d_M_request_630 : decode b_M_request 630 = .ok (.iconst 1, 1) := by decide +kernel
theorem d_M_request_631 : decode b_M_request 631 = .ok (.if_icmp .ne 129, 3) := by decide +kernel
theorem d_M_request_634 : decode b_M_request 634 = .ok (.aload_n 0, 1) := by decide +kernel
theorem d_M_request_635 : decode b_M_request 635 = .ok (.invokevirtual 861, 3) := by decide +kernel
theorem d_M_request_638 : decode b_M_request 638 = .ok (.aload_n 0, 1) := by decide +kernel
theorem d_M_request_639 : decode b_M_request 639 = .ok (.iconst 1, 1) := by decide +kernel
theorem d_M_request_640 : decode b_M_request 640 = .ok (.aload_n 0, 1) := by decide +kernel
theorem d_M_request_641 : decode b_M_request 641 = .ok (.getfield 178, 3) := by decide +kernel
theorem d_M_request_644 : decode b_M_request 644 = .ok (.iload_n 1, 1) := by decide +kernel
theorem d_M_request_645 : decode b_M_request 645 = .ok (.iaload, 1) := by decide +kernel
theorem d_M_request_646 : decode b_M_request 646 = .ok (.ldc_w 644, 3) := by decide +kernel
theorem d_M_request_649 : decode b_M_request 649 = .ok (.irem, 1) := by decide +kernel
theorem d_M_request_650 : decode b_M_request 650 = .ok (.i2l, 1) := by decide +kernel
theorem d_M_request_651 : decode b_M_request 651 = .ok (.invokevirtual 588, 3) := by decide +kernel
theorem d_M_request_654 : decode b_M_request 654 = .ok (.aload_n 0, 1) := by decide +kernel
theorem d_M_request_655 : decode b_M_request 655 = .ok (.iconst 0, 1) := by decide +kernel
theorem d_M_request_656 : decode b_M_request 656 = .ok (.lload 10, 2) := by decide +kernel
theorem d_M_request_658 : decode b_M_request 658 = .ok (.invokevirtual 884, 3) := by decide +kernel
theorem d_M_request_661 : decode b_M_request 661 = .ok (.aload_n 0, 1) := by decide +kernel
theorem d_M_request_662 : decode b_M_request 662 = .ok (.bipush 48, 2) := by decide +kernel
theorem d_M_request_664 : decode b_M_request 664 = .ok (.ldc 9, 2) := by decide +kernel
theorem d_M_request_666 : decode b_M_request 666 = .ok (.invokevirtual 559, 3) := by decide +kernel
theorem d_M_request_669 : decode b_M_request 669 = .ok (.iconst 0, 1) := by decide +kernel
theorem d_M_request_670 : decode b_M_request 670 = .ok (.istore 16, 2) := by decide +kernel
theorem d_M_request_672 : decode b_M_request 672 = .ok (.iload 16, 2) := by decide +kernel
theorem d_M_request_674 : decode b_M_request 674 = .ok (.bipush 32, 2) := by decide +kernel
theorem d_M_request_676 : decode b_M_request 676 = .ok (.if_icmp .ge 37, 3) := by decide +kernel
theorem d_M_request_679 : decode b_M_request 679 = .ok (.aload_n 0, 1) := by decide +kernel
theorem d_M_request_680 : decode b_M_request 680 = .ok (.getfield 131, 3) := by decide +kernel
theorem d_M_request_683 : decode b_M_request 683 = .ok (.iload 16, 2) := by decide +kernel
theorem d_M_request_685 : decode b_M_request 685 = .ok (.aload_n 0, 1) := by decide +kernel
theorem d_M_request_686 : decode b_M_request 686 = .ok (.getfield 181, 3) := by decide +kernel
theorem d_M_request_689 : decode b_M_request 689 = .ok (.bipush 64, 2) := by decide +kernel
theorem d_M_request_691 : decode b_M_request 691 = .ok (.iload_n 1, 1) := by decide +kernel
theorem d_M_request_692 : decode b_M_request 692 = .ok (.imul, 1) := by decide +kernel
theorem d_M_request_693 : decode b_M_request 693 = .ok (.bipush 32, 2) := by decide +kernel
theorem d_M_request_695 : decode b_M_request 695 = .ok (.iload 14, 2) := by decide +kernel
theorem d_M_request_697 : decode b_M_request 697 = .ok (.bipush 17, 2) := by decide +kernel
theorem d_M_request_699 : decode b_M_request 699 = .ok (.isub, 1) := by decide +kernel
theorem d_M_request_700 : decode b_M_request 700 = .ok (.imul, 1) := by decide +kernel
theorem d_M_request_701 : decode b_M_request 701 = .ok (.iadd, 1) := by decide +kernel
theorem d_M_request_702 : decode b_M_request 702 = .ok (.iload 16, 2) := by decide +kernel
theorem d_M_request_704 : decode b_M_request 704 = .ok (.iadd, 1) := by decide +kernel
theorem d_M_request_705 : decode b_M_request 705 = .ok (.baload, 1) := by decide +kernel
theorem d_M_request_706 : decode b_M_request 706 = .ok (.bastore, 1) := by decide +kernel
theorem d_M_request_707 : decode b_M_request 707 = .ok (.iinc 16 1, 3) := by decide +kernel
theorem d_M_request_710 : decode b_M_request 710 = .ok (.goto (-38), 3) := by decide +kernel
theorem d_M_request_713 : decode b_M_request 713 = .ok (.aload_n 0, 1) := by decide +kernel
theorem d_M_request_714 : decode b_M_request 714 = .ok (.aload_n 0, 1) := by decide +kernel
theorem d_M_request_715 : decode b_M_request 715 = .ok (.getfield 131, 3) := by decide +kernel
theorem d_M_request_718 : decode b_M_request 718 = .ok (.iload 14, 2) := by decide +kernel
theorem d_M_request_720 : decode b_M_request 720 = .ok (.iconst 1, 1) := by decide +kernel
theorem d_M_request_721 : decode b_M_request 721 = .ok (.aload_n 0, 1) := by decide +kernel
theorem d_M_request_722 : decode b_M_request 722 = .ok (.getfield 553, 3) := by decide +kernel
theorem d_M_request_725 : decode b_M_request 725 = .ok (.ldc 9, 2) := by decide +kernel
theorem d_M_request_727 : decode b_M_request 727 = .ok (.invokevirtual 867, 3) := by decide +kernel
theorem d_M_request_730 : decode b_M_request 730 = .ok (.aload_n 0, 1) := by decide +kernel
theorem d_M_request_731 : decode b_M_request 731 = .ok (.invokevirtual 861, 3) := by decide +kernel
theorem d_M_request_734 : decode b_M_request 734 = .ok (.aload_n 0, 1) := by decide +kernel
theorem d_M_request_735 : decode b_M_request 735 = .ok (.iload 14, 2) := by decide +kernel
theorem d_M_request_737 : decode b_M_request 737 = .ok (.lconst 0, 1) := by decide +kernel
theorem d_M_request_738 : decode b_M_request 738 = .ok (.invokevirtual 592, 3) := by decide +kernel
theorem d_M_request_741 : decode b_M_request 741 = .ok (.aload_n 0, 1) := by decide +kernel
theorem d_M_request_742 : decode b_M_request 742 = .ok (.invokevirtual 943, 3) := by decide +kernel
theorem d_M_request_745 : decode b_M_request 745 = .ok (.istore 15, 2) := by decide +kernel
theorem d_M_request_747 : decode b_M_request 747 = .ok (.aload_n 0, 1) := by decide +kernel
theorem d_M_request_748 : decode b_M_request 748 = .ok (.getfield 178, 3) := by decide +kernel
theorem d_M_request_751 : decode b_M_request 751 = .ok (.iload_n 1, 1) := by decide +kernel
theorem d_M_request_752 : decode b_M_request 752 = .ok (.dup2, 1) := by decide +kernel
theorem d_M_request_753 : decode b_M_request 753 = .ok (.iaload, 1) := by decide +kernel
theorem d_M_request_754 : decode b_M_request 754 = .ok (.iconst 1, 1) := by decide +kernel
theorem d_M_request_755 : decode b_M_request 755 = .ok (.iadd, 1) := by decide +kernel
theorem d_M_request_756 : decode b_M_request 756 = .ok (.iastore, 1) := by decide +kernel
theorem d_M_request_757 : decode b_M_request 757 = .ok (.goto 177, 3) := by decide +kernel
theorem d_M_request_760 : decode b_M_request 760 = .ok (.iload_n 2, 1) := by decide +kernel
theorem d_M_request_761 : decode b_M_request 761 = .ok (.iconst 2, 1) := by decide +kernel
theorem d_M_request_762 : decode b_M_request 762 = .ok (.if_icmp .ne 172, 3) := by decide +kernel
theorem d_M_request_765 : decode b_M_request 765 = .ok (.iconst 0, 1) := by decide +kernel
theorem d_M_request_766 : decode b_M_request 766 = .ok (.istore 16, 2) := by decide +kernel
theorem d_M_request_768 : decode b_M_request 768 = .ok (.iload 16, 2) := by decide +kernel
theorem d_M_request_770 : decode b_M_request 770 = .ok (.bipush 32, 2) := by decide +kernel
theorem d_M_request_772 : decode b_M_request 772 = .ok (.if_icmp .ge 29, 3) := by decide +kernel
theorem d_M_request_775 : decode b_M_request 775 = .ok (.aload_n 0, 1) := by decide +kernel
theorem d_M_request_776 : decode b_M_request 776 = .ok (.getfield 137, 3) := by decide +kernel
theorem d_M_request_779 : decode b_M_request 779 = .ok (.iload 16, 2) := by decide +kernel
theorem d_M_request_781 : decode b_M_request 781 = .ok (.aload_n 0, 1) := by decide +kernel
theorem d_M_request_782 : decode b_M_request 782 = .ok (.getfield 191, 3) := by decide +kernel
theorem d_M_request_785 : decode b_M_request 785 = .ok (.bipush 32, 2) := by decide +kernel
theorem d_M_request_787 : decode b_M_request 787 = .ok (.iload 9, 2) := by decide +kernel
theorem d_M_request_789 : decode b_M_request 789 = .ok (.imul, 1) := by decide +kernel
theorem d_M_request_790 : decode b_M_request 790 = .ok (.iload 16, 2) := by decide +kernel
theorem d_M_request_792 : decode b_M_request 792 = .ok (.iadd, 1) := by decide +kernel
theorem d_M_request_793 : decode b_M_request 793 = .ok (.baload, 1) := by decide +kernel
theorem d_M_request_794 : decode b_M_request 794 = .ok (.bastore, 1) := by decide +kernel
theorem d_M_request_795 : decode b_M_request 795 = .ok (.iinc 16 1, 3) := by decide +kernel
theorem d_M_request_798 : decode b_M_request 798 = .ok (.goto (-30), 3) := by decide +kernel
theorem d_M_request_801 : decode b_M_request 801 = .ok (.aload_n 0, 1) := by decide +kernel
theorem d_M_request_802 : decode b_M_request 802 = .ok (.aload_n 0, 1) := by decide +kernel
theorem d_M_request_803 : decode b_M_request 803 = .ok (.getfield 137, 3) := by decide +kernel
theorem d_M_request_806 : decode b_M_request 806 = .ok (.aload_n 0, 1) := by decide +kernel
theorem d_M_request_807 : decode b_M_request 807 = .ok (.getfield 200, 3) := by decide +kernel
theorem d_M_request_810 : decode b_M_request 810 = .ok (.iload 9, 2) := by decide +kernel
theorem d_M_request_812 : decode b_M_request 812 = .ok (.iaload, 1) := by decide +kernel
theorem d_M_request_813 : decode b_M_request 813 = .ok (.bipush 6, 2) := by decide +kernel
theorem d_M_request_815 : decode b_M_request 815 = .ok (.sipush 22200, 3) := by decide +kernel
theorem d_M_request_818 : decode b_M_request 818 = .ok (.sipush 22200, 3) := by decide +kernel
theorem d_M_request_821 : decode b_M_request 821 = .ok (.iload 13, 2) := by decide +kernel
theorem d_M_request_823 : decode b_M_request 823 = .ok (.iadd, 1) := by decide +kernel
theorem d_M_request_824 : decode b_M_request 824 = .ok (.invokevirtual 812, 3) := by decide +kernel
theorem d_M_request_827 : decode b_M_request 827 = .ok (.iconst 0, 1) := by decide +kernel
theorem d_M_request_828 : decode b_M_request 828 = .ok (.istore 16, 2) := by decide +kernel
theorem d_M_request_830 : decode b_M_request 830 = .ok (.iload 16, 2) := by decide +kernel
theorem d_M_request_832 : decode b_M_request 832 = .ok (.bipush 12, 2) := by decide +kernel
theorem d_M_request_834 : decode b_M_request 834 = .ok (.if_icmp .ge 23, 3) := by decide +kernel
theorem d_M_request_837 : decode b_M_request 837 = .ok (.aload_n 0, 1) := by decide +kernel
theorem d_M_request_838 : decode b_M_request 838 = .ok (.getfield 287, 3) := by decide +kernel
theorem d_M_request_841 : decode b_M_request 841 = .ok (.iload 16, 2) := by decide +kernel
theorem d_M_request_843 : decode b_M_request 843 = .ok (.aload_n 0, 1) := by decide +kernel
theorem d_M_request_844 : decode b_M_request 844 = .ok (.getfield 35, 3) := by decide +kernel
theorem d_M_request_847 : decode b_M_request 847 = .ok (.iload 16, 2) := by decide +kernel
theorem d_M_request_849 : decode b_M_request 849 = .ok (.baload, 1) := by decide +kernel
theorem d_M_request_850 : decode b_M_request 850 = .ok (.bastore, 1) := by decide +kernel
theorem d_M_request_851 : decode b_M_request 851 = .ok (.iinc 16 1, 3) := by decide +kernel
theorem d_M_request_854 : decode b_M_request 854 = .ok (.goto (-24), 3) := by decide +kernel
theorem d_M_request_857 : decode b_M_request 857 = .ok (.aload_n 0, 1) := by decide +kernel
theorem d_M_request_858 : decode b_M_request 858 = .ok (.invokevirtual 861, 3) := by decide +kernel
theorem d_M_request_861 : decode b_M_request 861 = .ok (.aload_n 0, 1) := by decide +kernel
theorem d_M_request_862 : decode b_M_request 862 = .ok (.bipush 6, 2) := by decide +kernel
theorem d_M_request_864 : decode b_M_request 864 = .ok (.aload_n 0, 1) := by decide +kernel
theorem d_M_request_865 : decode b_M_request 865 = .ok (.getfield 200, 3) := by decide +kernel
theorem d_M_request_868 : decode b_M_request 868 = .ok (.iload 9, 2) := by decide +kernel
theorem d_M_request_870 : decode b_M_request 870 = .ok (.iaload, 1) := by decide +kernel
theorem d_M_request_871 : decode b_M_request 871 = .ok (.aload_n 0, 1) := by decide +kernel
theorem d_M_request_872 : decode b_M_request 872 = .ok (.getfield 143, 3) := by decide +kernel
theorem d_M_request_875 : decode b_M_request 875 = .ok (.invokevirtual 887, 3) := by decide +kernel
theorem d_M_request_878 : decode b_M_request 878 = .ok (.aload_n 0, 1) := by decide +kernel
theorem d_M_request_879 : decode b_M_request 879 = .ok (.iload_n 1, 1) := by decide +kernel
theorem d_M_request_880 : decode b_M_request 880 = .ok (.iload 9, 2) := by decide +kernel
theorem d_M_request_882 : decode b_M_request 882 = .ok (.lload 10, 2) := by decide +kernel
theorem d_M_request_884 : decode b_M_request 884 = .ok (.iconst 1, 1) := by decide +kernel
theorem d_M_request_885 : decode b_M_request 885 = .ok (.invokevirtual 946, 3) := by decide +kernel
theorem d_M_request_888 : decode b_M_request 888 = .ok (.aload_n 0, 1) := by decide +kernel
theorem d_M_request_889 : decode b_M_request 889 = .ok (.aload_n 0, 1) := by decide +kernel
theorem d_M_request_890 : decode b_M_request 890 = .ok (.getfield 137, 3) := by decide +kernel
theorem d_M_request_893 : decode b_M_request 893 = .ok (.aload_n 0, 1) := by decide +kernel
theorem d_M_request_894 : decode b_M_request 894 = .ok (.getfield 200, 3) := by decide +kernel
theorem d_M_request_897 : decode b_M_request 897 = .ok (.iload 9, 2) := by decide +kernel
theorem d_M_request_899 : decode b_M_request 899 = .ok (.iaload, 1) := by decide +kernel
theorem d_M_request_900 : decode b_M_request 900 = .ok (.bipush 7, 2) := by decide +kernel
theorem d_M_request_902 : decode b_M_request 902 = .ok (.aload_n 0, 1) := by decide +kernel
theorem d_M_request_903 : decode b_M_request 903 = .ok (.getfield 553, 3) := by decide +kernel
theorem d_M_request_906 : decode b_M_request 906 = .ok (.ldc 9, 2) := by decide +kernel
theorem d_M_request_908 : decode b_M_request 908 = .ok (.invokevirtual 867, 3) := by decide +kernel
theorem d_M_request_911 : decode b_M_request 911 = .ok (.aload_n 0, 1) := by decide +kernel
theorem d_M_request_912 : decode b_M_request 912 = .ok (.iload 9, 2) := by decide +kernel
theorem d_M_request_914 : decode b_M_request 914 = .ok (.iconst 0, 1) := by decide +kernel
theorem d_M_request_915 : decode b_M_request 915 = .ok (.invokevirtual 950, 3) := by decide +kernel
theorem d_M_request_918 : decode b_M_request 918 = .ok (.aload_n 0, 1) := by decide +kernel
theorem d_M_request_919 : decode b_M_request 919 = .ok (.invokevirtual 943, 3) := by decide +kernel
theorem d_M_request_922 : decode b_M_request 922 = .ok (.istore 15, 2) := by decide +kernel
theorem d_M_request_924 : decode b_M_request 924 = .ok (.aload_n 0, 1) := by decide +kernel
theorem d_M_request_925 : decode b_M_request 925 = .ok (.getfield 178, 3) := by decide +kernel
theorem d_M_request_928 : decode b_M_request 928 = .ok (.iload_n 1, 1) := by decide +kernel
theorem d_M_request_929 : decode b_M_request 929 = .ok (.dup2, 1) := by decide +kernel
theorem d_M_request_930 : decode b_M_request 930 = .ok (.iaload, 1) := by decide +kernel
theorem d_M_request_931 : decode b_M_request 931 = .ok (.iconst 1, 1) := by decide +kernel
theorem d_M_request_932 : decode b_M_request 932 = .ok (.iadd, 1) := by decide +kernel
theorem d_M_request_933 : decode b_M_request 933 = .ok (.iastore, 1) := by decide +kernel
theorem d_M_request_934 : decode b_M_request 934 = .ok (.aload_n 0, 1) := by decide +kernel
theorem d_M_request_935 : decode b_M_request 935 = .ok (.invokevirtual 861, 3) := by decide +kernel
theorem d_M_request_938 : decode b_M_request 938 = .ok (.aload_n 0, 1) := by decide +kernel
theorem d_M_request_939 : decode b_M_request 939 = .ok (.iconst 4, 1) := by decide +kernel
theorem d_M_request_940 : decode b_M_request 940 = .ok (.sipush 22200, 3) := by decide +kernel
theorem d_M_request_943 : decode b_M_request 943 = .ok (.sipush 22200, 3) := by decide +kernel
theorem d_M_request_946 : decode b_M_request 946 = .ok (.iload 13, 2) := by decide +kernel
theorem d_M_request_948 : decode b_M_request 948 = .ok (.iadd, 1) := by decide +kernel
theorem d_M_request_949 : decode b_M_request 949 = .ok (.invokevirtual 874, 3) := by decide +kernel
theorem d_M_request_952 : decode b_M_request 952 = .ok (.iload_n 2, 1) := by decide +kernel
theorem d_M_request_953 : decode b_M_request 953 = .ok (.ifCond .le 82, 3) := by decide +kernel
theorem d_M_request_956 : decode b_M_request 956 = .ok (.aload_n 0, 1) := by decide +kernel
theorem d_M_request_957 : decode b_M_request 957 = .ok (.getfield 553, 3) := by decide +kernel
theorem d_M_request_960 : decode b_M_request 960 = .ok (.istore 16, 2) := by decide +kernel
theorem d_M_request_962 : decode b_M_request 962 = .ok (.aload_n 0, 1) := by decide +kernel
theorem d_M_request_963 : decode b_M_request 963 = .ok (.getfield 553, 3) := by decide +kernel
theorem d_M_request_966 : decode b_M_request 966 = .ok (.istore 17, 2) := by decide +kernel
theorem d_M_request_968 : decode b_M_request 968 = .ok (.aload_n 0, 1) := by decide +kernel
theorem d_M_request_969 : decode b_M_request 969 = .ok (.aload_n 0, 1) := by decide +kernel
theorem d_M_request_970 : decode b_M_request 970 = .ok (.getfield 10, 3) := by decide +kernel
theorem d_M_request_973 : decode b_M_request 973 = .ok (.sipush 13200, 3) := by decide +kernel
theorem d_M_request_976 : decode b_M_request 976 = .ok (.iload 15, 2) := by decide +kernel
theorem d_M_request_978 : decode b_M_request 978 = .ok (.invokevirtual 574, 3) := by decide +kernel
theorem d_M_request_981 : decode b_M_request 981 = .ok (.aload_n 0, 1) := by decide +kernel
theorem d_M_request_982 : decode b_M_request 982 = .ok (.iconst 4, 1) := by decide +kernel
theorem d_M_request_983 : decode b_M_request 983 = .ok (.iload 17, 2) := by decide +kernel
theorem d_M_request_985 : decode b_M_request 985 = .ok (.invokevirtual 559, 3) := by decide +kernel
theorem d_M_request_988 : decode b_M_request 988 = .ok (.aload_n 0, 1) := by decide +kernel
theorem d_M_request_989 : decode b_M_request 989 = .ok (.iconst 2, 1) := by decide +kernel
theorem d_M_request_990 : decode b_M_request 990 = .ok (.iload 17, 2) := by decide +kernel
theorem d_M_request_992 : decode b_M_request 992 = .ok (.invokevirtual 567, 3) := by decide +kernel
theorem d_M_request_995 : decode b_M_request 995 = .ok (.aload_n 0, 1) := by decide +kernel
theorem d_M_request_996 : decode b_M_request 996 = .ok (.iconst 1, 1) := by decide +kernel
theorem d_M_request_997 : decode b_M_request 997 = .ok (.iload_n 2, 1) := by decide +kernel
theorem d_M_request_998 : decode b_M_request 998 = .ok (.iconst 1, 1) := by decide +kernel
theorem d_M_request_999 : decode b_M_request 999 = .ok (.if_icmp .ne 9, 3) := by decide +kernel
theorem d_M_request_1002 : decode b_M_request 1002 = .ok (.ldc2_w 810, 3) := by decide +kernel
theorem d_M_request_1005 : decode b_M_request 1005 = .ok (.goto 4, 3) := by decide +kernel
theorem d_M_request_1008 : decode b_M_request 1008 = .ok (.lconst 1, 1) := by decide +kernel
theorem d_M_request_1009 : decode b_M_request 1009 = .ok (.invokevirtual 588, 3) := by decide +kernel
theorem d_M_request_1012 : decode b_M_request 1012 = .ok (.aload_n 0, 1) := by decide +kernel
theorem d_M_request_1013 : decode b_M_request 1013 = .ok (.bipush 48, 2) := by decide +kernel
theorem d_M_request_1015 : decode b_M_request 1015 = .ok (.iload 16, 2) := by decide +kernel
theorem d_M_request_1017 : decode b_M_request 1017 = .ok (.invokevirtual 559, 3) := by decide +kernel
theorem d_M_request_1020 : decode b_M_request 1020 = .ok (.aload_n 0, 1) := by decide +kernel
theorem d_M_request_1021 : decode b_M_request 1021 = .ok (.bipush 48, 2) := by decide +kernel
theorem d_M_request_1023 : decode b_M_request 1023 = .ok (.iload 16, 2) := by decide +kernel
theorem d_M_request_1025 : decode b_M_request 1025 = .ok (.invokevirtual 559, 3) := by decide +kernel
theorem d_M_request_1028 : decode b_M_request 1028 = .ok (.aload_n 0, 1) := by decide +kernel
theorem d_M_request_1029 : decode b_M_request 1029 = .ok (.iconst 3, 1) := by decide +kernel
theorem d_M_request_1030 : decode b_M_request 1030 = .ok (.iload 16, 2) := by decide +kernel
theorem d_M_request_1032 : decode b_M_request 1032 = .ok (.invokevirtual 567, 3) := by decide +kernel
theorem d_M_request_1035 : decode b_M_request 1035 = .ok (.aload_n 0, 1) := by decide +kernel
theorem d_M_request_1036 : decode b_M_request 1036 = .ok (.iconst 2, 1) := by decide +kernel
theorem d_M_request_1037 : decode b_M_request 1037 = .ok (.iload_n 2, 1) := by decide +kernel
theorem d_M_request_1038 : decode b_M_request 1038 = .ok (.iconst 2, 1) := by decide +kernel
theorem d_M_request_1039 : decode b_M_request 1039 = .ok (.if_icmp .ne 9, 3) := by decide +kernel
theorem d_M_request_1042 : decode b_M_request 1042 = .ok (.ldc2_w 673, 3) := by decide +kernel
theorem d_M_request_1045 : decode b_M_request 1045 = .ok (.goto 6, 3) := by decide +kernel
theorem d_M_request_1048 : decode b_M_request 1048 = .ok (.ldc2_w 671, 3) := by decide +kernel
theorem d_M_request_1051 : decode b_M_request 1051 = .ok (.invokevirtual 588, 3) := by decide +kernel
theorem d_M_request_1054 : decode b_M_request 1054 = .ok (.aload_n 0, 1) := by decide +kernel
theorem d_M_request_1055 : decode b_M_request 1055 = .ok (.iconst 1, 1) := by decide +kernel
theorem d_M_request_1056 : decode b_M_request 1056 = .ok (.ldc2_w 669, 3) := by decide +kernel
theorem d_M_request_1059 : decode b_M_request 1059 = .ok (.invokevirtual 588, 3) := by decide +kernel
theorem d_M_request_1062 : decode b_M_request 1062 = .ok (.aload_n 0, 1) := by decide +kernel
theorem d_M_request_1063 : decode b_M_request 1063 = .ok (.bipush 48, 2) := by decide +kernel
theorem d_M_request_1065 : decode b_M_request 1065 = .ok (.ldc 9, 2) := by decide +kernel
theorem d_M_request_1067 : decode b_M_request 1067 = .ok (.invokevirtual 559, 3) := by decide +kernel
theorem d_M_request_1070 : decode b_M_request 1070 = .ok (.aload_n 0, 1) := by decide +kernel
theorem d_M_request_1071 : decode b_M_request 1071 = .ok (.iload_n 2, 1) := by decide +kernel
theorem d_M_request_1072 : decode b_M_request 1072 = .ok (.iconst 2, 1) := by decide +kernel
theorem d_M_request_1073 : decode b_M_request 1073 = .ok (.if_icmp .ne 8, 3) := by decide +kernel
theorem d_M_request_1076 : decode b_M_request 1076 = .ok (.bipush 108, 2) := by decide +kernel
theorem d_M_request_1078 : decode b_M_request 1078 = .ok (.goto 5, 3) := by decide +kernel
theorem d_M_request_1081 : decode b_M_request 1081 = .ok (.bipush 106, 2) := by decide +kernel
theorem d_M_request_1083 : decode b_M_request 1083 = .ok (.ldc 9, 2) := by decide +kernel
theorem d_M_request_1085 : decode b_M_request 1085 = .ok (.invokevirtual 559, 3) := by decide +kernel
theorem d_M_request_1088 : decode b_M_request 1088 = .ok (.aload_n 0, 1) := by decide +kernel
theorem d_M_request_1089 : decode b_M_request 1089 = .ok (.invokevirtual 905, 3) := by decide +kernel
theorem d_M_request_1092 : decode b_M_request 1092 = .ok (.aload_n 0, 1) := by decide +kernel
theorem d_M_request_1093 : decode b_M_request 1093 = .ok (.getfield 348, 3) := by decide +kernel
theorem d_M_request_1096 : decode b_M_request 1096 = .ok (.ireturn, 1) := by decide +kernel
