abbrev b_M_lesser : ByteArray := prog_14_method_116_code
def y_M_lesser : MethodName := ⟨R_M, "lesser", "(JJ)J"⟩
abbrev k_M_lesser : Cond := .code y_M_lesser b_M_lesser 4 (some .long)
theorem ki_M_lesser : k_M_lesser ∈ lw_tg := in_t 2541 (by decide +kernel)
theorem ks_M_lesser : Cond.static y_M_lesser ∈ lw_tg := in_t 2540 (by decide +kernel)
theorem kl_M_lesser : Cond.methodLink R_M 823 y_M_lesser ∈ lw_tg := in_t 2539 (by decide +kernel)
theorem hd_M_lesser : y_M_lesser.cls = R_M ∧ y_M_lesser.cls ≠ "java/lang/invoke/MethodHandle" ∧ y_M_lesser.cls ≠ "java/lang/invoke/VarHandle" ∧ (parseMethodDescriptor y_M_lesser.desc).map (fun d => d.parameters.length) = some 2 := by decide +kernel
theorem d_M_lesser_0 : decode b_M_lesser 0 = .ok (.lload_n 0, 1) := by decide +kernel
theorem d_M_lesser_1 : decode b_M_lesser 1 = .ok (.lload_n 2, 1) := by decide +kernel
theorem d_M_lesser_2 : decode b_M_lesser 2 = .ok (.lcmp, 1) := by decide +kernel
theorem d_M_lesser_3 : decode b_M_lesser 3 = .ok (.ifCond .ge 7, 3) := by decide +kernel
theorem d_M_lesser_6 : decode b_M_lesser 6 = .ok (.lload_n 0, 1) := by decide +kernel
theorem d_M_lesser_7 : decode b_M_lesser 7 = .ok (.goto 4, 3) := by decide +kernel
theorem d_M_lesser_10 : decode b_M_lesser 10 = .ok (.lload_n 2, 1) := by decide +kernel
theorem d_M_lesser_11 : decode b_M_lesser 11 = .ok (.lreturn, 1) := by decide +kernel
abbrev b_M_both : ByteArray := prog_14_method_117_code
def y_M_both : MethodName := ⟨R_M, "both", "(II)Z"⟩
abbrev k_M_both : Cond := .code y_M_both b_M_both 3 (some .boolean)
theorem ki_M_both : k_M_both ∈ lw_tg := in_t 2549 (by decide +kernel)
theorem ks_M_both : Cond.instanceMethod y_M_both ∈ lw_tg := in_t 2548 (by decide +kernel)
theorem kx_M_both : Cond.selects R_M y_M_both y_M_both ∈ lw_tg := List.mem_filter.mpr ⟨List.mem_append_left _ (List.mem_of_getElem? (i := 130) (by decide +kernel)), rfl⟩
theorem kl_M_both : Cond.methodLink R_M 833 y_M_both ∈ lw_tg := in_t 2546 (by decide +kernel)
theorem hd_M_both : y_M_both.cls = R_M ∧ y_M_both.cls ≠ "java/lang/invoke/MethodHandle" ∧ y_M_both.cls ≠ "java/lang/invoke/VarHandle" ∧ (parseMethodDescriptor y_M_both.desc).map (fun d => d.parameters.length) = some 2 := by decide +kernel
theorem d_M_both_0 : decode b_M_both 0 = .ok (.aload_n 0, 1) := by decide +kernel
theorem d_M_both_1 : decode b_M_both 1 = .ok (.aload_n 0, 1) := by decide +kernel
theorem d_M_both_2 : decode b_M_both 2 = .ok (.getfield 713, 3) := by decide +kernel
theorem d_M_both_5 : decode b_M_both 5 = .ok (.iload_n 1, 1) := by decide +kernel
theorem d_M_both_6 : decode b_M_both 6 = .ok (.invokevirtual 716, 3) := by decide +kernel
theorem d_M_both_9 : decode b_M_both 9 = .ok (.ifCond .eq 43, 3) := by decide +kernel
theorem d_M_both_12 : decode b_M_both 12 = .ok (.aload_n 0, 1) := by decide +kernel
theorem d_M_both_13 : decode b_M_both 13 = .ok (.getfield 660, 3) := by decide +kernel
theorem d_M_both_16 : decode b_M_both 16 = .ok (.ifCond .eq 18, 3) := by decide +kernel
theorem d_M_both_19 : decode b_M_both 19 = .ok (.aload_n 0, 1) := by decide +kernel
theorem d_M_both_20 : decode b_M_both 20 = .ok (.aload_n 0, 1) := by decide +kernel
theorem d_M_both_21 : decode b_M_both 21 = .ok (.getfield 722, 3) := by decide +kernel
theorem d_M_both_24 : decode b_M_both 24 = .ok (.iload_n 1, 1) := by decide +kernel
theorem d_M_both_25 : decode b_M_both 25 = .ok (.invokevirtual 716, 3) := by decide +kernel
theorem d_M_both_28 : decode b_M_both 28 = .ok (.ifCond .eq 24, 3) := by decide +kernel
theorem d_M_both_31 : decode b_M_both 31 = .ok (.goto 17, 3) := by decide +kernel
theorem d_M_both_34 : decode b_M_both 34 = .ok (.aload_n 0, 1) := by decide +kernel
theorem d_M_both_35 : decode b_M_both 35 = .ok (.aload_n 0, 1) := by decide +kernel
theorem d_M_both_36 : decode b_M_both 36 = .ok (.iconst 4, 1) := by decide +kernel
theorem d_M_both_37 : decode b_M_both 37 = .ok (.iconst 0, 1) := by decide +kernel
theorem d_M_both_38 : decode b_M_both 38 = .ok (.invokevirtual 704, 3) := by decide +kernel
theorem d_M_both_41 : decode b_M_both 41 = .ok (.iload_n 2, 1) := by decide +kernel
theorem d_M_both_42 : decode b_M_both 42 = .ok (.invokevirtual 820, 3) := by decide +kernel
theorem d_M_both_45 : decode b_M_both 45 = .ok (.ifCond .eq 7, 3) := by decide +kernel
theorem d_M_both_48 : decode b_M_both 48 = .ok (.iconst 1, 1) := by decide +kernel
theorem d_M_both_49 : decode b_M_both 49 = .ok (.goto 4, 3) := by decide +kernel
theorem d_M_both_52 : decode b_M_both 52 = .ok (.iconst 0, 1) := by decide +kernel
theorem d_M_both_53 : decode b_M_both 53 = .ok (.ireturn, 1) := by decide +kernel
abbrev b_M_issued : ByteArray := prog_14_method_118_code
def y_M_issued : MethodName := ⟨R_M, "issued", "()I"⟩
abbrev k_M_issued : Cond := .code y_M_issued b_M_issued 15 (some .int)
theorem ki_M_issued : k_M_issued ∈ lw_tg := List.mem_filter.mpr ⟨List.mem_append_right _ (List.mem_append_right _ (List.mem_append_right _ (List.mem_append_right _ (List.mem_append_right _ (List.mem_append_right _ (List.mem_append_right _ (List.mem_append_right _ (List.mem_append_right _ (List.mem_append_right _ (List.mem_append_right _ (List.mem_append_left _ (List.mem_of_getElem? (i := 134) rfl)))))))))))), rfl⟩
theorem ks_M_issued : Cond.instanceMethod y_M_issued ∈ lw_tg := in_t 2533 (by decide +kernel)
theorem kx_M_issued : Cond.selects R_M y_M_issued y_M_issued ∈ lw_tg := List.mem_filter.mpr ⟨List.mem_append_left _ (List.mem_of_getElem? (i := 127) (by decide +kernel)), rfl⟩
theorem kl_M_issued : Cond.methodLink R_M 746 y_M_issued ∈ lw_tg := in_t 2531 (by decide +kernel)
theorem hd_M_issued : y_M_issued.cls = R_M ∧ y_M_issued.cls ≠ "java/lang/invoke/MethodHandle" ∧ y_M_issued.cls ≠ "java/lang/invoke/VarHandle" ∧ (parseMethodDescriptor y_M_issued.desc).map (fun d => d.parameters.length) = some 0 := by decide +kernel
theorem d_M_issued_0 : decode b_M_issued 0 = .ok (.aload_n 0, 1) := by decide +kernel
theorem d_M_issued_1 : decode b_M_issued 1 = .ok (.iconst 1, 1) := by decide +kernel
theorem d_M_issued_2 : decode b_M_issued 2 = .ok (.iconst 0, 1) := by decide +kernel
theorem d_M_issued_3 : decode b_M_issued 3 = .ok (.invokevirtual 704, 3) := by decide +kernel
theorem d_M_issued_6 : decode b_M_issued 6 = .ok (.istore_n 1, 1) := by decide +kernel
theorem d_M_issued_7 : decode b_M_issued 7 = .ok (.aload_n 0, 1) := by decide +kernel
theorem d_M_issued_8 : decode b_M_issued 8 = .ok (.getfield 660, 3) := by decide +kernel
theorem d_M_issued_11 : decode b_M_issued 11 = .ok (.ifCond .ne 17, 3) := by decide +kernel
theorem d_M_issued_14 : decode b_M_issued 14 = .ok (.aload_n 0, 1) := by decide +kernel
theorem d_M_issued_15 : decode b_M_issued 15 = .ok (.iload_n 1, 1) := by decide +kernel
theorem d_M_issued_16 : decode b_M_issued 16 = .ok (.bipush 30, 2) := by decide +kernel
theorem d_M_issued_18 : decode b_M_issued 18 = .ok (.invokevirtual 820, 3) := by decide +kernel
theorem d_M_issued_21 : decode b_M_issued 21 = .ok (.ifCond .eq 7, 3) := by decide +kernel
theorem d_M_issued_24 : decode b_M_issued 24 = .ok (.iconst 1, 1) := by decide +kernel
theorem d_M_issued_25 : decode b_M_issued 25 = .ok (.goto 4, 3) := by decide +kernel
theorem d_M_issued_28 : decode b_M_issued 28 = .ok (.iconst 0, 1) := by decide +kernel
theorem d_M_issued_29 : decode b_M_issued 29 = .ok (.istore_n 2, 1) := by decide +kernel
theorem d_M_issued_30 : decode b_M_issued 30 = .ok (.aload_n 0, 1) := by decide +kernel
theorem d_M_issued_31 : decode b_M_issued 31 = .ok (.getfield 113, 3) := by decide +kernel
theorem d_M_issued_34 : decode b_M_issued 34 = .ok (.aload_n 0, 1) := by decide +kernel
theorem d_M_issued_35 : decode b_M_issued 35 = .ok (.getfield 722, 3) := by decide +kernel
theorem d_M_issued_38 : decode b_M_issued 38 = .ok (.iaload, 1) := by decide +kernel
theorem d_M_issued_39 : decode b_M_issued 39 = .ok (.i2l, 1) := by decide +kernel
theorem d_M_issued_40 : decode b_M_issued 40 = .ok (.aload_n 0, 1) := by decide +kernel
theorem d_M_issued_41 : decode b_M_issued 41 = .ok (.getfield 113, 3) := by decide +kernel
theorem d_M_issued_44 : decode b_M_issued 44 = .ok (.aload_n 0, 1) := by decide +kernel
theorem d_M_issued_45 : decode b_M_issued 45 = .ok (.getfield 713, 3) := by decide +kernel
theorem d_M_issued_48 : decode b_M_issued 48 = .ok (.iaload, 1) := by decide +kernel
theorem d_M_issued_49 : decode b_M_issued 49 = .ok (.i2l, 1) := by decide +kernel
theorem d_M_issued_50 : decode b_M_issued 50 = .ok (.invokestatic 823, 3) := by decide +kernel
theorem d_M_issued_53 : decode b_M_issued 53 = .ok (.lstore_n 3, 1) := by decide +kernel
theorem d_M_issued_54 : decode b_M_issued 54 = .ok (.aload_n 0, 1) := by decide +kernel
theorem d_M_issued_55 : decode b_M_issued 55 = .ok (.getfield 116, 3) := by decide +kernel
theorem d_M_issued_58 : decode b_M_issued 58 = .ok (.aload_n 0, 1) := by decide +kernel
theorem d_M_issued_59 : decode b_M_issued 59 = .ok (.getfield 722, 3) := by decide +kernel
theorem d_M_issued_62 : decode b_M_issued 62 = .ok (.iaload, 1) := by decide +kernel
theorem d_M_issued_63 : decode b_M_issued 63 = .ok (.i2l, 1) := by decide +kernel
theorem d_M_issued_64 : decode b_M_issued 64 = .ok (.aload_n 0, 1) := by decide +kernel
theorem d_M_issued_65 : decode b_M_issued 65 = .ok (.getfield 116, 3) := by decide +kernel
theorem d_M_issued_68 : decode b_M_issued 68 = .ok (.aload_n 0, 1) := by decide +kernel
theorem d_M_issued_69 : decode b_M_issued 69 = .ok (.getfield 713, 3) := by decide +kernel
theorem d_M_issued_72 : decode b_M_issued 72 = .ok (.iaload, 1) := by decide +kernel
theorem d_M_issued_73 : decode b_M_issued 73 = .ok (.i2l, 1) := by decide +kernel
theorem d_M_issued_74 : decode b_M_issued 74 = .ok (.invokestatic 823, 3) := by decide +kernel
theorem d_M_issued_77 : decode b_M_issued 77 = .ok (.lstore 5, 2) := by decide +kernel
theorem d_M_issued_79 : decode b_M_issued 79 = .ok (.aload_n 0, 1) := by decide +kernel
theorem d_M_issued_80 : decode b_M_issued 80 = .ok (.iconst 1, 1) := by decide +kernel
theorem d_M_issued_81 : decode b_M_issued 81 = .ok (.iconst 5, 1) := by decide +kernel
theorem d_M_issued_82 : decode b_M_issued 82 = .ok (.invokevirtual 731, 3) := by decide +kernel
theorem d_M_issued_85 : decode b_M_issued 85 = .ok (.lstore 7, 2) := by decide +kernel
theorem d_M_issued_87 : decode b_M_issued 87 = .ok (.aload_n 0, 1) := by decide +kernel
theorem d_M_issued_88 : decode b_M_issued 88 = .ok (.aload_n 0, 1) := by decide +kernel
theorem d_M_issued_89 : decode b_M_issued 89 = .ok (.getfield 18, 3) := by decide +kernel
theorem d_M_issued_92 : decode b_M_issued 92 = .ok (.i2l, 1) := by decide +kernel
theorem d_M_issued_93 : decode b_M_issued 93 = .ok (.lload_n 3, 1) := by decide +kernel
theorem d_M_issued_94 : decode b_M_issued 94 = .ok (.ladd, 1) := by decide +kernel
theorem d_M_issued_95 : decode b_M_issued 95 = .ok (.putfield 827, 3) := by decide +kernel
theorem d_M_issued_98 : decode b_M_issued 98 = .ok (.lload 7, 2) := by decide +kernel
theorem d_M_issued_100 : decode b_M_issued 100 = .ok (.lconst 0, 1) := by decide +kernel
theorem d_M_issued_101 : decode b_M_issued 101 = .ok (.lcmp, 1) := by decide +kernel
theorem d_M_issued_102 : decode b_M_issued 102 = .ok (.ifCond .eq 16, 3) := by decide +kernel
theorem d_M_issued_105 : decode b_M_issued 105 = .ok (.aload_n 0, 1) := by decide +kernel
theorem d_M_issued_106 : decode b_M_issued 106 = .ok (.aload_n 0, 1) := by decide +kernel
theorem d_M_issued_107 : decode b_M_issued 107 = .ok (.getfield 827, 3) := by decide +kernel
theorem d_M_issued_110 : decode b_M_issued 110 = .ok (.lload 7, 2) := by decide +kernel
theorem d_M_issued_112 : decode b_M_issued 112 = .ok (.invokestatic 823, 3) := by decide +kernel
theorem d_M_issued_115 : decode b_M_issued 115 = .ok (.putfield 827, 3) := by decide +kernel
theorem d_M_issued_118 : decode b_M_issued 118 = .ok (.aload_n 0, 1) := by decide +kernel
theorem d_M_issued_119 : decode b_M_issued 119 = .ok (.getfield 660, 3) := by decide +kernel
theorem d_M_issued_122 : decode b_M_issued 122 = .ok (.ifCond .ne 21, 3) := by decide +kernel
theorem d_M_issued_125 : decode b_M_issued 125 = .ok (.aload_n 0, 1) := by decide +kernel
theorem d_M_issued_126 : decode b_M_issued 126 = .ok (.aload_n 0, 1) := by decide +kernel
theorem d_M_issued_127 : decode b_M_issued 127 = .ok (.getfield 827, 3) := by decide +kernel
theorem d_M_issued_130 : decode b_M_issued 130 = .ok (.aload_n 0, 1) := by decide +kernel
theorem d_M_issued_131 : decode b_M_issued 131 = .ok (.iconst 4, 1) := by decide +kernel
theorem d_M_issued_132 : decode b_M_issued 132 = .ok (.bipush 7, 2) := by decide +kernel
theorem d_M_issued_134 : decode b_M_issued 134 = .ok (.invokevirtual 731, 3) := by decide +kernel
theorem d_M_issued_137 : decode b_M_issued 137 = .ok (.invokestatic 823, 3) := by decide +kernel
theorem d_M_issued_140 : decode b_M_issued 140 = .ok (.putfield 827, 3) := by decide +kernel
theorem d_M_issued_143 : decode b_M_issued 143 = .ok (.iload_n 2, 1) := by decide +kernel
theorem d_M_issued_144 : decode b_M_issued 144 = .ok (.ifCond .eq 39, 3) := by decide +kernel
theorem d_M_issued_147 : decode b_M_issued 147 = .ok (.aload_n 0, 1) := by decide +kernel
theorem d_M_issued_148 : decode b_M_issued 148 = .ok (.aload_n 0, 1) := by decide +kernel
theorem d_M_issued_149 : decode b_M_issued 149 = .ok (.getfield 18, 3) := by decide +kernel
theorem d_M_issued_152 : decode b_M_issued 152 = .ok (.i2l, 1) := by decide +kernel
theorem d_M_issued_153 : decode b_M_issued 153 = .ok (.aload_n 0, 1) := by decide +kernel
theorem d_M_issued_154 : decode b_M_issued 154 = .ok (.iconst 4, 1) := by decide +kernel
theorem d_M_issued_155 : decode b_M_issued 155 = .ok (.bipush 7, 2) := by decide +kernel
theorem d_M_issued_157 : decode b_M_issued 157 = .ok (.invokevirtual 731, 3) := by decide +kernel
theorem d_M_issued_160 : decode b_M_issued 160 = .ok (.ladd, 1) := by decide +kernel
theorem d_M_issued_161 : decode b_M_issued 161 = .ok (.aload_n 0, 1) := by decide +kernel
theorem d_M_issued_162 : decode b_M_issued 162 = .ok (.iconst 4, 1) := by decide +kernel
theorem d_M_issued_163 : decode b_M_issued 163 = .ok (.bipush 6, 2) := by decide +kernel
theorem d_M_issued_165 : decode b_M_issued 165 = .ok (.iconst 5, 1) := by decide +kernel
theorem d_M_issued_166 : decode b_M_issued 166 = .ok (.invokevirtual 816, 3) := by decide +kernel
theorem d_M_issued_169 : decode b_M_issued 169 = .ok (.lsub, 1) := by decide +kernel
theorem d_M_issued_170 : decode b_M_issued 170 = .ok (.aload_n 0, 1) := by decide +kernel
theorem d_M_issued_171 : decode b_M_issued 171 = .ok (.iconst 4, 1) := by decide +kernel
theorem d_M_issued_172 : decode b_M_issued 172 = .ok (.bipush 8, 2) := by decide +kernel
theorem d_M_issued_174 : decode b_M_issued 174 = .ok (.invokevirtual 731, 3) := by decide +kernel
theorem d_M_issued_177 : decode b_M_issued 177 = .ok (.invokestatic 823, 3) := by decide +kernel
theorem d_M_issued_180 : decode b_M_issued 180 = .ok (.putfield 827, 3) := by decide +kernel
theorem d_M_issued_183 : decode b_M_issued 183 = .ok (.aload_n 0, 1) := by decide +kernel
theorem d_M_issued_184 : decode b_M_issued 184 = .ok (.getfield 827, 3) := by decide +kernel
theorem d_M_issued_187 : decode b_M_issued 187 = .ok (.aload_n 0, 1) := by decide +kernel
theorem d_M_issued_188 : decode b_M_issued 188 = .ok (.getfield 18, 3) := by decide +kernel
theorem d_M_issued_191 : decode b_M_issued 191 = .ok (.i2l, 1) := by decide +kernel
theorem d_M_issued_192 : decode b_M_issued 192 = .ok (.lcmp, 1) := by decide +kernel
theorem d_M_issued_193 : decode b_M_issued 193 = .ok (.ifCond .gt 6, 3) := by decide +kernel
theorem d_M_issued_196 : decode b_M_issued 196 = .ok (.bipush 11, 2) := by decide +kernel
theorem d_M_issued_198 : decode b_M_issued 198 = .ok (.ireturn, 1) := by decide +kernel
theorem d_M_issued_199 : decode b_M_issued 199 = .ok (.aload_n 0, 1) := by decide +kernel
theorem d_M_issued_200 : decode b_M_issued 200 = .ok (.iconst 0, 1) := by decide +kernel
theorem d_M_issued_201 : decode b_M_issued 201 = .ok (.putfield 830, 3) := by decide +kernel
theorem d_M_issued_204 : decode b_M_issued 204 = .ok (.aload_n 0, 1) := by decide +kernel
theorem d_M_issued_205 : decode b_M_issued 205 = .ok (.iload_n 1, 1) := by decide +kernel
theorem d_M_issued_206 : decode b_M_issued 206 = .ok (.bipush 27, 2) := by decide +kernel
theorem d_M_issued_208 : decode b_M_issued 208 = .ok (.invokevirtual 820, 3) := by decide +kernel
theorem d_M_issued_211 : decode b_M_issued 211 = .ok (.ifCond .eq 24, 3) := by decide +kernel
theorem d_M_issued_214 : decode b_M_issued 214 = .ok (.lload 7, 2) := by decide +kernel
theorem d_M_issued_216 : decode b_M_issued 216 = .ok (.lconst 0, 1) := by decide +kernel
theorem d_M_issued_217 : decode b_M_issued 217 = .ok (.lcmp, 1) := by decide +kernel
theorem d_M_issued_218 : decode b_M_issued 218 = .ok (.ifCond .eq 13, 3) := by decide +kernel
theorem d_M_issued_221 : decode b_M_issued 221 = .ok (.lload 7, 2) := by decide +kernel
theorem d_M_issued_223 : decode b_M_issued 223 = .ok (.aload_n 0, 1) := by decide +kernel
theorem d_M_issued_224 : decode b_M_issued 224 = .ok (.getfield 827, 3) := by decide +kernel
theorem d_M_issued_227 : decode b_M_issued 227 = .ok (.lcmp, 1) := by decide +kernel
theorem d_M_issued_228 : decode b_M_issued 228 = .ok (.ifCond .le 7, 3) := by decide +kernel
theorem d_M_issued_231 : decode b_M_issued 231 = .ok (.iconst 1, 1) := by decide +kernel
theorem d_M_issued_232 : decode b_M_issued 232 = .ok (.goto 4, 3) := by decide +kernel
theorem d_M_issued_235 : decode b_M_issued 235 = .ok (.iconst 0, 1) := by decide +kernel
theorem d_M_issued_236 : decode b_M_issued 236 = .ok (.istore 9, 2) := by decide +kernel
theorem d_M_issued_238 : decode b_M_issued 238 = .ok (.aload_n 0, 1) := by decide +kernel
theorem d_M_issued_239 : decode b_M_issued 239 = .ok (.iload_n 1, 1) := by decide +kernel
theorem d_M_issued_240 : decode b_M_issued 240 = .ok (.bipush 8, 2) := by decide +kernel
theorem d_M_issued_242 : decode b_M_issued 242 = .ok (.invokevirtual 820, 3) := by decide +kernel
theorem d_M_issued_245 : decode b_M_issued 245 = .ok (.ifCond .ne 8, 3) := by decide +kernel
theorem d_M_issued_248 : decode b_M_issued 248 = .ok (.iload 9, 2) := by decide +kernel
theorem d_M_issued_250 : decode b_M_issued 250 = .ok (.ifCond .eq 18, 3) := by decide +kernel
theorem d_M_issued_253 : decode b_M_issued 253 = .ok (.aload_n 0, 1) := by decide +kernel
theorem d_M_issued_254 : decode b_M_issued 254 = .ok (.bipush 8, 2) := by decide +kernel
theorem d_M_issued_256 : decode b_M_issued 256 = .ok (.bipush 8, 2) := by decide +kernel
theorem d_M_issued_258 : decode b_M_issued 258 = .ok (.invokevirtual 833, 3) := by decide +kernel
theorem d_M_issued_261 : decode b_M_issued 261 = .ok (.ifCond .eq 7, 3) := by decide +kernel
theorem d_M_issued_264 : decode b_M_issued 264 = .ok (.iconst 1, 1) := by decide +kernel
theorem d_M_issued_265 : decode b_M_issued 265 = .ok (.goto 4, 3) := by decide +kernel
theorem d_M_issued_268 : decode b_M_issued 268 = .ok (.iconst 0, 1) := by decide +kernel
theorem d_M_issued_269 : decode b_M_issued 269 = .ok (.istore 10, 2) := by decide +kernel
theorem d_M_issued_271 : decode b_M_issued 271 = .ok (.iload_n 2, 1) := by decide +kernel
theorem d_M_issued_272 : decode b_M_issued 272 = .ok (.ifCond .eq 47, 3) := by decide +kernel
theorem d_M_issued_275 : decode b_M_issued 275 = .ok (.aload_n 0, 1) := by decide +kernel
theorem d_M_issued_276 : decode b_M_issued 276 = .ok (.aload_n 0, 1) := by decide +kernel
theorem d_M_issued_277 : decode b_M_issued 277 = .ok (.iconst 4, 1) := by decide +kernel
theorem d_M_issued_278 : decode b_M_issued 278 = .ok (.iconst 0, 1) := by decide +kernel
theorem d_M_issued_279 : decode b_M_issued 279 = .ok (.invokevirtual 704, 3) := by decide +kernel
theorem d_M_issued_282 : decode b_M_issued 282 = .ok (.bipush 9, 2) := by decide +kernel
theorem d_M_issued_284 : decode b_M_issued 284 = .ok (.invokestatic 701, 3) := by decide +kernel
theorem d_M_issued_287 : decode b_M_issued 287 = .ok (.iconst (-1), 1) := by decide +kernel
theorem d_M_issued_288 : decode b_M_issued 288 = .ok (.ixor, 1) := by decide +kernel
theorem d_M_issued_289 : decode b_M_issued 289 = .ok (.iand, 1) := by decide +kernel
theorem d_M_issued_290 : decode b_M_issued 290 = .ok (.putfield 830, 3) := by decide +kernel
theorem d_M_issued_293 : decode b_M_issued 293 = .ok (.aload_n 0, 1) := by decide +kernel
theorem d_M_issued_294 : decode b_M_issued 294 = .ok (.aload_n 0, 1) := by decide +kernel
theorem d_M_issued_295 : decode b_M_issued 295 = .ok (.getfield 830, 3) := by decide +kernel
theorem d_M_issued_298 : decode b_M_issued 298 = .ok (.bipush 8, 2) := by decide +kernel
theorem d_M_issued_300 : decode b_M_issued 300 = .ok (.invokevirtual 820, 3) := by decide +kernel
theorem d_M_issued_303 : decode b_M_issued 303 = .ok (.istore 10, 2) := by decide +kernel
theorem d_M_issued_305 : decode b_M_issued 305 = .ok (.aload_n 0, 1) := by decide +kernel
theorem d_M_issued_306 : decode b_M_issued 306 = .ok (.aload_n 0, 1) := by decide +kernel
theorem d_M_issued_307 : decode b_M_issued 307 = .ok (.iconst 4, 1) := by decide +kernel
theorem d_M_issued_308 : decode b_M_issued 308 = .ok (.bipush 8, 2) := by decide +kernel
theorem d_M_issued_310 : decode b_M_issued 310 = .ok (.invokevirtual 731, 3) := by decide +kernel
theorem d_M_issued_313 : decode b_M_issued 313 = .ok (.putfield 836, 3) := by decide +kernel
theorem d_M_issued_316 : decode b_M_issued 316 = .ok (.goto 342, 3) := by decide +kernel
theorem d_M_issued_319 : decode b_M_issued 319 = .ok (.aload_n 0, 1) := by decide +kernel
theorem d_M_issued_320 : decode b_M_issued 320 = .ok (.iload_n 1, 1) := by decide +kernel
theorem d_M_issued_321 : decode b_M_issued 321 = .ok (.iconst 1, 1) := by decide +kernel
theorem d_M_issued_322 : decode b_M_issued 322 = .ok (.invokevirtual 820, 3) := by decide +kernel
theorem d_M_issued_325 : decode b_M_issued 325 = .ok (.ifCond .eq 25, 3) := by decide +kernel
theorem d_M_issued_328 : decode b_M_issued 328 = .ok (.aload_n 0, 1) := by decide +kernel
theorem d_M_issued_329 : decode b_M_issued 329 = .ok (.iconst 2, 1) := by decide +kernel
theorem d_M_issued_330 : decode b_M_issued 330 = .ok (.iconst 1, 1) := by decide +kernel
theorem d_M_issued_331 : decode b_M_issued 331 = .ok (.invokevirtual 833, 3) := by decide +kernel
theorem d_M_issued_334 : decode b_M_issued 334 = .ok (.ifCond .eq 16, 3) := by decide +kernel
theorem d_M_issued_337 : decode b_M_issued 337 = .ok (.aload_n 0, 1) := by decide +kernel
theorem d_M_issued_338 : decode b_M_issued 338 = .ok (.dup, 1) := by decide +kernel
theorem d_M_issued_339 : decode b_M_issued 339 = .ok (.getfield 830, 3) := by decide +kernel
theorem d_M_issued_342 : decode b_M_issued 342 = .ok (.iconst 1, 1) := by decide +kernel
theorem d_M_issued_343 : decode b_M_issued 343 = .ok (.invokestatic 701, 3) := by decide +kernel
theorem d_M_issued_346 : decode b_M_issued 346 = .ok (.ior, 1) := by decide +kernel
theorem d_M_issued_347 : decode b_M_issued 347 = .ok (.putfield 830, 3) := by decide +kernel
theorem d_M_issued_350 : decode b_M_issued 350 = .ok (.aload_n 0, 1) := by decide +kernel
theorem d_M_issued_351 : decode b_M_issued 351 = .ok (.iload_n 1, 1) := by decide +kernel
theorem d_M_issued_352 : decode b_M_issued 352 = .ok (.iconst 3, 1) := by decide +kernel
theorem d_M_issued_353 : decode b_M_issued 353 = .ok (.invokevirtual 820, 3) := by decide +kernel
theorem d_M_issued_356 : decode b_M_issued 356 = .ok (.ifCond .eq 25, 3) := by decide +kernel
theorem d_M_issued_359 : decode b_M_issued 359 = .ok (.aload_n 0, 1) := by decide +kernel
theorem d_M_issued_360 : decode b_M_issued 360 = .ok (.iconst 4, 1) := by decide +kernel
theorem d_M_issued_361 : decode b_M_issued 361 = .ok (.iconst 3, 1) := by decide +kernel
theorem d_M_issued_362 : decode b_M_issued 362 = .ok (.invokevirtual 833, 3) := by decide +kernel
theorem d_M_issued_365 : decode b_M_issued 365 = .ok (.ifCond .eq 16, 3) := by decide +kernel
theorem d_M_issued_368 : decode b_M_issued 368 = .ok (.aload_n 0, 1) := by decide +kernel
theorem d_M_issued_369 : decode b_M_issued 369 = .ok (.dup, 1) := by decide +kernel
theorem d_M_issued_370 : decode b_M_issued 370 = .ok (.getfield 830, 3) := by decide +kernel
theorem d_M_issued_373 : decode b_M_issued 373 = .ok (.iconst 3, 1) := by decide +kernel
theorem d_M_issued_374 : decode b_M_issued 374 = .ok (.invokestatic 701, 3) := by decide +kernel
theorem d_M_issued_377 : decode b_M_issued 377 = .ok (.ior, 1) := by decide +kernel
theorem d_M_issued_378 : decode b_M_issued 378 = .ok (.putfield 830, 3) := by decide +kernel
theorem d_M_issued_381 : decode b_M_issued 381 = .ok (.iload 10, 2) := by decide +kernel
theorem d_M_issued_383 : decode b_M_issued 383 = .ok (.ifCond .eq 17, 3) := by decide +kernel
theorem d_M_issued_386 : decode b_M_issued 386 = .ok (.aload_n 0, 1) := by decide +kernel
theorem d_M_issued_387 : decode b_M_issued 387 = .ok (.dup, 1) := by decide +kernel
theorem d_M_issued_388 : decode b_M_issued 388 = .ok (.getfield 830, 3) := by decide +kernel
theorem d_M_issued_391 : decode b_M_issued 391 = .ok (.bipush 8, 2) := by decide +kernel
theorem d_M_issued_393 : decode b_M_issued 393 = .ok (.invokestatic 701, 3) := by decide +kernel
theorem d_M_issued_396 : decode b_M_issued 396 = .ok (.ior, 1) := by decide +kernel
theorem d_M_issued_397 : decode b_M_issued 397 = .ok (.putfield 830, 3) := by decide +kernel
theorem d_M_issued_400 : decode b_M_issued 400 = .ok (.aload_n 0, 1) := by decide +kernel
theorem d_M_issued_401 : decode b_M_issued 401 = .ok (.getfield 660, 3) := by decide +kernel
theorem d_M_issued_404 : decode b_M_issued 404 = .ok (.ifCond .eq 17, 3) := by decide +kernel
theorem d_M_issued_407 : decode b_M_issued 407 = .ok (.aload_n 0, 1) := by decide +kernel
theorem d_M_issued_408 : decode b_M_issued 408 = .ok (.dup, 1) := by decide +kernel
theorem d_M_issued_409 : decode b_M_issued 409 = .ok (.getfield 830, 3) := by decide +kernel
theorem d_M_issued_412 : decode b_M_issued 412 = .ok (.bipush 9, 2) := by decide +kernel
theorem d_M_issued_414 : decode b_M_issued 414 = .ok (.invokestatic 701, 3) := by decide +kernel
theorem d_M_issued_417 : decode b_M_issued 417 = .ok (.ior, 1) := by decide +kernel
theorem d_M_issued_418 : decode b_M_issued 418 = .ok (.putfield 830, 3) := by decide +kernel
theorem d_M_issued_421 : decode b_M_issued 421 = .ok (.aload_n 0, 1) := by decide +kernel
theorem d_M_issued_422 : decode b_M_issued 422 = .ok (.getfield 660, 3) := by decide +kernel
theorem d_M_issued_425 : decode b_M_issued 425 = .ok (.ifCond .eq 13, 3) := by decide +kernel
theorem d_M_issued_428 : decode b_M_issued 428 = .ok (.aload_n 0, 1) := by decide +kernel
theorem d_M_issued_429 : decode b_M_issued 429 = .ok (.getfield 740, 3) := by decide +kernel
theorem d_M_issued_432 : decode b_M_issued 432 = .ok (.ifCond .eq 35, 3) := by decide +kernel
theorem d_M_issued_435 : decode b_M_issued 435 = .ok (.goto 18, 3) := by decide +kernel
theorem d_M_issued_438 : decode b_M_issued 438 = .ok (.aload_n 0, 1) := by decide +kernel
theorem d_M_issued_439 : decode b_M_issued 439 = .ok (.aload_n 0, 1) := by decide +kernel
theorem d_M_issued_440 : decode b_M_issued 440 = .ok (.iconst 4, 1) := by decide +kernel
theorem d_M_issued_441 : decode b_M_issued 441 = .ok (.iconst 0, 1) := by decide +kernel
theorem d_M_issued_442 : decode b_M_issued 442 = .ok (.invokevirtual 704, 3) := by decide +kernel
theorem d_M_issued_445 : decode b_M_issued 445 = .ok (.bipush 10, 2) := by decide +kernel
theorem d_M_issued_447 : decode b_M_issued 447 = .ok (.invokevirtual 820, 3) := by decide +kernel
theorem d_M_issued_450 : decode b_M_issued 450 = .ok (.ifCond .eq 17, 3) := by decide +kernel
theorem d_M_issued_453 : decode b_M_issued 453 = .ok (.aload_n 0, 1) := by decide +kernel
theorem d_M_issued_454 : decode b_M_issued 454 = .ok (.dup, 1) := by decide +kernel
theorem d_M_issued_455 : decode b_M_issued 455 = .ok (.getfield 830, 3) := by decide +kernel
theorem d_M_issued_458 : decode b_M_issued 458 = .ok (.bipush 10, 2) := by decide +kernel
theorem d_M_issued_460 : decode b_M_issued 460 = .ok (.invokestatic 701, 3) := by decide +kernel
theorem d_M_issued_463 : decode b_M_issued 463 = .ok (.ior, 1) := by decide +kernel
theorem d_M_issued_464 : decode b_M_issued 464 = .ok (.putfield 830, 3) := by decide +kernel
theorem d_M_issued_467 : decode b_M_issued 467 = .ok (.aload_n 0, 1) := by decide +kernel
theorem d_M_issued_468 : decode b_M_issued 468 = .ok (.getfield 660, 3) := by decide +kernel
theorem d_M_issued_471 : decode b_M_issued 471 = .ok (.ifCond .ne 39, 3) := by decide +kernel
theorem d_M_issued_474 : decode b_M_issued 474 = .ok (.aload_n 0, 1) := by decide +kernel
theorem d_M_issued_475 : decode b_M_issued 475 = .ok (.iload_n 1, 1) := by decide +kernel
theorem d_M_issued_476 : decode b_M_issued 476 = .ok (.iconst 2, 1) := by decide +kernel
theorem d_M_issued_477 : decode b_M_issued 477 = .ok (.invokevirtual 820, 3) := by decide +kernel
theorem d_M_issued_480 : decode b_M_issued 480 = .ok (.ifCond .ne 17, 3) := by decide +kernel
theorem d_M_issued_483 : decode b_M_issued 483 = .ok (.aload_n 0, 1) := by decide +kernel
theorem d_M_issued_484 : decode b_M_issued 484 = .ok (.aload_n 0, 1) := by decide +kernel
theorem d_M_issued_485 : decode b_M_issued 485 = .ok (.iconst 4, 1) := by decide +kernel
theorem d_M_issued_486 : decode b_M_issued 486 = .ok (.iconst 0, 1) := by decide +kernel
theorem d_M_issued_487 : decode b_M_issued 487 = .ok (.invokevirtual 704, 3) := by decide +kernel
theorem d_M_issued_490 : decode b_M_issued 490 = .ok (.iconst 2, 1) := by decide +kernel
theorem d_M_issued_491 : decode b_M_issued 491 = .ok (.invokevirtual 820, 3) := by decide +kernel
theorem d_M_issued_494 : decode b_M_issued 494 = .ok (.ifCond .eq 16, 3) := by decide +kernel
theorem d_M_issued_497 : decode b_M_issued 497 = .ok (.aload_n 0, 1) := by decide +kernel
theorem d_M_issued_498 : decode b_M_issued 498 = .ok (.dup, 1) := by decide +kernel
theorem d_M_issued_499 : decode b_M_issued 499 = .ok (.getfield 830, 3) := by decide +kernel
theorem d_M_issued_502 : decode b_M_issued 502 = .ok (.iconst 2, 1) := by decide +kernel
theorem d_M_issued_503 : decode b_M_issued 503 = .ok (.invokestatic 701, 3) := by decide +kernel
theorem d_M_issued_506 : decode b_M_issued 506 = .ok (.ior, 1) := by decide +kernel
theorem d_M_issued_507 : decode b_M_issued 507 = .ok (.putfield 830, 3) := by decide +kernel
theorem d_M_issued_510 : decode b_M_issued 510 = .ok (.aload_n 0, 1) := by decide +kernel
theorem d_M_issued_511 : decode b_M_issued 511 = .ok (.getfield 660, 3) := by decide +kernel
theorem d_M_issued_514 : decode b_M_issued 514 = .ok (.ifCond .ne 39, 3) := by decide +kernel
theorem d_M_issued_517 : decode b_M_issued 517 = .ok (.aload_n 0, 1) := by decide +kernel
theorem d_M_issued_518 : decode b_M_issued 518 = .ok (.iload_n 1, 1) := by decide +kernel
theorem d_M_issued_519 : decode b_M_issued 519 = .ok (.iconst 4, 1) := by decide +kernel
theorem d_M_issued_520 : decode b_M_issued 520 = .ok (.invokevirtual 820, 3) := by decide +kernel
theorem d_M_issued_523 : decode b_M_issued 523 = .ok (.ifCond .ne 17, 3) := by decide +kernel
theorem d_M_issued_526 : decode b_M_issued 526 = .ok (.aload_n 0, 1) := by decide +kernel
theorem d_M_issued_527 : decode b_M_issued 527 = .ok (.aload_n 0, 1) := by decide +kernel
theorem d_M_issued_528 : decode b_M_issued 528 = .ok (.iconst 4, 1) := by decide +kernel
theorem d_M_issued_529 : decode b_M_issued 529 = .ok (.iconst 0, 1) := by decide +kernel
theorem d_M_issued_530 : decode b_M_issued 530 = .ok (.invokevirtual 704, 3) := by decide +kernel
theorem d_M_issued_533 : decode b_M_issued 533 = .ok (.iconst 4, 1) := by decide +kernel
theorem d_M_issued_534 : decode b_M_issued 534 = .ok (.invokevirtual 820, 3) := by decide +kernel
theorem d_M_issued_537 : decode b_M_issued 537 = .ok (.ifCond .eq 16, 3) := by decide +kernel
theorem d_M_issued_540 : decode b_M_issued 540 = .ok (.aload_n 0, 1) := by decide +kernel
theorem d_M_issued_541 : decode b_M_issued 541 = .ok (.dup, 1) := by decide +kernel
theorem d_M_issued_542 : decode b_M_issued 542 = .ok (.getfield 830, 3) := by decide +kernel
theorem d_M_issued_545 : decode b_M_issued 545 = .ok (.iconst 4, 1) := by decide +kernel
theorem d_M_issued_546 : decode b_M_issued 546 = .ok (.invokestatic 701, 3) := by decide +kernel
theorem d_M_issued_549 : decode b_M_issued 549 = .ok (.ior, 1) := by decide +kernel
theorem d_M_issued_550 : decode b_M_issued 550 = .ok (.putfield 830, 3) := by decide +kernel
theorem d_M_issued_553 : decode b_M_issued 553 = .ok (.aload_n 0, 1) := by decide +kernel
theorem d_M_issued_554 : decode b_M_issued 554 = .ok (.iload_n 1, 1) := by decide +kernel
theorem d_M_issued_555 : decode b_M_issued 555 = .ok (.bipush 8, 2) := by decide +kernel
theorem d_M_issued_557 : decode b_M_issued 557 = .ok (.invokevirtual 820, 3) := by decide +kernel
theorem d_M_issued_560 : decode b_M_issued 560 = .ok (.ifCond .eq 27, 3) := by decide +kernel
theorem d_M_issued_563 : decode b_M_issued 563 = .ok (.aload_n 0, 1) := by decide +kernel
theorem d_M_issued_564 : decode b_M_issued 564 = .ok (.iconst 1, 1) := by decide +kernel
theorem d_M_issued_565 : decode b_M_issued 565 = .ok (.bipush 6, 2) := by decide +kernel
theorem d_M_issued_567 : decode b_M_issued 567 = .ok (.invokevirtual 675, 3) := by decide +kernel
theorem d_M_issued_570 : decode b_M_issued 570 = .ok (.ifCond .eq 13, 3) := by decide +kernel
theorem d_M_issued_573 : decode b_M_issued 573 = .ok (.aload_n 0, 1) := by decide +kernel
theorem d_M_issued_574 : decode b_M_issued 574 = .ok (.iconst 1, 1) := by decide +kernel
theorem d_M_issued_575 : decode b_M_issued 575 = .ok (.bipush 6, 2) := by decide +kernel
theorem d_M_issued_577 : decode b_M_issued 577 = .ok (.invokevirtual 731, 3) := by decide +kernel
theorem d_M_issued_580 : decode b_M_issued 580 = .ok (.goto 9, 3) := by decide +kernel
theorem d_M_issued_583 : decode b_M_issued 583 = .ok (.lconst 0, 1) := by decide +kernel
theorem d_M_issued_584 : decode b_M_issued 584 = .ok (.goto 5, 3) := by decide +kernel
theorem d_M_issued_587 : decode b_M_issued 587 = .ok (.lload 7, 2) := by decide +kernel
theorem d_M_issued_589 : decode b_M_issued 589 = .ok (.lstore 11, 2) := by decide +kernel
theorem d_M_issued_591 : decode b_M_issued 591 = .ok (.aload_n 0, 1) := by decide +kernel
theorem d_M_issued_592 : decode b_M_issued 592 = .ok (.aload_n 0, 1) := by decide +kernel
theorem d_M_issued_593 : decode b_M_issued 593 = .ok (.getfield 18, 3) := by decide +kernel
theorem d_M_issued_596 : decode b_M_issued 596 = .ok (.i2l, 1) := by decide +kernel
theorem d_M_issued_597 : decode b_M_issued 597 = .ok (.lload 5, 2) := by decide +kernel
theorem d_M_issued_599 : decode b_M_issued 599 = .ok (.ladd, 1) := by decide +kernel
theorem d_M_issued_600 : decode b_M_issued 600 = .ok (.putfield 836, 3) := by decide +kernel
theorem d_M_issued_603 : decode b_M_issued 603 = .ok (.lload 11, 2) := by decide +kernel
theorem d_M_issued_605 : decode b_M_issued 605 = .ok (.lconst 0, 1) := by decide +kernel
theorem d_M_issued_606 : decode b_M_issued 606 = .ok (.lcmp, 1) := by decide +kernel
theorem d_M_issued_607 : decode b_M_issued 607 = .ok (.ifCond .eq 16, 3) := by decide +kernel
theorem d_M_issued_610 : decode b_M_issued 610 = .ok (.aload_n 0, 1) := by decide +kernel
theorem d_M_issued_611 : decode b_M_issued 611 = .ok (.aload_n 0, 1) := by decide +kernel
theorem d_M_issued_612 : decode b_M_issued 612 = .ok (.getfield 836, 3) := by decide +kernel
theorem d_M_issued_615 : decode b_M_issued 615 = .ok (.lload 11, 2) := by decide +kernel
theorem d_M_issued_617 : decode b_M_issued 617 = .ok (.invokestatic 823, 3) := by decide +kernel
theorem d_M_issued_620 : decode b_M_issued 620 = .ok (.putfield 836, 3) := by decide +kernel
theorem d_M_issued_623 : decode b_M_issued 623 = .ok (.aload_n 0, 1) := by decide +kernel
theorem d_M_issued_624 : decode b_M_issued 624 = .ok (.getfield 660, 3) := by decide +kernel
theorem d_M_issued_627 : decode b_M_issued 627 = .ok (.ifCond .ne 31, 3) := by decide +kernel
theorem d_M_issued_630 : decode b_M_issued 630 = .ok (.aload_n 0, 1) := by decide +kernel
theorem d_M_issued_631 : decode b_M_issued 631 = .ok (.iconst 4, 1) := by decide +kernel
theorem d_M_issued_632 : decode b_M_issued 632 = .ok (.bipush 8, 2) := by decide +kernel
theorem d_M_issued_634 : decode b_M_issued 634 = .ok (.invokevirtual 675, 3) := by decide +kernel
theorem d_M_issued_637 : decode b_M_issued 637 = .ok (.ifCond .eq 21, 3) := by decide +kernel
theorem d_M_issued_640 : decode b_M_issued 640 = .ok (.aload_n 0, 1) := by decide +kernel
theorem d_M_issued_641 : decode b_M_issued 641 = .ok (.aload_n 0, 1) := by decide +kernel
theorem d_M_issued_642 : decode b_M_issued 642 = .ok (.getfield 836, 3) := by decide +kernel
theorem d_M_issued_645 : decode b_M_issued 645 = .ok (.aload_n 0, 1) := by decide +kernel
theorem d_M_issued_646 : decode b_M_issued 646 = .ok (.iconst 4, 1) := by decide +kernel
theorem d_M_issued_647 : decode b_M_issued 647 = .ok (.bipush 8, 2) := by decide +kernel
theorem d_M_issued_649 : decode b_M_issued 649 = .ok (.invokevirtual 731, 3) := by decide +kernel
theorem d_M_issued_652 : decode b_M_issued 652 = .ok (.invokestatic 823, 3) := by decide +kernel
theorem d_M_issued_655 : decode b_M_issued 655 = .ok (.putfield 836, 3) := by decide +kernel
theorem d_M_issued_658 : decode b_M_issued 658 = .ok (.aload_n 0, 1) := by decide +kernel
theorem d_M_issued_659 : decode b_M_issued 659 = .ok (.iload 10, 2) := by decide +kernel
theorem d_M_issued_661 : decode b_M_issued 661 = .ok (.putfield 839, 3) := by decide +kernel
theorem d_M_issued_664 : decode b_M_issued 664 = .ok (.aload_n 0, 1) := by decide +kernel
theorem d_M_issued_665 : decode b_M_issued 665 = .ok (.getfield 660, 3) := by decide +kernel
theorem d_M_issued_668 : decode b_M_issued 668 = .ok (.ifCond .ne 21, 3) := by decide +kernel
theorem d_M_issued_671 : decode b_M_issued 671 = .ok (.aload_n 0, 1) := by decide +kernel
theorem d_M_issued_672 : decode b_M_issued 672 = .ok (.iload_n 1, 1) := by decide +kernel
theorem d_M_issued_673 : decode b_M_issued 673 = .ok (.iconst 2, 1) := by decide +kernel
theorem d_M_issued_674 : decode b_M_issued 674 = .ok (.invokevirtual 820, 3) := by decide +kernel
theorem d_M_issued_677 : decode b_M_issued 677 = .ok (.ifCond .ne 12, 3) := by decide +kernel
theorem d_M_issued_680 : decode b_M_issued 680 = .ok (.aload_n 0, 1) := by decide +kernel
theorem d_M_issued_681 : decode b_M_issued 681 = .ok (.iload_n 1, 1) := by decide +kernel
theorem d_M_issued_682 : decode b_M_issued 682 = .ok (.iconst 4, 1) := by decide +kernel
theorem d_M_issued_683 : decode b_M_issued 683 = .ok (.invokevirtual 820, 3) := by decide +kernel
theorem d_M_issued_686 : decode b_M_issued 686 = .ok (.ifCond .eq 7, 3) := by decide +kernel
theorem d_M_issued_689 : decode b_M_issued 689 = .ok (.iconst 1, 1) := by decide +kernel
theorem d_M_issued_690 : decode b_M_issued 690 = .ok (.goto 4, 3) := by decide +kernel
theorem d_M_issued_693 : decode b_M_issued 693 = .ok (.iconst 0, 1) := by decide +kernel
theorem d_M_issued_694 : decode b_M_issued 694 = .ok (.istore 11, 2) := by decide +kernel
theorem d_M_issued_696 : decode b_M_issued 696 = .ok (.aload_n 0, 1) := by decide +kernel
theorem d_M_issued_697 : decode b_M_issued 697 = .ok (.iload 11, 2) := by decide +kernel
theorem d_M_issued_699 : decode b_M_issued 699 = .ok (.ifCond .eq 13, 3) := by decide +kernel
theorem d_M_issued_702 : decode b_M_issued 702 = .ok (.aload_n 0, 1) := by decide +kernel
theorem d_M_issued_703 : decode b_M_issued 703 = .ok (.iconst 1, 1) := by decide +kernel
theorem d_M_issued_704 : decode b_M_issued 704 = .ok (.bipush 9, 2) := by decide +kernel
theorem d_M_issued_706 : decode b_M_issued 706 = .ok (.invokevirtual 675, 3) := by decide +kernel
theorem d_M_issued_709 : decode b_M_issued 709 = .ok (.goto 10, 3) := by decide +kernel
theorem d_M_issued_712 : decode b_M_issued 712 = .ok (.aload_n 0, 1) := by decide +kernel
theorem d_M_issued_713 : decode b_M_issued 713 = .ok (.iconst 4, 1) := by decide +kernel
theorem d_M_issued_714 : decode b_M_issued 714 = .ok (.bipush 9, 2) := by decide +kernel
theorem d_M_issued_716 : decode b_M_issued 716 = .ok (.invokevirtual 675, 3) := by decide +kernel
theorem d_M_issued_719 : decode b_M_issued 719 = .ok (.putfield 842, 3) := by decide +kernel
theorem d_M_issued_722 : decode b_M_issued 722 = .ok (.aload_n 0, 1) := by decide +kernel
theorem d_M_issued_723 : decode b_M_issued 723 = .ok (.iload 11, 2) := by decide +kernel
theorem d_M_issued_725 : decode b_M_issued 725 = .ok (.ifCond .eq 13, 3) := by decide +kernel
theorem d_M_issued_728 : decode b_M_issued 728 = .ok (.aload_n 0, 1) := by decide +kernel
theorem d_M_issued_729 : decode b_M_issued 729 = .ok (.iconst 1, 1) := by decide +kernel
theorem d_M_issued_730 : decode b_M_issued 730 = .ok (.bipush 9, 2) := by decide +kernel
theorem d_M_issued_732 : decode b_M_issued 732 = .ok (.invokevirtual 536, 3) := by decide +kernel
theorem d_M_issued_735 : decode b_M_issued 735 = .ok (.goto 10, 3) := by decide +kernel
theorem d_M_issued_738 : decode b_M_issued 738 = .ok (.aload_n 0, 1) := by decide +kernel
theorem d_M_issued_739 : decode b_M_issued 739 = .ok (.iconst 4, 1) := by decide +kernel
theorem d_M_issued_740 : decode b_M_issued 740 = .ok (.bipush 9, 2) := by decide +kernel
theorem d_M_issued_742 : decode b_M_issued 742 = .ok (.invokevirtual 536, 3) := by decide +kernel
theorem d_M_issued_745 : decode b_M_issued 745 = .ok (.putfield 845, 3) := by decide +kernel
theorem d_M_issued_748 : decode b_M_issued 748 = .ok (.aload_n 0, 1) := by decide +kernel
theorem d_M_issued_749 : decode b_M_issued 749 = .ok (.iload 11, 2) := by decide +kernel
theorem d_M_issued_751 : decode b_M_issued 751 = .ok (.ifCond .eq 13, 3) := by decide +kernel
theorem d_M_issued_754 : decode b_M_issued 754 = .ok (.aload_n 0, 1) := by decide +kernel
theorem d_M_issued_755 : decode b_M_issued 755 = .ok (.iconst 1, 1) := by decide +kernel
theorem d_M_issued_756 : decode b_M_issued 756 = .ok (.bipush 9, 2) := by decide +kernel
theorem d_M_issued_758 : decode b_M_issued 758 = .ok (.invokevirtual 539, 3) := by decide +kernel
theorem d_M_issued_761 : decode b_M_issued 761 = .ok (.goto 10, 3) := by decide +kernel
theorem d_M_issued_764 : decode b_M_issued 764 = .ok (.aload_n 0, 1) := by decide +kernel
theorem d_M_issued_765 : decode b_M_issued 765 = .ok (.iconst 4, 1) := by decide +kernel
theorem d_M_issued_766 : decode b_M_issued 766 = .ok (.bipush 9, 2) := by decide +kernel
theorem d_M_issued_768 : decode b_M_issued 768 = .ok (.invokevirtual 539, 3) := by decide +kernel
theorem d_M_issued_771 : decode b_M_issued 771 = .ok (.putfield 848, 3) := by decide +kernel
theorem d_M_issued_774 : decode b_M_issued 774 = .ok (.aload_n 0, 1) := by decide +kernel
theorem d_M_issued_775 : decode b_M_issued 775 = .ok (.aload_n 0, 1) := by decide +kernel
theorem d_M_issued_776 : decode b_M_issued 776 = .ok (.getfield 660, 3) := by decide +kernel
theorem d_M_issued_779 : decode b_M_issued 779 = .ok (.ifCond .eq 12, 3) := by decide +kernel
theorem d_M_issued_782 : decode b_M_issued 782 = .ok (.aload_n 0, 1) := by decide +kernel
theorem d_M_issued_783 : decode b_M_issued 783 = .ok (.iconst 1, 1) := by decide +kernel
theorem d_M_issued_784 : decode b_M_issued 784 = .ok (.iconst 1, 1) := by decide +kernel
theorem d_M_issued_785 : decode b_M_issued 785 = .ok (.invokevirtual 536, 3) := by decide +kernel
theorem d_M_issued_788 : decode b_M_issued 788 = .ok (.goto 9, 3) := by decide +kernel
theorem d_M_issued_791 : decode b_M_issued 791 = .ok (.aload_n 0, 1) := by decide +kernel
theorem d_M_issued_792 : decode b_M_issued 792 = .ok (.iconst 4, 1) := by decide +kernel
theorem d_M_issued_793 : decode b_M_issued 793 = .ok (.iconst 3, 1) := by decide +kernel
theorem d_M_issued_794 : decode b_M_issued 794 = .ok (.invokevirtual 536, 3) := by decide +kernel
theorem d_M_issued_797 : decode b_M_issued 797 = .ok (.putfield 851, 3) := by decide +kernel
theorem d_M_issued_800 : decode b_M_issued 800 = .ok (.aload_n 0, 1) := by decide +kernel
theorem d_M_issued_801 : decode b_M_issued 801 = .ok (.aload_n 0, 1) := by decide +kernel
theorem d_M_issued_802 : decode b_M_issued 802 = .ok (.getfield 660, 3) := by decide +kernel
theorem d_M_issued_805 : decode b_M_issued 805 = .ok (.ifCond .eq 12, 3) := by decide +kernel
theorem d_M_issued_808 : decode b_M_issued 808 = .ok (.aload_n 0, 1) := by decide +kernel
theorem d_M_issued_809 : decode b_M_issued 809 = .ok (.iconst 1, 1) := by decide +kernel
theorem d_M_issued_810 : decode b_M_issued 810 = .ok (.iconst 1, 1) := by decide +kernel
theorem d_M_issued_811 : decode b_M_issued 811 = .ok (.invokevirtual 539, 3) := by decide +kernel
theorem d_M_issued_814 : decode b_M_issued 814 = .ok (.goto 9, 3) := by decide +kernel
theorem d_M_issued_817 : decode b_M_issued 817 = .ok (.aload_n 0, 1) := by decide +kernel
theorem d_M_issued_818 : decode b_M_issued 818 = .ok (.iconst 4, 1) := by decide +kernel
theorem d_M_issued_819 : decode b_M_issued 819 = .ok (.iconst 3, 1) := by decide +kernel
theorem d_M_issued_820 : decode b_M_issued 820 = .ok (.invokevirtual 539, 3) := by decide +kernel
theorem d_M_issued_823 : decode b_M_issued 823 = .ok (.putfield 854, 3) := by decide +kernel
theorem d_M_issued_826 : decode b_M_issued 826 = .ok (.aload_n 0, 1) := by decide +kernel
theorem d_M_issued_827 : decode b_M_issued 827 = .ok (.aload_n 0, 1) := by decide +kernel
theorem d_M_issued_828 : decode b_M_issued 828 = .ok (.getfield 737, 3) := by decide +kernel
theorem d_M_issued_831 : decode b_M_issued 831 = .ok (.aload_n 0, 1) := by decide +kernel
theorem d_M_issued_832 : decode b_M_issued 832 = .ok (.getfield 143, 3) := by decide +kernel
theorem d_M_issued_835 : decode b_M_issued 835 = .ok (.invokevirtual 857, 3) := by decide +kernel
theorem d_M_issued_838 : decode b_M_issued 838 = .ok (.aload_n 0, 1) := by decide +kernel
theorem d_M_issued_839 : decode b_M_issued 839 = .ok (.invokevirtual 861, 3) := by decide +kernel
theorem d_M_issued_842 : decode b_M_issued 842 = .ok (.aload_n 0, 1) := by decide +kernel
theorem d_M_issued_843 : decode b_M_issued 843 = .ok (.invokevirtual 864, 3) := by decide +kernel
theorem d_M_issued_846 : decode b_M_issued 846 = .ok (.aload_n 0, 1) := by decide +kernel
theorem d_M_issued_847 : decode b_M_issued 847 = .ok (.bipush 99, 2) := by decide +kernel
theorem d_M_issued_849 : decode b_M_issued 849 = .ok (.ldc 9, 2) := by decide +kernel
theorem d_M_issued_851 : decode b_M_issued 851 = .ok (.invokevirtual 559, 3) := by decide +kernel
theorem d_M_issued_854 : decode b_M_issued 854 = .ok (.ldc 9, 2) := by decide +kernel
theorem d_M_issued_856 : decode b_M_issued 856 = .ok (.aload_n 0, 1) := by decide +kernel
theorem d_M_issued_857 : decode b_M_issued 857 = .ok (.getfield 553, 3) := by decide +kernel
theorem d_M_issued_860 : decode b_M_issued 860 = .ok (.isub, 1) := by decide +kernel
theorem d_M_issued_861 : decode b_M_issued 861 = .ok (.istore 12, 2) := by decide +kernel
theorem d_M_issued_863 : decode b_M_issued 863 = .ok (.aload_n 0, 1) := by decide +kernel
theorem d_M_issued_864 : decode b_M_issued 864 = .ok (.aload_n 0, 1) := by decide +kernel
theorem d_M_issued_865 : decode b_M_issued 865 = .ok (.getfield 713, 3) := by decide +kernel
theorem d_M_issued_868 : decode b_M_issued 868 = .ok (.aload_n 0, 1) := by decide +kernel
theorem d_M_issued_869 : decode b_M_issued 869 = .ok (.getfield 107, 3) := by decide +kernel
theorem d_M_issued_872 : decode b_M_issued 872 = .ok (.aload_n 0, 1) := by decide +kernel
theorem d_M_issued_873 : decode b_M_issued 873 = .ok (.getfield 713, 3) := by decide +kernel
theorem d_M_issued_876 : decode b_M_issued 876 = .ok (.iaload, 1) := by decide +kernel
theorem d_M_issued_877 : decode b_M_issued 877 = .ok (.bipush 18, 2) := by decide +kernel
theorem d_M_issued_879 : decode b_M_issued 879 = .ok (.aload_n 0, 1) := by decide +kernel
theorem d_M_issued_880 : decode b_M_issued 880 = .ok (.getfield 131, 3) := by decide +kernel
theorem d_M_issued_883 : decode b_M_issued 883 = .ok (.invokevirtual 761, 3) := by decide +kernel
theorem d_M_issued_886 : decode b_M_issued 886 = .ok (.aload_n 0, 1) := by decide +kernel
theorem d_M_issued_887 : decode b_M_issued 887 = .ok (.aload_n 0, 1) := by decide +kernel
theorem d_M_issued_888 : decode b_M_issued 888 = .ok (.getfield 131, 3) := by decide +kernel
theorem d_M_issued_891 : decode b_M_issued 891 = .ok (.bipush 18, 2) := by decide +kernel
theorem d_M_issued_893 : decode b_M_issued 893 = .ok (.iconst 2, 1) := by decide +kernel
theorem d_M_issued_894 : decode b_M_issued 894 = .ok (.aload_n 0, 1) := by decide +kernel
theorem d_M_issued_895 : decode b_M_issued 895 = .ok (.getfield 553, 3) := by decide +kernel
theorem d_M_issued_898 : decode b_M_issued 898 = .ok (.ldc 9, 2) := by decide +kernel
theorem d_M_issued_900 : decode b_M_issued 900 = .ok (.invokevirtual 867, 3) := by decide +kernel
theorem d_M_issued_903 : decode b_M_issued 903 = .ok (.aload_n 0, 1) := by decide +kernel
theorem d_M_issued_904 : decode b_M_issued 904 = .ok (.invokevirtual 861, 3) := by decide +kernel
theorem d_M_issued_907 : decode b_M_issued 907 = .ok (.aload_n 0, 1) := by decide +kernel
theorem d_M_issued_908 : decode b_M_issued 908 = .ok (.iconst 3, 1) := by decide +kernel
theorem d_M_issued_909 : decode b_M_issued 909 = .ok (.bipush 18, 2) := by decide +kernel
theorem d_M_issued_911 : decode b_M_issued 911 = .ok (.aload_n 0, 1) := by decide +kernel
theorem d_M_issued_912 : decode b_M_issued 912 = .ok (.getfield 107, 3) := by decide +kernel
theorem d_M_issued_915 : decode b_M_issued 915 = .ok (.aload_n 0, 1) := by decide +kernel
theorem d_M_issued_916 : decode b_M_issued 916 = .ok (.getfield 713, 3) := by decide +kernel
theorem d_M_issued_919 : decode b_M_issued 919 = .ok (.iaload, 1) := by decide +kernel
theorem d_M_issued_920 : decode b_M_issued 920 = .ok (.i2l, 1) := by decide +kernel
theorem d_M_issued_921 : decode b_M_issued 921 = .ok (.invokevirtual 870, 3) := by decide +kernel
theorem d_M_issued_924 : decode b_M_issued 924 = .ok (.aload_n 0, 1) := by decide +kernel
theorem d_M_issued_925 : decode b_M_issued 925 = .ok (.iconst 2, 1) := by decide +kernel
theorem d_M_issued_926 : decode b_M_issued 926 = .ok (.aload_n 0, 1) := by decide +kernel
theorem d_M_issued_927 : decode b_M_issued 927 = .ok (.iconst 1, 1) := by decide +kernel
theorem d_M_issued_928 : decode b_M_issued 928 = .ok (.iconst 3, 1) := by decide +kernel
theorem d_M_issued_929 : decode b_M_issued 929 = .ok (.invokevirtual 536, 3) := by decide +kernel
theorem d_M_issued_932 : decode b_M_issued 932 = .ok (.aload_n 0, 1) := by decide +kernel
theorem d_M_issued_933 : decode b_M_issued 933 = .ok (.iconst 1, 1) := by decide +kernel
theorem d_M_issued_934 : decode b_M_issued 934 = .ok (.iconst 3, 1) := by decide +kernel
theorem d_M_issued_935 : decode b_M_issued 935 = .ok (.invokevirtual 539, 3) := by decide +kernel
theorem d_M_issued_938 : decode b_M_issued 938 = .ok (.invokevirtual 874, 3) := by decide +kernel
theorem d_M_issued_941 : decode b_M_issued 941 = .ok (.aload_n 0, 1) := by decide +kernel
theorem d_M_issued_942 : decode b_M_issued 942 = .ok (.iconst 1, 1) := by decide +kernel
theorem d_M_issued_943 : decode b_M_issued 943 = .ok (.ldc_w 621, 3) := by decide +kernel
theorem d_M_issued_946 : decode b_M_issued 946 = .ok (.invokevirtual 878, 3) := by decide +kernel
theorem d_M_issued_949 : decode b_M_issued 949 = .ok (.aload_n 0, 1) := by decide +kernel
theorem d_M_issued_950 : decode b_M_issued 950 = .ok (.iconst 0, 1) := by decide +kernel
theorem d_M_issued_951 : decode b_M_issued 951 = .ok (.ldc2_w 669, 3) := by decide +kernel
theorem d_M_issued_954 : decode b_M_issued 954 = .ok (.invokevirtual 588, 3) := by decide +kernel
theorem d_M_issued_957 : decode b_M_issued 957 = .ok (.aload_n 0, 1) := by decide +kernel
theorem d_M_issued_958 : decode b_M_issued 958 = .ok (.bipush 48, 2) := by decide +kernel
theorem d_M_issued_960 : decode b_M_issued 960 = .ok (.ldc 9, 2) := by decide +kernel
theorem d_M_issued_962 : decode b_M_issued 962 = .ok (.invokevirtual 559, 3) := by decide +kernel
theorem d_M_issued_965 : decode b_M_issued 965 = .ok (.aload_n 0, 1) := by decide +kernel
theorem d_M_issued_966 : decode b_M_issued 966 = .ok (.bipush 97, 2) := by decide +kernel
theorem d_M_issued_968 : decode b_M_issued 968 = .ok (.ldc 9, 2) := by decide +kernel
theorem d_M_issued_970 : decode b_M_issued 970 = .ok (.invokevirtual 559, 3) := by decide +kernel
theorem d_M_issued_973 : decode b_M_issued 973 = .ok (.ldc 9, 2) := by decide +kernel
theorem d_M_issued_975 : decode b_M_issued 975 = .ok (.aload_n 0, 1) := by decide +kernel
theorem d_M_issued_976 : decode b_M_issued 976 = .ok (.getfield 553, 3) := by decide +kernel
theorem d_M_issued_979 : decode b_M_issued 979 = .ok (.isub, 1) := by decide +kernel
theorem d_M_issued_980 : decode b_M_issued 980 = .ok (.istore 13, 2) := by decide +kernel
theorem d_M_issued_982 : decode b_M_issued 982 = .ok (.iconst 0, 1) := by decide +kernel
theorem d_M_issued_983 : decode b_M_issued 983 = .ok (.istore 14, 2) := by decide +kernel
theorem d_M_issued_985 : decode b_M_issued 985 = .ok (.iload 14, 2) := by decide +kernel
theorem d_M_issued_987 : decode b_M_issued 987 = .ok (.iload 13, 2) := by decide +kernel
theorem d_M_issued_989 : decode b_M_issued 989 = .ok (.if_icmp .ge 32, 3) := by decide +kernel
theorem d_M_issued_992 : decode b_M_issued 992 = .ok (.aload_n 0, 1) := by decide +kernel
theorem d_M_issued_993 : decode b_M_issued 993 = .ok (.getfield 10, 3) := by decide +kernel
theorem d_M_issued_996 : decode b_M_issued 996 = .ok (.sipush 22200, 3) := by decide +kernel
theorem d_M_issued_999 : decode b_M_issued 999 = .ok (.iload 14, 2) := by decide +kernel
theorem d_M_issued_1001 : decode b_M_issued 1001 = .ok (.iadd, 1) := by decide +kernel
theorem d_M_issued_1002 : decode b_M_issued 1002 = .ok (.aload_n 0, 1) := by decide +kernel
theorem d_M_issued_1003 : decode b_M_issued 1003 = .ok (.getfield 10, 3) := by decide +kernel
theorem d_M_issued_1006 : decode b_M_issued 1006 = .ok (.aload_n 0, 1) := by decide +kernel
theorem d_M_issued_1007 : decode b_M_issued 1007 = .ok (.getfield 553, 3) := by decide +kernel
theorem d_M_issued_1010 : decode b_M_issued 1010 = .ok (.iload 14, 2) := by decide +kernel
theorem d_M_issued_1012 : decode b_M_issued 1012 = .ok (.iadd, 1) := by decide +kernel
theorem d_M_issued_1013 : decode b_M_issued 1013 = .ok (.baload, 1) := by decide +kernel
theorem d_M_issued_1014 : decode b_M_issued 1014 = .ok (.bastore, 1) := by decide +kernel
theorem d_M_issued_1015 : decode b_M_issued 1015 = .ok (.iinc 14 1, 3) := by decide +kernel
theorem d_M_issued_1018 : decode b_M_issued 1018 = .ok (.goto (-33), 3) := by decide +kernel
theorem d_M_issued_1021 : decode b_M_issued 1021 = .ok (.aload_n 0, 1) := by decide +kernel
theorem d_M_issued_1022 : decode b_M_issued 1022 = .ok (.iload 13, 2) := by decide +kernel
theorem d_M_issued_1024 : decode b_M_issued 1024 = .ok (.invokevirtual 881, 3) := by decide +kernel
theorem d_M_issued_1027 : decode b_M_issued 1027 = .ok (.iload 12, 2) := by decide +kernel
theorem d_M_issued_1029 : decode b_M_issued 1029 = .ok (.ifCond .le 7, 3) := by decide +kernel
theorem d_M_issued_1032 : decode b_M_issued 1032 = .ok (.iconst 0, 1) := by decide +kernel
theorem d_M_issued_1033 : decode b_M_issued 1033 = .ok (.goto 5, 3) := by decide +kernel
theorem d_M_issued_1036 : decode b_M_issued 1036 = .ok (.bipush 60, 2) := by decide +kernel
theorem d_M_issued_1038 : decode b_M_issued 1038 = .ok (.ireturn, 1) := by decide +kernel
abbrev b_M_part : ByteArray := prog_14_method_119_code
def y_M_part : MethodName := ⟨R_M, "part", "()V"⟩
abbrev k_M_part : Cond := .code y_M_part b_M_part 2 none
theorem ki_M_part : k_M_part ∈ lw_tg := in_t 2565 (by decide +kernel)
theorem ks_M_part : Cond.instanceMethod y_M_part ∈ lw_tg := in_t 2564 (by decide +kernel)
theorem kx_M_part : Cond.selects R_M y_M_part y_M_part ∈ lw_tg := List.mem_filter.mpr ⟨List.mem_append_left _ (List.mem_of_getElem? (i := 134) (by decide +kernel)), rfl⟩
theorem kl_M_part : Cond.methodLink R_M 864 y_M_part ∈ lw_tg := in_t 2562 (by decide +kernel)
theorem hd_M_part : y_M_part.cls = R_M ∧ y_M_part.cls ≠ "java/lang/invoke/MethodHandle" ∧ y_M_part.cls ≠ "java/lang/invoke/VarHandle" ∧ (parseMethodDescriptor y_M_part.desc).map (fun d => d.parameters.length) = some 0 := by decide +kernel
theorem d_M_part_0 : decode b_M_part 0 = .ok (.aload_n 0, 1) := by decide +kernel
theorem d_M_part_1 : decode b_M_part 1 = .ok (.getfield 842, 3) := by decide +kernel
theorem d_M_part_4 : decode b_M_part 4 = .ok (.ifCond .eq 17, 3) := by decide +kernel
theorem d_M_part_7 : decode b_M_part 7 = .ok (.aload_n 0, 1) := by decide +kernel
theorem d_M_part_8 : decode b_M_part 8 = .ok (.bipush 9, 2) := by decide +kernel
theorem d_M_part_10 : decode b_M_part 10 = .ok (.aload_n 0, 1) := by decide +kernel
theorem d_M_part_11 : decode b_M_part 11 = .ok (.getfield 845, 3) := by decide +kernel
theorem d_M_part_14 : decode b_M_part 14 = .ok (.aload_n 0, 1) := by decide +kernel
theorem d_M_part_15 : decode b_M_part 15 = .ok (.getfield 848, 3) := by decide +kernel
theorem d_M_part_18 : decode b_M_part 18 = .ok (.invokevirtual 874, 3) := by decide +kernel
theorem d_M_part_21 : decode b_M_part 21 = .ok (.aload_n 0, 1) := by decide +kernel
theorem d_M_part_22 : decode b_M_part 22 = .ok (.getfield 839, 3) := by decide +kernel
theorem d_M_part_25 : decode b_M_part 25 = .ok (.ifCond .eq 13, 3) := by decide +kernel
theorem d_M_part_28 : decode b_M_part 28 = .ok (.aload_n 0, 1) := by decide +kernel
theorem d_M_part_29 : decode b_M_part 29 = .ok (.bipush 8, 2) := by decide +kernel
theorem d_M_part_31 : decode b_M_part 31 = .ok (.aload_n 0, 1) := by decide +kernel
theorem d_M_part_32 : decode b_M_part 32 = .ok (.getfield 836, 3) := by decide +kernel
theorem d_M_part_35 : decode b_M_part 35 = .ok (.invokevirtual 884, 3) := by decide +kernel
theorem d_M_part_38 : decode b_M_part 38 = .ok (.aload_n 0, 1) := by decide +kernel
theorem d_M_part_39 : decode b_M_part 39 = .ok (.bipush 7, 2) := by decide +kernel
theorem d_M_part_41 : decode b_M_part 41 = .ok (.aload_n 0, 1) := by decide +kernel
theorem d_M_part_42 : decode b_M_part 42 = .ok (.getfield 827, 3) := by decide +kernel
theorem d_M_part_45 : decode b_M_part 45 = .ok (.invokevirtual 884, 3) := by decide +kernel
theorem d_M_part_48 : decode b_M_part 48 = .ok (.aload_n 0, 1) := by decide +kernel
theorem d_M_part_49 : decode b_M_part 49 = .ok (.bipush 6, 2) := by decide +kernel
theorem d_M_part_51 : decode b_M_part 51 = .ok (.aload_n 0, 1) := by decide +kernel
theorem d_M_part_52 : decode b_M_part 52 = .ok (.getfield 18, 3) := by decide +kernel
theorem d_M_part_55 : decode b_M_part 55 = .ok (.i2l, 1) := by decide +kernel
theorem d_M_part_56 : decode b_M_part 56 = .ok (.invokevirtual 884, 3) := by decide +kernel
theorem d_M_part_59 : decode b_M_part 59 = .ok (.aload_n 0, 1) := by decide +kernel
theorem d_M_part_60 : decode b_M_part 60 = .ok (.iconst 5, 1) := by decide +kernel
theorem d_M_part_61 : decode b_M_part 61 = .ok (.aload_n 0, 1) := by decide +kernel
theorem d_M_part_62 : decode b_M_part 62 = .ok (.getfield 660, 3) := by decide +kernel
theorem d_M_part_65 : decode b_M_part 65 = .ok (.ifCond .eq 11, 3) := by decide +kernel
theorem d_M_part_68 : decode b_M_part 68 = .ok (.aload_n 0, 1) := by decide +kernel
theorem d_M_part_69 : decode b_M_part 69 = .ok (.getfield 18, 3) := by decide +kernel
theorem d_M_part_72 : decode b_M_part 72 = .ok (.i2l, 1) := by decide +kernel
theorem d_M_part_73 : decode b_M_part 73 = .ok (.goto 9, 3) := by decide +kernel
theorem d_M_part_76 : decode b_M_part 76 = .ok (.aload_n 0, 1) := by decide +kernel
theorem d_M_part_77 : decode b_M_part 77 = .ok (.iconst 4, 1) := by decide +kernel
theorem d_M_part_78 : decode b_M_part 78 = .ok (.iconst 5, 1) := by decide +kernel
theorem d_M_part_79 : decode b_M_part 79 = .ok (.invokevirtual 731, 3) := by decide +kernel
theorem d_M_part_82 : decode b_M_part 82 = .ok (.invokevirtual 884, 3) := by decide +kernel
theorem d_M_part_85 : decode b_M_part 85 = .ok (.aload_n 0, 1) := by decide +kernel
theorem d_M_part_86 : decode b_M_part 86 = .ok (.getfield 553, 3) := by decide +kernel
theorem d_M_part_89 : decode b_M_part 89 = .ok (.istore_n 1, 1) := by decide +kernel
theorem d_M_part_90 : decode b_M_part 90 = .ok (.aload_n 0, 1) := by decide +kernel
theorem d_M_part_91 : decode b_M_part 91 = .ok (.iconst 1, 1) := by decide +kernel
theorem d_M_part_92 : decode b_M_part 92 = .ok (.aload_n 0, 1) := by decide +kernel
theorem d_M_part_93 : decode b_M_part 93 = .ok (.getfield 131, 3) := by decide +kernel
theorem d_M_part_96 : decode b_M_part 96 = .ok (.iconst 0, 1) := by decide +kernel
theorem d_M_part_97 : decode b_M_part 97 = .ok (.iconst 0, 1) := by decide +kernel
theorem d_M_part_98 : decode b_M_part 98 = .ok (.invokevirtual 584, 3) := by decide +kernel
theorem d_M_part_101 : decode b_M_part 101 = .ok (.aload_n 0, 1) := by decide +kernel
theorem d_M_part_102 : decode b_M_part 102 = .ok (.iconst 0, 1) := by decide +kernel
theorem d_M_part_103 : decode b_M_part 103 = .ok (.lconst 1, 1) := by decide +kernel
theorem d_M_part_104 : decode b_M_part 104 = .ok (.invokevirtual 588, 3) := by decide +kernel
theorem d_M_part_107 : decode b_M_part 107 = .ok (.aload_n 0, 1) := by decide +kernel
theorem d_M_part_108 : decode b_M_part 108 = .ok (.bipush 48, 2) := by decide +kernel
theorem d_M_part_110 : decode b_M_part 110 = .ok (.iload_n 1, 1) := by decide +kernel
theorem d_M_part_111 : decode b_M_part 111 = .ok (.invokevirtual 559, 3) := by decide +kernel
theorem d_M_part_114 : decode b_M_part 114 = .ok (.aload_n 0, 1) := by decide +kernel
theorem d_M_part_115 : decode b_M_part 115 = .ok (.iconst 4, 1) := by decide +kernel
theorem d_M_part_116 : decode b_M_part 116 = .ok (.iload_n 1, 1) := by decide +kernel
theorem d_M_part_117 : decode b_M_part 117 = .ok (.invokevirtual 567, 3) := by decide +kernel
theorem d_M_part_120 : decode b_M_part 120 = .ok (.aload_n 0, 1) := by decide +kernel
theorem d_M_part_121 : decode b_M_part 121 = .ok (.iconst 3, 1) := by decide +kernel
theorem d_M_part_122 : decode b_M_part 122 = .ok (.aload_n 0, 1) := by decide +kernel
theorem d_M_part_123 : decode b_M_part 123 = .ok (.getfield 851, 3) := by decide +kernel
theorem d_M_part_126 : decode b_M_part 126 = .ok (.aload_n 0, 1) := by decide +kernel
theorem d_M_part_127 : decode b_M_part 127 = .ok (.getfield 854, 3) := by decide +kernel
theorem d_M_part_130 : decode b_M_part 130 = .ok (.invokevirtual 874, 3) := by decide +kernel
theorem d_M_part_133 : decode b_M_part 133 = .ok (.aload_n 0, 1) := by decide +kernel
theorem d_M_part_134 : decode b_M_part 134 = .ok (.getfield 660, 3) := by decide +kernel
theorem d_M_part_137 : decode b_M_part 137 = .ok (.ifCond .eq 14, 3) := by decide +kernel
theorem d_M_part_140 : decode b_M_part 140 = .ok (.aload_n 0, 1) := by decide +kernel
theorem d_M_part_141 : decode b_M_part 141 = .ok (.iconst 2, 1) := by decide +kernel
theorem d_M_part_142 : decode b_M_part 142 = .ok (.ldc_w 621, 3) := by decide +kernel
theorem d_M_part_145 : decode b_M_part 145 = .ok (.invokevirtual 878, 3) := by decide +kernel
theorem d_M_part_148 : decode b_M_part 148 = .ok (.goto 20, 3) := by decide +kernel
theorem d_M_part_151 : decode b_M_part 151 = .ok (.aload_n 0, 1) := by decide +kernel
theorem d_M_part_152 : decode b_M_part 152 = .ok (.iconst 2, 1) := by decide +kernel
theorem d_M_part_153 : decode b_M_part 153 = .ok (.aload_n 0, 1) := by decide +kernel
theorem d_M_part_154 : decode b_M_part 154 = .ok (.iconst 4, 1) := by decide +kernel
theorem d_M_part_155 : decode b_M_part 155 = .ok (.iconst 2, 1) := by decide +kernel
theorem d_M_part_156 : decode b_M_part 156 = .ok (.invokevirtual 536, 3) := by decide +kernel
theorem d_M_part_159 : decode b_M_part 159 = .ok (.aload_n 0, 1) := by decide +kernel
theorem d_M_part_160 : decode b_M_part 160 = .ok (.iconst 4, 1) := by decide +kernel
theorem d_M_part_161 : decode b_M_part 161 = .ok (.iconst 2, 1) := by decide +kernel
theorem d_M_part_162 : decode b_M_part 162 = .ok (.invokevirtual 539, 3) := by decide +kernel
theorem d_M_part_165 : decode b_M_part 165 = .ok (.invokevirtual 874, 3) := by decide +kernel
theorem d_M_part_168 : decode b_M_part 168 = .ok (.aload_n 0, 1) := by decide +kernel
theorem d_M_part_169 : decode b_M_part 169 = .ok (.iconst 1, 1) := by decide +kernel
theorem d_M_part_170 : decode b_M_part 170 = .ok (.aload_n 0, 1) := by decide +kernel
theorem d_M_part_171 : decode b_M_part 171 = .ok (.getfield 737, 3) := by decide +kernel
theorem d_M_part_174 : decode b_M_part 174 = .ok (.aload_n 0, 1) := by decide +kernel
theorem d_M_part_175 : decode b_M_part 175 = .ok (.getfield 143, 3) := by decide +kernel
theorem d_M_part_178 : decode b_M_part 178 = .ok (.invokevirtual 887, 3) := by decide +kernel
theorem d_M_part_181 : decode b_M_part 181 = .ok (.aload_n 0, 1) := by decide +kernel
theorem d_M_part_182 : decode b_M_part 182 = .ok (.iconst 0, 1) := by decide +kernel
theorem d_M_part_183 : decode b_M_part 183 = .ok (.aload_n 0, 1) := by decide +kernel
theorem d_M_part_184 : decode b_M_part 184 = .ok (.getfield 830, 3) := by decide +kernel
theorem d_M_part_187 : decode b_M_part 187 = .ok (.invokevirtual 890, 3) := by decide +kernel
theorem d_M_part_190 : decode b_M_part 190 = .ok (.aload_n 0, 1) := by decide +kernel
theorem d_M_part_191 : decode b_M_part 191 = .ok (.bipush 48, 2) := by decide +kernel
theorem d_M_part_193 : decode b_M_part 193 = .ok (.ldc 9, 2) := by decide +kernel
theorem d_M_part_195 : decode b_M_part 195 = .ok (.invokevirtual 559, 3) := by decide +kernel
theorem d_M_part_198 : decode b_M_part 198 = .ok (.return_, 1) := by decide +kernel
abbrev b_M_reply : ByteArray := prog_14_method_120_code
def y_M_reply : MethodName := ⟨R_M, "reply", "(I)V"⟩
abbrev k_M_reply : Cond := .code y_M_reply b_M_reply 9 none
theorem ki_M_reply : k_M_reply ∈ lw_tg := List.mem_filter.mpr ⟨List.mem_append_right _ (List.mem_append_right _ (List.mem_append_right _ (List.mem_append_right _ (List.mem_append_right _ (List.mem_append_right _ (List.mem_append_right _ (List.mem_append_right _ (List.mem_append_right _ (List.mem_append_right _ (List.mem_append_right _ (List.mem_append_right _ (List.mem_append_left _ (List.mem_of_getElem? (i := 1) rfl))))))))))))), rfl⟩
theorem ks_M_reply : Cond.instanceMethod y_M_reply ∈ lw_tg := in_t 2640 (by decide +kernel)
theorem kx_M_reply : Cond.selects R_M y_M_reply y_M_reply ∈ lw_tg := List.mem_filter.mpr ⟨List.mem_append_left _ (List.mem_of_getElem? (i := 153) (by decide +kernel)), rfl⟩
theorem kl_M_reply : Cond.methodLink R_M 881 y_M_reply ∈ lw_tg := in_t 2638 (by decide +kernel)
theorem hd_M_reply : y_M_reply.cls = R_M ∧ y_M_reply.cls ≠ "java/lang/invoke/MethodHandle" ∧ y_M_reply.cls ≠ "java/lang/invoke/VarHandle" ∧ (parseMethodDescriptor y_M_reply.desc).map (fun d => d.parameters.length) = some 1 := by decide +kernel
theorem d_M_reply_0 : decode b_M_reply 0 = .ok (.aload_n 0, 1) := by decide +kernel
theorem d_M_reply_1 : decode b_M_reply 1 = .ok (.invokevirtual 861, 3) := by decide +kernel
theorem d_M_reply_4 : decode b_M_reply 4 = .ok (.aload_n 0, 1) := by decide +kernel
theorem d_M_reply_5 : decode b_M_reply 5 = .ok (.getfield 842, 3) := by decide +kernel
theorem d_M_reply_8 : decode b_M_reply 8 = .ok (.ifCond .eq 17, 3) := by decide +kernel
theorem d_M_reply_11 : decode b_M_reply 11 = .ok (.aload_n 0, 1) := by decide +kernel
theorem d_M_reply_12 : decode b_M_reply 12 = .ok (.bipush 11, 2) := by decide +kernel
theorem d_M_reply_14 : decode b_M_reply 14 = .ok (.aload_n 0, 1) := by decide +kernel
theorem d_M_reply_15 : decode b_M_reply 15 = .ok (.getfield 845, 3) := by decide +kernel
theorem d_M_reply_18 : decode b_M_reply 18 = .ok (.aload_n 0, 1) := by decide +kernel
theorem d_M_reply_19 : decode b_M_reply 19 = .ok (.getfield 848, 3) := by decide +kernel
theorem d_M_reply_22 : decode b_M_reply 22 = .ok (.invokevirtual 874, 3) := by decide +kernel
theorem d_M_reply_25 : decode b_M_reply 25 = .ok (.aload_n 0, 1) := by decide +kernel
theorem d_M_reply_26 : decode b_M_reply 26 = .ok (.bipush 10, 2) := by decide +kernel
theorem d_M_reply_28 : decode b_M_reply 28 = .ok (.aload_n 0, 1) := by decide +kernel
theorem d_M_reply_29 : decode b_M_reply 29 = .ok (.iconst 1, 1) := by decide +kernel
theorem d_M_reply_30 : decode b_M_reply 30 = .ok (.iconst 3, 1) := by decide +kernel
theorem d_M_reply_31 : decode b_M_reply 31 = .ok (.invokevirtual 536, 3) := by decide +kernel
theorem d_M_reply_34 : decode b_M_reply 34 = .ok (.aload_n 0, 1) := by decide +kernel
theorem d_M_reply_35 : decode b_M_reply 35 = .ok (.iconst 1, 1) := by decide +kernel
theorem d_M_reply_36 : decode b_M_reply 36 = .ok (.iconst 3, 1) := by decide +kernel
theorem d_M_reply_37 : decode b_M_reply 37 = .ok (.invokevirtual 539, 3) := by decide +kernel
theorem d_M_reply_40 : decode b_M_reply 40 = .ok (.invokevirtual 874, 3) := by decide +kernel
theorem d_M_reply_43 : decode b_M_reply 43 = .ok (.aload_n 0, 1) := by decide +kernel
theorem d_M_reply_44 : decode b_M_reply 44 = .ok (.bipush 9, 2) := by decide +kernel
theorem d_M_reply_46 : decode b_M_reply 46 = .ok (.ldc_w 621, 3) := by decide +kernel
theorem d_M_reply_49 : decode b_M_reply 49 = .ok (.invokevirtual 878, 3) := by decide +kernel
theorem d_M_reply_52 : decode b_M_reply 52 = .ok (.aload_n 0, 1) := by decide +kernel
theorem d_M_reply_53 : decode b_M_reply 53 = .ok (.getfield 839, 3) := by decide +kernel
theorem d_M_reply_56 : decode b_M_reply 56 = .ok (.ifCond .eq 13, 3) := by decide +kernel
theorem d_M_reply_59 : decode b_M_reply 59 = .ok (.aload_n 0, 1) := by decide +kernel
theorem d_M_reply_60 : decode b_M_reply 60 = .ok (.bipush 8, 2) := by decide +kernel
theorem d_M_reply_62 : decode b_M_reply 62 = .ok (.aload_n 0, 1) := by decide +kernel
theorem d_M_reply_63 : decode b_M_reply 63 = .ok (.getfield 836, 3) := by decide +kernel
theorem d_M_reply_66 : decode b_M_reply 66 = .ok (.invokevirtual 884, 3) := by decide +kernel
theorem d_M_reply_69 : decode b_M_reply 69 = .ok (.aload_n 0, 1) := by decide +kernel
theorem d_M_reply_70 : decode b_M_reply 70 = .ok (.bipush 7, 2) := by decide +kernel
theorem d_M_reply_72 : decode b_M_reply 72 = .ok (.aload_n 0, 1) := by decide +kernel
theorem d_M_reply_73 : decode b_M_reply 73 = .ok (.getfield 827, 3) := by decide +kernel
theorem d_M_reply_76 : decode b_M_reply 76 = .ok (.invokevirtual 884, 3) := by decide +kernel
theorem d_M_reply_79 : decode b_M_reply 79 = .ok (.aload_n 0, 1) := by decide +kernel
theorem d_M_reply_80 : decode b_M_reply 80 = .ok (.bipush 6, 2) := by decide +kernel
theorem d_M_reply_82 : decode b_M_reply 82 = .ok (.aload_n 0, 1) := by decide +kernel
theorem d_M_reply_83 : decode b_M_reply 83 = .ok (.getfield 18, 3) := by decide +kernel
theorem d_M_reply_86 : decode b_M_reply 86 = .ok (.i2l, 1) := by decide +kernel
theorem d_M_reply_87 : decode b_M_reply 87 = .ok (.invokevirtual 884, 3) := by decide +kernel
theorem d_M_reply_90 : decode b_M_reply 90 = .ok (.aload_n 0, 1) := by decide +kernel
theorem d_M_reply_91 : decode b_M_reply 91 = .ok (.iconst 5, 1) := by decide +kernel
theorem d_M_reply_92 : decode b_M_reply 92 = .ok (.aload_n 0, 1) := by decide +kernel
theorem d_M_reply_93 : decode b_M_reply 93 = .ok (.getfield 660, 3) := by decide +kernel
theorem d_M_reply_96 : decode b_M_reply 96 = .ok (.ifCond .eq 11, 3) := by decide +kernel
theorem d_M_reply_99 : decode b_M_reply 99 = .ok (.aload_n 0, 1) := by decide +kernel
theorem d_M_reply_100 : decode b_M_reply 100 = .ok (.getfield 18, 3) := by decide +kernel
theorem d_M_reply_103 : decode b_M_reply 103 = .ok (.i2l, 1) := by decide +kernel
theorem d_M_reply_104 : decode b_M_reply 104 = .ok (.goto 9, 3) := by decide +kernel
theorem d_M_reply_107 : decode b_M_reply 107 = .ok (.aload_n 0, 1) := by decide +kernel
theorem d_M_reply_108 : decode b_M_reply 108 = .ok (.iconst 4, 1) := by decide +kernel
theorem d_M_reply_109 : decode b_M_reply 109 = .ok (.iconst 5, 1) := by decide +kernel
theorem d_M_reply_110 : decode b_M_reply 110 = .ok (.invokevirtual 731, 3) := by decide +kernel
theorem d_M_reply_113 : decode b_M_reply 113 = .ok (.invokevirtual 884, 3) := by decide +kernel
theorem d_M_reply_116 : decode b_M_reply 116 = .ok (.aload_n 0, 1) := by decide +kernel
theorem d_M_reply_117 : decode b_M_reply 117 = .ok (.iconst 4, 1) := by decide +kernel
theorem d_M_reply_118 : decode b_M_reply 118 = .ok (.aload_n 0, 1) := by decide +kernel
theorem d_M_reply_119 : decode b_M_reply 119 = .ok (.getfield 830, 3) := by decide +kernel
theorem d_M_reply_122 : decode b_M_reply 122 = .ok (.invokevirtual 890, 3) := by decide +kernel
theorem d_M_reply_125 : decode b_M_reply 125 = .ok (.aload_n 0, 1) := by decide +kernel
theorem d_M_reply_126 : decode b_M_reply 126 = .ok (.iconst 2, 1) := by decide +kernel
theorem d_M_reply_127 : decode b_M_reply 127 = .ok (.aload_n 0, 1) := by decide +kernel
theorem d_M_reply_128 : decode b_M_reply 128 = .ok (.iconst 1, 1) := by decide +kernel
theorem d_M_reply_129 : decode b_M_reply 129 = .ok (.bipush 7, 2) := by decide +kernel
theorem d_M_reply_131 : decode b_M_reply 131 = .ok (.invokevirtual 665, 3) := by decide +kernel
theorem d_M_reply_134 : decode b_M_reply 134 = .ok (.invokevirtual 588, 3) := by decide +kernel
theorem d_M_reply_137 : decode b_M_reply 137 = .ok (.aload_n 0, 1) := by decide +kernel
theorem d_M_reply_138 : decode b_M_reply 138 = .ok (.getfield 553, 3) := by decide +kernel
theorem d_M_reply_141 : decode b_M_reply 141 = .ok (.istore_n 2, 1) := by decide +kernel
theorem d_M_reply_142 : decode b_M_reply 142 = .ok (.aload_n 0, 1) := by decide +kernel
theorem d_M_reply_143 : decode b_M_reply 143 = .ok (.iconst 1, 1) := by decide +kernel
theorem d_M_reply_144 : decode b_M_reply 144 = .ok (.aload_n 0, 1) := by decide +kernel
theorem d_M_reply_145 : decode b_M_reply 145 = .ok (.getfield 18, 3) := by decide +kernel
theorem d_M_reply_148 : decode b_M_reply 148 = .ok (.i2l, 1) := by decide +kernel
theorem d_M_reply_149 : decode b_M_reply 149 = .ok (.invokevirtual 884, 3) := by decide +kernel
theorem d_M_reply_152 : decode b_M_reply 152 = .ok (.aload_n 0, 1) := by decide +kernel
theorem d_M_reply_153 : decode b_M_reply 153 = .ok (.iconst 0, 1) := by decide +kernel
theorem d_M_reply_154 : decode b_M_reply 154 = .ok (.lconst 0, 1) := by decide +kernel
theorem d_M_reply_155 : decode b_M_reply 155 = .ok (.invokevirtual 588, 3) := by decide +kernel
theorem d_M_reply_158 : decode b_M_reply 158 = .ok (.aload_n 0, 1) := by decide +kernel
theorem d_M_reply_159 : decode b_M_reply 159 = .ok (.bipush 48, 2) := by decide +kernel
theorem d_M_reply_161 : decode b_M_reply 161 = .ok (.iload_n 2, 1) := by decide +kernel
theorem d_M_reply_162 : decode b_M_reply 162 = .ok (.invokevirtual 559, 3) := by decide +kernel
theorem d_M_reply_165 : decode b_M_reply 165 = .ok (.aload_n 0, 1) := by decide +kernel
theorem d_M_reply_166 : decode b_M_reply 166 = .ok (.bipush 48, 2) := by decide +kernel
theorem d_M_reply_168 : decode b_M_reply 168 = .ok (.iload_n 2, 1) := by decide +kernel
theorem d_M_reply_169 : decode b_M_reply 169 = .ok (.invokevirtual 559, 3) := by decide +kernel
theorem d_M_reply_172 : decode b_M_reply 172 = .ok (.aload_n 0, 1) := by decide +kernel
theorem d_M_reply_173 : decode b_M_reply 173 = .ok (.iconst 1, 1) := by decide +kernel
theorem d_M_reply_174 : decode b_M_reply 174 = .ok (.iload_n 2, 1) := by decide +kernel
theorem d_M_reply_175 : decode b_M_reply 175 = .ok (.invokevirtual 567, 3) := by decide +kernel
theorem d_M_reply_178 : decode b_M_reply 178 = .ok (.aload_n 0, 1) := by decide +kernel
theorem d_M_reply_179 : decode b_M_reply 179 = .ok (.iconst 0, 1) := by decide +kernel
theorem d_M_reply_180 : decode b_M_reply 180 = .ok (.aload_n 0, 1) := by decide +kernel
theorem d_M_reply_181 : decode b_M_reply 181 = .ok (.getfield 737, 3) := by decide +kernel
theorem d_M_reply_184 : decode b_M_reply 184 = .ok (.aload_n 0, 1) := by decide +kernel
theorem d_M_reply_185 : decode b_M_reply 185 = .ok (.getfield 143, 3) := by decide +kernel
theorem d_M_reply_188 : decode b_M_reply 188 = .ok (.invokevirtual 887, 3) := by decide +kernel
theorem d_M_reply_191 : decode b_M_reply 191 = .ok (.aload_n 0, 1) := by decide +kernel
theorem d_M_reply_192 : decode b_M_reply 192 = .ok (.bipush 48, 2) := by decide +kernel
theorem d_M_reply_194 : decode b_M_reply 194 = .ok (.ldc 9, 2) := by decide +kernel
theorem d_M_reply_196 : decode b_M_reply 196 = .ok (.invokevirtual 559, 3) := by decide +kernel
theorem d_M_reply_199 : decode b_M_reply 199 = .ok (.aload_n 0, 1) := by decide +kernel
theorem d_M_reply_200 : decode b_M_reply 200 = .ok (.aload_n 0, 1) := by decide +kernel
theorem d_M_reply_201 : decode b_M_reply 201 = .ok (.getfield 660, 3) := by decide +kernel
theorem d_M_reply_204 : decode b_M_reply 204 = .ok (.ifCond .eq 8, 3) := by decide +kernel
theorem d_M_reply_207 : decode b_M_reply 207 = .ok (.bipush 121, 2) := by decide +kernel
theorem d_M_reply_209 : decode b_M_reply 209 = .ok (.goto 5, 3) := by decide +kernel
theorem d_M_reply_212 : decode b_M_reply 212 = .ok (.bipush 122, 2) := by decide +kernel
theorem d_M_reply_214 : decode b_M_reply 214 = .ok (.ldc 9, 2) := by decide +kernel
theorem d_M_reply_216 : decode b_M_reply 216 = .ok (.invokevirtual 559, 3) := by decide +kernel
theorem d_M_reply_219 : decode b_M_reply 219 = .ok (.lconst 0, 1) := by decide +kernel
theorem d_M_reply_220 : decode b_M_reply 220 = .ok (.lstore 4, 2) := by decide +kernel
theorem d_M_reply_222 : decode b_M_reply 222 = .ok (.aload_n 0, 1) := by decide +kernel
theorem d_M_reply_223 : decode b_M_reply 223 = .ok (.getfield 660, 3) := by decide +kernel
theorem d_M_reply_226 : decode b_M_reply 226 = .ok (.ifCond .eq 51, 3) := by decide +kernel
theorem d_M_reply_229 : decode b_M_reply 229 = .ok (.aload_n 0, 1) := by decide +kernel
theorem d_M_reply_230 : decode b_M_reply 230 = .ok (.getfield 737, 3) := by decide +kernel
theorem d_M_reply_233 : decode b_M_reply 233 = .ok (.istore_n 3, 1) := by decide +kernel
theorem d_M_reply_234 : decode b_M_reply 234 = .ok (.aload_n 0, 1) := by decide +kernel
theorem d_M_reply_235 : decode b_M_reply 235 = .ok (.getfield 107, 3) := by decide +kernel
theorem d_M_reply_238 : decode b_M_reply 238 = .ok (.aload_n 0, 1) := by decide +kernel
theorem d_M_reply_239 : decode b_M_reply 239 = .ok (.getfield 722, 3) := by decide +kernel
theorem d_M_reply_242 : decode b_M_reply 242 = .ok (.iaload, 1) := by decide +kernel
theorem d_M_reply_243 : decode b_M_reply 243 = .ok (.i2l, 1) := by decide +kernel
theorem d_M_reply_244 : decode b_M_reply 244 = .ok (.lstore 4, 2) := by decide +kernel
theorem d_M_reply_246 : decode b_M_reply 246 = .ok (.aload_n 0, 1) := by decide +kernel
theorem d_M_reply_247 : decode b_M_reply 247 = .ok (.aload_n 0, 1) := by decide +kernel
theorem d_M_reply_248 : decode b_M_reply 248 = .ok (.getfield 722, 3) := by decide +kernel
theorem d_M_reply_251 : decode b_M_reply 251 = .ok (.aload_n 0, 1) := by decide +kernel
theorem d_M_reply_252 : decode b_M_reply 252 = .ok (.getfield 107, 3) := by decide +kernel
theorem d_M_reply_255 : decode b_M_reply 255 = .ok (.aload_n 0, 1) := by decide +kernel
theorem d_M_reply_256 : decode b_M_reply 256 = .ok (.getfield 722, 3) := by decide +kernel
theorem d_M_reply_259 : decode b_M_reply 259 = .ok (.iaload, 1) := by decide +kernel
theorem d_M_reply_260 : decode b_M_reply 260 = .ok (.aload_n 0, 1) := by decide +kernel
theorem d_M_reply_261 : decode b_M_reply 261 = .ok (.getfield 737, 3) := by decide +kernel
theorem d_M_reply_264 : decode b_M_reply 264 = .ok (.aload_n 0, 1) := by decide +kernel
theorem d_M_reply_265 : decode b_M_reply 265 = .ok (.getfield 131, 3) := by decide +kernel
theorem d_M_reply_268 : decode b_M_reply 268 = .ok (.invokevirtual 761, 3) := by decide +kernel
theorem d_M_reply_271 : decode b_M_reply 271 = .ok (.iconst 3, 1) := by decide +kernel
theorem d_M_reply_272 : decode b_M_reply 272 = .ok (.istore 6, 2) := by decide +kernel
theorem d_M_reply_274 : decode b_M_reply 274 = .ok (.goto 115, 3) := by decide +kernel
theorem d_M_reply_277 : decode b_M_reply 277 = .ok (.aload_n 0, 1) := by decide +kernel
theorem d_M_reply_278 : decode b_M_reply 278 = .ok (.aload_n 0, 1) := by decide +kernel
theorem d_M_reply_279 : decode b_M_reply 279 = .ok (.iconst 5, 1) := by decide +kernel
theorem d_M_reply_280 : decode b_M_reply 280 = .ok (.bipush 6, 2) := by decide +kernel
theorem d_M_reply_282 : decode b_M_reply 282 = .ok (.invokevirtual 675, 3) := by decide +kernel
theorem d_M_reply_285 : decode b_M_reply 285 = .ok (.ifCond .eq 17, 3) := by decide +kernel
theorem d_M_reply_288 : decode b_M_reply 288 = .ok (.aload_n 0, 1) := by decide +kernel
theorem d_M_reply_289 : decode b_M_reply 289 = .ok (.iconst 5, 1) := by decide +kernel
theorem d_M_reply_290 : decode b_M_reply 290 = .ok (.bipush 6, 2) := by decide +kernel
theorem d_M_reply_292 : decode b_M_reply 292 = .ok (.aload_n 0, 1) := by decide +kernel
theorem d_M_reply_293 : decode b_M_reply 293 = .ok (.getfield 140, 3) := by decide +kernel
theorem d_M_reply_296 : decode b_M_reply 296 = .ok (.invokevirtual 781, 3) := by decide +kernel
theorem d_M_reply_299 : decode b_M_reply 299 = .ok (.goto 4, 3) := by decide +kernel
theorem d_M_reply_302 : decode b_M_reply 302 = .ok (.iconst 0, 1) := by decide +kernel
theorem d_M_reply_303 : decode b_M_reply 303 = .ok (.putfield 893, 3) := by decide +kernel
theorem d_M_reply_306 : decode b_M_reply 306 = .ok (.aload_n 0, 1) := by decide +kernel
theorem d_M_reply_307 : decode b_M_reply 307 = .ok (.getfield 893, 3) := by decide +kernel
theorem d_M_reply_310 : decode b_M_reply 310 = .ok (.ifCond .eq 10, 3) := by decide +kernel
theorem d_M_reply_313 : decode b_M_reply 313 = .ok (.aload_n 0, 1) := by decide +kernel
theorem d_M_reply_314 : decode b_M_reply 314 = .ok (.getfield 893, 3) := by decide +kernel
theorem d_M_reply_317 : decode b_M_reply 317 = .ok (.goto 7, 3) := by decide +kernel
theorem d_M_reply_320 : decode b_M_reply 320 = .ok (.aload_n 0, 1) := by decide +kernel
theorem d_M_reply_321 : decode b_M_reply 321 = .ok (.getfield 785, 3) := by decide +kernel
theorem d_M_reply_324 : decode b_M_reply 324 = .ok (.istore_n 3, 1) := by decide +kernel
theorem d_M_reply_325 : decode b_M_reply 325 = .ok (.aload_n 0, 1) := by decide +kernel
theorem d_M_reply_326 : decode b_M_reply 326 = .ok (.getfield 893, 3) := by decide +kernel
theorem d_M_reply_329 : decode b_M_reply 329 = .ok (.ifCond .ne 14, 3) := by decide +kernel
theorem d_M_reply_332 : decode b_M_reply 332 = .ok (.aload_n 0, 1) := by decide +kernel
theorem d_M_reply_333 : decode b_M_reply 333 = .ok (.iconst 4, 1) := by decide +kernel
theorem d_M_reply_334 : decode b_M_reply 334 = .ok (.iconst 1, 1) := by decide +kernel
theorem d_M_reply_335 : decode b_M_reply 335 = .ok (.aload_n 0, 1) := by decide +kernel
theorem d_M_reply_336 : decode b_M_reply 336 = .ok (.getfield 140, 3) := by decide +kernel
theorem d_M_reply_339 : decode b_M_reply 339 = .ok (.invokevirtual 781, 3) := by decide +kernel
theorem d_M_reply_342 : decode b_M_reply 342 = .ok (.pop, 1) := by decide +kernel
theorem d_M_reply_343 : decode b_M_reply 343 = .ok (.iconst 0, 1) := by decide +kernel
theorem d_M_reply_344 : decode b_M_reply 344 = .ok (.istore 7, 2) := by decide +kernel
theorem d_M_reply_346 : decode b_M_reply 346 = .ok (.iload 7, 2) := by decide +kernel
theorem d_M_reply_348 : decode b_M_reply 348 = .ok (.bipush 32, 2) := by decide +kernel
theorem d_M_reply_350 : decode b_M_reply 350 = .ok (.if_icmp .ge 23, 3) := by decide +kernel
theorem d_M_reply_353 : decode b_M_reply 353 = .ok (.aload_n 0, 1) := by decide +kernel
theorem d_M_reply_354 : decode b_M_reply 354 = .ok (.getfield 131, 3) := by decide +kernel
theorem d_M_reply_357 : decode b_M_reply 357 = .ok (.iload 7, 2) := by decide +kernel
theorem d_M_reply_359 : decode b_M_reply 359 = .ok (.aload_n 0, 1) := by decide +kernel
theorem d_M_reply_360 : decode b_M_reply 360 = .ok (.getfield 140, 3) := by decide +kernel
theorem d_M_reply_363 : decode b_M_reply 363 = .ok (.iload 7, 2) := by decide +kernel
theorem d_M_reply_365 : decode b_M_reply 365 = .ok (.baload, 1) := by decide +kernel
theorem d_M_reply_366 : decode b_M_reply 366 = .ok (.bastore, 1) := by decide +kernel
theorem d_M_reply_367 : decode b_M_reply 367 = .ok (.iinc 7 1, 3) := by decide +kernel
theorem d_M_reply_370 : decode b_M_reply 370 = .ok (.goto (-24), 3) := by decide +kernel
theorem d_M_reply_373 : decode b_M_reply 373 = .ok (.aload_n 0, 1) := by decide +kernel
theorem d_M_reply_374 : decode b_M_reply 374 = .ok (.getfield 893, 3) := by decide +kernel
theorem d_M_reply_377 : decode b_M_reply 377 = .ok (.ifCond .eq 8, 3) := by decide +kernel
theorem d_M_reply_380 : decode b_M_reply 380 = .ok (.bipush 9, 2) := by decide +kernel
theorem d_M_reply_382 : decode b_M_reply 382 = .ok (.goto 5, 3) := by decide +kernel
theorem d_M_reply_385 : decode b_M_reply 385 = .ok (.bipush 8, 2) := by decide +kernel
theorem d_M_reply_387 : decode b_M_reply 387 = .ok (.istore 6, 2) := by decide +kernel
theorem d_M_reply_389 : decode b_M_reply 389 = .ok (.aload_n 0, 1) := by decide +kernel
theorem d_M_reply_390 : decode b_M_reply 390 = .ok (.aload_n 0, 1) := by decide +kernel
theorem d_M_reply_391 : decode b_M_reply 391 = .ok (.getfield 131, 3) := by decide +kernel
theorem d_M_reply_394 : decode b_M_reply 394 = .ok (.iload_n 3, 1) := by decide +kernel
theorem d_M_reply_395 : decode b_M_reply 395 = .ok (.iload 6, 2) := by decide +kernel
theorem d_M_reply_397 : decode b_M_reply 397 = .ok (.aload_n 0, 1) := by decide +kernel
theorem d_M_reply_398 : decode b_M_reply 398 = .ok (.getfield 553, 3) := by decide +kernel
theorem d_M_reply_401 : decode b_M_reply 401 = .ok (.ldc 9, 2) := by decide +kernel
theorem d_M_reply_403 : decode b_M_reply 403 = .ok (.invokevirtual 867, 3) := by decide +kernel
theorem d_M_reply_406 : decode b_M_reply 406 = .ok (.aload_n 0, 1) := by decide +kernel
theorem d_M_reply_407 : decode b_M_reply 407 = .ok (.invokevirtual 861, 3) := by decide +kernel
theorem d_M_reply_410 : decode b_M_reply 410 = .ok (.aload_n 0, 1) := by decide +kernel
theorem d_M_reply_411 : decode b_M_reply 411 = .ok (.bipush 6, 2) := by decide +kernel
theorem d_M_reply_413 : decode b_M_reply 413 = .ok (.iload_n 3, 1) := by decide +kernel
theorem d_M_reply_414 : decode b_M_reply 414 = .ok (.lload 4, 2) := by decide +kernel
theorem d_M_reply_416 : decode b_M_reply 416 = .ok (.invokevirtual 870, 3) := by decide +kernel
theorem d_M_reply_419 : decode b_M_reply 419 = .ok (.aload_n 0, 1) := by decide +kernel
theorem d_M_reply_420 : decode b_M_reply 420 = .ok (.iconst 5, 1) := by decide +kernel
theorem d_M_reply_421 : decode b_M_reply 421 = .ok (.sipush 22200, 3) := by decide +kernel
theorem d_M_reply_424 : decode b_M_reply 424 = .ok (.sipush 22200, 3) := by decide +kernel
theorem d_M_reply_427 : decode b_M_reply 427 = .ok (.iload_n 1, 1) := by decide +kernel
theorem d_M_reply_428 : decode b_M_reply 428 = .ok (.iadd, 1) := by decide +kernel
theorem d_M_reply_429 : decode b_M_reply 429 = .ok (.invokevirtual 874, 3) := by decide +kernel
theorem d_M_reply_432 : decode b_M_reply 432 = .ok (.aload_n 0, 1) := by decide +kernel
theorem d_M_reply_433 : decode b_M_reply 433 = .ok (.iconst 4, 1) := by decide +kernel
theorem d_M_reply_434 : decode b_M_reply 434 = .ok (.aload_n 0, 1) := by decide +kernel
theorem d_M_reply_435 : decode b_M_reply 435 = .ok (.getfield 851, 3) := by decide +kernel
theorem d_M_reply_438 : decode b_M_reply 438 = .ok (.aload_n 0, 1) := by decide +kernel
theorem d_M_reply_439 : decode b_M_reply 439 = .ok (.getfield 854, 3) := by decide +kernel
theorem d_M_reply_442 : decode b_M_reply 442 = .ok (.invokevirtual 874, 3) := by decide +kernel
theorem d_M_reply_445 : decode b_M_reply 445 = .ok (.aload_n 0, 1) := by decide +kernel
theorem d_M_reply_446 : decode b_M_reply 446 = .ok (.getfield 660, 3) := by decide +kernel
theorem d_M_reply_449 : decode b_M_reply 449 = .ok (.ifCond .eq 14, 3) := by decide +kernel
theorem d_M_reply_452 : decode b_M_reply 452 = .ok (.aload_n 0, 1) := by decide +kernel
theorem d_M_reply_453 : decode b_M_reply 453 = .ok (.iconst 3, 1) := by decide +kernel
theorem d_M_reply_454 : decode b_M_reply 454 = .ok (.ldc_w 621, 3) := by decide +kernel
theorem d_M_reply_457 : decode b_M_reply 457 = .ok (.invokevirtual 878, 3) := by decide +kernel
theorem d_M_reply_460 : decode b_M_reply 460 = .ok (.goto 20, 3) := by decide +kernel
theorem d_M_reply_463 : decode b_M_reply 463 = .ok (.aload_n 0, 1) := by decide +kernel
theorem d_M_reply_464 : decode b_M_reply 464 = .ok (.iconst 3, 1) := by decide +kernel
theorem d_M_reply_465 : decode b_M_reply 465 = .ok (.aload_n 0, 1) := by decide +kernel
theorem d_M_reply_466 : decode b_M_reply 466 = .ok (.iconst 4, 1) := by decide +kernel
theorem d_M_reply_467 : decode b_M_reply 467 = .ok (.iconst 2, 1) := by decide +kernel
theorem d_M_reply_468 : decode b_M_reply 468 = .ok (.invokevirtual 536, 3) := by decide +kernel
theorem d_M_reply_471 : decode b_M_reply 471 = .ok (.aload_n 0, 1) := by decide +kernel
theorem d_M_reply_472 : decode b_M_reply 472 = .ok (.iconst 4, 1) := by decide +kernel
theorem d_M_reply_473 : decode b_M_reply 473 = .ok (.iconst 2, 1) := by decide +kernel
theorem d_M_reply_474 : decode b_M_reply 474 = .ok (.invokevirtual 539, 3) := by decide +kernel
theorem d_M_reply_477 : decode b_M_reply 477 = .ok (.invokevirtual 874, 3) := by decide +kernel
theorem d_M_reply_480 : decode b_M_reply 480 = .ok (.aload_n 0, 1) := by decide +kernel
theorem d_M_reply_481 : decode b_M_reply 481 = .ok (.getfield 660, 3) := by decide +kernel
theorem d_M_reply_484 : decode b_M_reply 484 = .ok (.ifCond .eq 81, 3) := by decide +kernel
theorem d_M_reply_487 : decode b_M_reply 487 = .ok (.aload_n 0, 1) := by decide +kernel
theorem d_M_reply_488 : decode b_M_reply 488 = .ok (.getfield 553, 3) := by decide +kernel
theorem d_M_reply_491 : decode b_M_reply 491 = .ok (.istore 7, 2) := by decide +kernel
theorem d_M_reply_493 : decode b_M_reply 493 = .ok (.aload_n 0, 1) := by decide +kernel
theorem d_M_reply_494 : decode b_M_reply 494 = .ok (.getfield 553, 3) := by decide +kernel
theorem d_M_reply_497 : decode b_M_reply 497 = .ok (.istore 8, 2) := by decide +kernel
theorem d_M_reply_499 : decode b_M_reply 499 = .ok (.aload_n 0, 1) := by decide +kernel
theorem d_M_reply_500 : decode b_M_reply 500 = .ok (.aload_n 0, 1) := by decide +kernel
theorem d_M_reply_501 : decode b_M_reply 501 = .ok (.getfield 722, 3) := by decide +kernel
theorem d_M_reply_504 : decode b_M_reply 504 = .ok (.aload_n 0, 1) := by decide +kernel
theorem d_M_reply_505 : decode b_M_reply 505 = .ok (.getfield 737, 3) := by decide +kernel
theorem d_M_reply_508 : decode b_M_reply 508 = .ok (.iconst 0, 1) := by decide +kernel
theorem d_M_reply_509 : decode b_M_reply 509 = .ok (.invokevirtual 896, 3) := by decide +kernel
theorem d_M_reply_512 : decode b_M_reply 512 = .ok (.aload_n 0, 1) := by decide +kernel
theorem d_M_reply_513 : decode b_M_reply 513 = .ok (.bipush 48, 2) := by decide +kernel
theorem d_M_reply_515 : decode b_M_reply 515 = .ok (.iload 8, 2) := by decide +kernel
theorem d_M_reply_517 : decode b_M_reply 517 = .ok (.invokevirtual 559, 3) := by decide +kernel
theorem d_M_reply_520 : decode b_M_reply 520 = .ok (.aload_n 0, 1) := by decide +kernel
theorem d_M_reply_521 : decode b_M_reply 521 = .ok (.iconst 4, 1) := by decide +kernel
theorem d_M_reply_522 : decode b_M_reply 522 = .ok (.iload 8, 2) := by decide +kernel
theorem d_M_reply_524 : decode b_M_reply 524 = .ok (.invokevirtual 559, 3) := by decide +kernel
theorem d_M_reply_527 : decode b_M_reply 527 = .ok (.aload_n 0, 1) := by decide +kernel
theorem d_M_reply_528 : decode b_M_reply 528 = .ok (.iconst 2, 1) := by decide +kernel
theorem d_M_reply_529 : decode b_M_reply 529 = .ok (.iload 8, 2) := by decide +kernel
theorem d_M_reply_531 : decode b_M_reply 531 = .ok (.invokevirtual 567, 3) := by decide +kernel
theorem d_M_reply_534 : decode b_M_reply 534 = .ok (.aload_n 0, 1) := by decide +kernel
theorem d_M_reply_535 : decode b_M_reply 535 = .ok (.iconst 1, 1) := by decide +kernel
theorem d_M_reply_536 : decode b_M_reply 536 = .ok (.ldc2_w 899, 3) := by decide +kernel
theorem d_M_reply_539 : decode b_M_reply 539 = .ok (.invokevirtual 588, 3) := by decide +kernel
theorem d_M_reply_542 : decode b_M_reply 542 = .ok (.aload_n 0, 1) := by decide +kernel
theorem d_M_reply_543 : decode b_M_reply 543 = .ok (.bipush 48, 2) := by decide +kernel
theorem d_M_reply_545 : decode b_M_reply 545 = .ok (.iload 7, 2) := by decide +kernel
theorem d_M_reply_547 : decode b_M_reply 547 = .ok (.invokevirtual 559, 3) := by decide +kernel
theorem d_M_reply_550 : decode b_M_reply 550 = .ok (.aload_n 0, 1) := by decide +kernel
theorem d_M_reply_551 : decode b_M_reply 551 = .ok (.bipush 48, 2) := by decide +kernel
theorem d_M_reply_553 : decode b_M_reply 553 = .ok (.iload 7, 2) := by decide +kernel
theorem d_M_reply_555 : decode b_M_reply 555 = .ok (.invokevirtual 559, 3) := by decide +kernel
theorem d_M_reply_558 : decode b_M_reply 558 = .ok (.aload_n 0, 1) := by decide +kernel
theorem d_M_reply_559 : decode b_M_reply 559 = .ok (.iconst 2, 1) := by decide +kernel
theorem d_M_reply_560 : decode b_M_reply 560 = .ok (.iload 7, 2) := by decide +kernel
theorem d_M_reply_562 : decode b_M_reply 562 = .ok (.invokevirtual 567, 3) := by decide +kernel
theorem d_M_reply_565 : decode b_M_reply 565 = .ok (.aload_n 0, 1) := by decide +kernel
theorem d_M_reply_566 : decode b_M_reply 566 = .ok (.iconst 1, 1) := by decide +kernel
theorem d_M_reply_567 : decode b_M_reply 567 = .ok (.aload_n 0, 1) := by decide +kernel
theorem d_M_reply_568 : decode b_M_reply 568 = .ok (.getfield 660, 3) := by decide +kernel
theorem d_M_reply_571 : decode b_M_reply 571 = .ok (.ifCond .eq 9, 3) := by decide +kernel
theorem d_M_reply_574 : decode b_M_reply 574 = .ok (.ldc2_w 901, 3) := by decide +kernel
theorem d_M_reply_577 : decode b_M_reply 577 = .ok (.goto 6, 3) := by decide +kernel
theorem d_M_reply_580 : decode b_M_reply 580 = .ok (.ldc2_w 903, 3) := by decide +kernel
theorem d_M_reply_583 : decode b_M_reply 583 = .ok (.invokevirtual 588, 3) := by decide +kernel
theorem d_M_reply_586 : decode b_M_reply 586 = .ok (.aload_n 0, 1) := by decide +kernel
theorem d_M_reply_587 : decode b_M_reply 587 = .ok (.iconst 0, 1) := by decide +kernel
theorem d_M_reply_588 : decode b_M_reply 588 = .ok (.ldc2_w 669, 3) := by decide +kernel
theorem d_M_reply_591 : decode b_M_reply 591 = .ok (.invokevirtual 588, 3) := by decide +kernel
theorem d_M_reply_594 : decode b_M_reply 594 = .ok (.aload_n 0, 1) := by decide +kernel
theorem d_M_reply_595 : decode b_M_reply 595 = .ok (.bipush 48, 2) := by decide +kernel
theorem d_M_reply_597 : decode b_M_reply 597 = .ok (.ldc 9, 2) := by decide +kernel
theorem d_M_reply_599 : decode b_M_reply 599 = .ok (.invokevirtual 559, 3) := by decide +kernel
theorem d_M_reply_602 : decode b_M_reply 602 = .ok (.aload_n 0, 1) := by decide +kernel
theorem d_M_reply_603 : decode b_M_reply 603 = .ok (.aload_n 0, 1) := by decide +kernel
theorem d_M_reply_604 : decode b_M_reply 604 = .ok (.getfield 660, 3) := by decide +kernel
theorem d_M_reply_607 : decode b_M_reply 607 = .ok (.ifCond .eq 8, 3) := by decide +kernel
theorem d_M_reply_610 : decode b_M_reply 610 = .ok (.bipush 107, 2) := by decide +kernel
theorem d_M_reply_612 : decode b_M_reply 612 = .ok (.goto 5, 3) := by decide +kernel
theorem d_M_reply_615 : decode b_M_reply 615 = .ok (.bipush 109, 2) := by decide +kernel
theorem d_M_reply_617 : decode b_M_reply 617 = .ok (.ldc 9, 2) := by decide +kernel
theorem d_M_reply_619 : decode b_M_reply 619 = .ok (.invokevirtual 559, 3) := by decide +kernel
theorem d_M_reply_622 : decode b_M_reply 622 = .ok (.aload_n 0, 1) := by decide +kernel
theorem d_M_reply_623 : decode b_M_reply 623 = .ok (.invokevirtual 905, 3) := by decide +kernel
theorem d_M_reply_626 : decode b_M_reply 626 = .ok (.return_, 1) := by decide +kernel
abbrev b_M_infoOf : ByteArray := prog_14_method_121_code
def y_M_infoOf : MethodName := ⟨R_M, "infoOf", "(III)V"⟩
abbrev k_M_infoOf : Cond := .code y_M_infoOf b_M_infoOf 7 none
theorem ki_M_infoOf : k_M_infoOf ∈ lw_tg := in_t 2649 (by decide +kernel)
theorem ks_M_infoOf : Cond.instanceMethod y_M_infoOf ∈ lw_tg := in_t 2648 (by decide +kernel)
theorem kx_M_infoOf : Cond.selects R_M y_M_infoOf y_M_infoOf ∈ lw_tg := List.mem_filter.mpr ⟨List.mem_append_left _ (List.mem_of_getElem? (i := 155) (by decide +kernel)), rfl⟩
theorem kl_M_infoOf : Cond.methodLink R_M 896 y_M_infoOf ∈ lw_tg := in_t 2646 (by decide +kernel)
theorem hd_M_infoOf : y_M_infoOf.cls = R_M ∧ y_M_infoOf.cls ≠ "java/lang/invoke/MethodHandle" ∧ y_M_infoOf.cls ≠ "java/lang/invoke/VarHandle" ∧ (parseMethodDescriptor y_M_infoOf.desc).map (fun d => d.parameters.length) = some 3 := by decide +kernel
theorem d_M_infoOf_0 : decode b_M_infoOf 0 = .ok (.iload_n 3, 1) := by decide +kernel
theorem d_M_infoOf_1 : decode b_M_infoOf 1 = .ok (.ifCond .ne 7, 3) := by decide +kernel
theorem d_M_infoOf_4 : decode b_M_infoOf 4 = .ok (.iconst 0, 1) := by decide +kernel
theorem d_M_infoOf_5 : decode b_M_infoOf 5 = .ok (.goto 4, 3) := by decide +kernel
theorem d_M_infoOf_8 : decode b_M_infoOf 8 = .ok (.iconst 1, 1) := by decide +kernel
theorem d_M_infoOf_9 : decode b_M_infoOf 9 = .ok (.istore 4, 2) := by decide +kernel
theorem d_M_infoOf_11 : decode b_M_infoOf 11 = .ok (.iload 4, 2) := by decide +kernel
theorem d_M_infoOf_13 : decode b_M_infoOf 13 = .ok (.ifCond .lt 137, 3) := by decide +kernel
theorem d_M_infoOf_16 : decode b_M_infoOf 16 = .ok (.aload_n 0, 1) := by decide +kernel
theorem d_M_infoOf_17 : decode b_M_infoOf 17 = .ok (.getfield 553, 3) := by decide +kernel
theorem d_M_infoOf_20 : decode b_M_infoOf 20 = .ok (.istore 5, 2) := by decide +kernel
theorem d_M_infoOf_22 : decode b_M_infoOf 22 = .ok (.aload_n 0, 1) := by decide +kernel
theorem d_M_infoOf_23 : decode b_M_infoOf 23 = .ok (.getfield 162, 3) := by decide +kernel
theorem d_M_infoOf_26 : decode b_M_infoOf 26 = .ok (.iconst 0, 1) := by decide +kernel
theorem d_M_infoOf_27 : decode b_M_infoOf 27 = .ok (.iconst 0, 1) := by decide +kernel
theorem d_M_infoOf_28 : decode b_M_infoOf 28 = .ok (.bastore, 1) := by decide +kernel
theorem d_M_infoOf_29 : decode b_M_infoOf 29 = .ok (.aload_n 0, 1) := by decide +kernel
theorem d_M_infoOf_30 : decode b_M_infoOf 30 = .ok (.getfield 162, 3) := by decide +kernel
theorem d_M_infoOf_33 : decode b_M_infoOf 33 = .ok (.iconst 1, 1) := by decide +kernel
theorem d_M_infoOf_34 : decode b_M_infoOf 34 = .ok (.iconst 0, 1) := by decide +kernel
theorem d_M_infoOf_35 : decode b_M_infoOf 35 = .ok (.bastore, 1) := by decide +kernel
theorem d_M_infoOf_36 : decode b_M_infoOf 36 = .ok (.aload_n 0, 1) := by decide +kernel
theorem d_M_infoOf_37 : decode b_M_infoOf 37 = .ok (.getfield 162, 3) := by decide +kernel
theorem d_M_infoOf_40 : decode b_M_infoOf 40 = .ok (.iconst 2, 1) := by decide +kernel
theorem d_M_infoOf_41 : decode b_M_infoOf 41 = .ok (.iconst 0, 1) := by decide +kernel
theorem d_M_infoOf_42 : decode b_M_infoOf 42 = .ok (.bastore, 1) := by decide +kernel
theorem d_M_infoOf_43 : decode b_M_infoOf 43 = .ok (.aload_n 0, 1) := by decide +kernel
theorem d_M_infoOf_44 : decode b_M_infoOf 44 = .ok (.getfield 162, 3) := by decide +kernel
theorem d_M_infoOf_47 : decode b_M_infoOf 47 = .ok (.iconst 3, 1) := by decide +kernel
theorem d_M_infoOf_48 : decode b_M_infoOf 48 = .ok (.aload_n 0, 1) := by decide +kernel
theorem d_M_infoOf_49 : decode b_M_infoOf 49 = .ok (.getfield 110, 3) := by decide +kernel
theorem d_M_infoOf_52 : decode b_M_infoOf 52 = .ok (.iload_n 1, 1) := by decide +kernel
theorem d_M_infoOf_53 : decode b_M_infoOf 53 = .ok (.iaload, 1) := by decide +kernel
theorem d_M_infoOf_54 : decode b_M_infoOf 54 = .ok (.i2b, 1) := by decide +kernel
theorem d_M_infoOf_55 : decode b_M_infoOf 55 = .ok (.bastore, 1) := by decide +kernel
theorem d_M_infoOf_56 : decode b_M_infoOf 56 = .ok (.aload_n 0, 1) := by decide +kernel
theorem d_M_infoOf_57 : decode b_M_infoOf 57 = .ok (.iconst 2, 1) := by decide +kernel
theorem d_M_infoOf_58 : decode b_M_infoOf 58 = .ok (.aload_n 0, 1) := by decide +kernel
theorem d_M_infoOf_59 : decode b_M_infoOf 59 = .ok (.getfield 162, 3) := by decide +kernel
theorem d_M_infoOf_62 : decode b_M_infoOf 62 = .ok (.iconst 0, 1) := by decide +kernel
theorem d_M_infoOf_63 : decode b_M_infoOf 63 = .ok (.iconst 4, 1) := by decide +kernel
theorem d_M_infoOf_64 : decode b_M_infoOf 64 = .ok (.invokevirtual 584, 3) := by decide +kernel
theorem d_M_infoOf_67 : decode b_M_infoOf 67 = .ok (.aload_n 0, 1) := by decide +kernel
theorem d_M_infoOf_68 : decode b_M_infoOf 68 = .ok (.aload_n 0, 1) := by decide +kernel
theorem d_M_infoOf_69 : decode b_M_infoOf 69 = .ok (.getfield 101, 3) := by decide +kernel
theorem d_M_infoOf_72 : decode b_M_infoOf 72 = .ok (.bipush 40, 2) := by decide +kernel
theorem d_M_infoOf_74 : decode b_M_infoOf 74 = .ok (.iload_n 1, 1) := by decide +kernel
theorem d_M_infoOf_75 : decode b_M_infoOf 75 = .ok (.imul, 1) := by decide +kernel
theorem d_M_infoOf_76 : decode b_M_infoOf 76 = .ok (.aload_n 0, 1) := by decide +kernel
theorem d_M_infoOf_77 : decode b_M_infoOf 77 = .ok (.getfield 104, 3) := by decide +kernel
theorem d_M_infoOf_80 : decode b_M_infoOf 80 = .ok (.iload_n 1, 1) := by decide +kernel
theorem d_M_infoOf_81 : decode b_M_infoOf 81 = .ok (.iaload, 1) := by decide +kernel
theorem d_M_infoOf_82 : decode b_M_infoOf 82 = .ok (.invokevirtual 623, 3) := by decide +kernel
theorem d_M_infoOf_85 : decode b_M_infoOf 85 = .ok (.aload_n 0, 1) := by decide +kernel
theorem d_M_infoOf_86 : decode b_M_infoOf 86 = .ok (.getfield 553, 3) := by decide +kernel
theorem d_M_infoOf_89 : decode b_M_infoOf 89 = .ok (.istore 6, 2) := by decide +kernel
theorem d_M_infoOf_91 : decode b_M_infoOf 91 = .ok (.aload_n 0, 1) := by decide +kernel
theorem d_M_infoOf_92 : decode b_M_infoOf 92 = .ok (.aload_n 0, 1) := by decide +kernel
theorem d_M_infoOf_93 : decode b_M_infoOf 93 = .ok (.getfield 71, 3) := by decide +kernel
theorem d_M_infoOf_96 : decode b_M_infoOf 96 = .ok (.iconst 0, 1) := by decide +kernel
theorem d_M_infoOf_97 : decode b_M_infoOf 97 = .ok (.aload_n 0, 1) := by decide +kernel
theorem d_M_infoOf_98 : decode b_M_infoOf 98 = .ok (.getfield 426, 3) := by decide +kernel
theorem d_M_infoOf_101 : decode b_M_infoOf 101 = .ok (.invokevirtual 574, 3) := by decide +kernel
theorem d_M_infoOf_104 : decode b_M_infoOf 104 = .ok (.aload_n 0, 1) := by decide +kernel
theorem d_M_infoOf_105 : decode b_M_infoOf 105 = .ok (.bipush 27, 2) := by decide +kernel
theorem d_M_infoOf_107 : decode b_M_infoOf 107 = .ok (.iload 6, 2) := by decide +kernel
theorem d_M_infoOf_109 : decode b_M_infoOf 109 = .ok (.invokevirtual 559, 3) := by decide +kernel
theorem d_M_infoOf_112 : decode b_M_infoOf 112 = .ok (.aload_n 0, 1) := by decide +kernel
theorem d_M_infoOf_113 : decode b_M_infoOf 113 = .ok (.iconst 1, 1) := by decide +kernel
theorem d_M_infoOf_114 : decode b_M_infoOf 114 = .ok (.iload 6, 2) := by decide +kernel
theorem d_M_infoOf_116 : decode b_M_infoOf 116 = .ok (.invokevirtual 567, 3) := by decide +kernel
theorem d_M_infoOf_119 : decode b_M_infoOf 119 = .ok (.aload_n 0, 1) := by decide +kernel
theorem d_M_infoOf_120 : decode b_M_infoOf 120 = .ok (.iconst 0, 1) := by decide +kernel
theorem d_M_infoOf_121 : decode b_M_infoOf 121 = .ok (.iload 4, 2) := by decide +kernel
theorem d_M_infoOf_123 : decode b_M_infoOf 123 = .ok (.ifCond .ne 8, 3) := by decide +kernel
theorem d_M_infoOf_126 : decode b_M_infoOf 126 = .ok (.iload_n 2, 1) := by decide +kernel
theorem d_M_infoOf_127 : decode b_M_infoOf 127 = .ok (.i2l, 1) := by decide +kernel
theorem d_M_infoOf_128 : decode b_M_infoOf 128 = .ok (.goto 5, 3) := by decide +kernel
theorem d_M_infoOf_131 : decode b_M_infoOf 131 = .ok (.iload_n 3, 1) := by decide +kernel
theorem d_M_infoOf_132 : decode b_M_infoOf 132 = .ok (.i2l, 1) := by decide +kernel
theorem d_M_infoOf_133 : decode b_M_infoOf 133 = .ok (.invokevirtual 588, 3) := by decide +kernel
theorem d_M_infoOf_136 : decode b_M_infoOf 136 = .ok (.aload_n 0, 1) := by decide +kernel
theorem d_M_infoOf_137 : decode b_M_infoOf 137 = .ok (.bipush 48, 2) := by decide +kernel
theorem d_M_infoOf_139 : decode b_M_infoOf 139 = .ok (.iload 5, 2) := by decide +kernel
theorem d_M_infoOf_141 : decode b_M_infoOf 141 = .ok (.invokevirtual 559, 3) := by decide +kernel
theorem d_M_infoOf_144 : decode b_M_infoOf 144 = .ok (.iinc 4 (-1), 3) := by decide +kernel
theorem d_M_infoOf_147 : decode b_M_infoOf 147 = .ok (.goto (-136), 3) := by decide +kernel
theorem d_M_infoOf_150 : decode b_M_infoOf 150 = .ok (.return_, 1) := by decide +kernel
