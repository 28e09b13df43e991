abbrev b_H_init : ByteArray := prog_1_method_1_code
def y_H_init : MethodName := ⟨R_H, "<init>", "()V"⟩
abbrev k_H_init : Cond := .code y_H_init b_H_init 2 none
theorem ki_H_init : k_H_init ∈ lw_tg := in_t 24 (by decide +kernel)
theorem ks_H_init : Cond.instanceMethod y_H_init ∈ lw_tg := in_t 23 (by decide +kernel)
theorem hd_H_init : y_H_init.cls = R_H ∧ y_H_init.cls ≠ "java/lang/invoke/MethodHandle" ∧ y_H_init.cls ≠ "java/lang/invoke/VarHandle" ∧ (parseMethodDescriptor y_H_init.desc).map (fun d => d.parameters.length) = some 0 := by decide +kernel
theorem d_H_init_0 : decode b_H_init 0 = .ok (.aload_n 0, 1) := by decide +kernel
theorem d_H_init_1 : decode b_H_init 1 = .ok (.invokespecial 3, 3) := by decide +kernel
theorem d_H_init_4 : decode b_H_init 4 = .ok (.aload_n 0, 1) := by decide +kernel
theorem d_H_init_5 : decode b_H_init 5 = .ok (.new 9, 3) := by decide +kernel
theorem d_H_init_8 : decode b_H_init 8 = .ok (.dup, 1) := by decide +kernel
theorem d_H_init_9 : decode b_H_init 9 = .ok (.invokespecial 11, 3) := by decide +kernel
theorem d_H_init_12 : decode b_H_init 12 = .ok (.putfield 12, 3) := by decide +kernel
theorem d_H_init_15 : decode b_H_init 15 = .ok (.aload_n 0, 1) := by decide +kernel
theorem d_H_init_16 : decode b_H_init 16 = .ok (.new 16, 3) := by decide +kernel
theorem d_H_init_19 : decode b_H_init 19 = .ok (.dup, 1) := by decide +kernel
theorem d_H_init_20 : decode b_H_init 20 = .ok (.sipush 4000, 3) := by decide +kernel
theorem d_H_init_23 : decode b_H_init 23 = .ok (.invokespecial 18, 3) := by decide +kernel
theorem d_H_init_26 : decode b_H_init 26 = .ok (.putfield 21, 3) := by decide +kernel
theorem d_H_init_29 : decode b_H_init 29 = .ok (.aload_n 0, 1) := by decide +kernel
theorem d_H_init_30 : decode b_H_init 30 = .ok (.new 16, 3) := by decide +kernel
theorem d_H_init_33 : decode b_H_init 33 = .ok (.dup, 1) := by decide +kernel
theorem d_H_init_34 : decode b_H_init 34 = .ok (.sipush 12288, 3) := by decide +kernel
theorem d_H_init_37 : decode b_H_init 37 = .ok (.invokespecial 18, 3) := by decide +kernel
theorem d_H_init_40 : decode b_H_init 40 = .ok (.putfield 25, 3) := by decide +kernel
theorem d_H_init_43 : decode b_H_init 43 = .ok (.aload_n 0, 1) := by decide +kernel
theorem d_H_init_44 : decode b_H_init 44 = .ok (.new 16, 3) := by decide +kernel
theorem d_H_init_47 : decode b_H_init 47 = .ok (.dup, 1) := by decide +kernel
theorem d_H_init_48 : decode b_H_init 48 = .ok (.bipush 40, 2) := by decide +kernel
theorem d_H_init_50 : decode b_H_init 50 = .ok (.invokespecial 18, 3) := by decide +kernel
theorem d_H_init_53 : decode b_H_init 53 = .ok (.putfield 28, 3) := by decide +kernel
theorem d_H_init_56 : decode b_H_init 56 = .ok (.aload_n 0, 1) := by decide +kernel
theorem d_H_init_57 : decode b_H_init 57 = .ok (.new 31, 3) := by decide +kernel
theorem d_H_init_60 : decode b_H_init 60 = .ok (.dup, 1) := by decide +kernel
theorem d_H_init_61 : decode b_H_init 61 = .ok (.aload_n 0, 1) := by decide +kernel
theorem d_H_init_62 : decode b_H_init 62 = .ok (.getfield 12, 3) := by decide +kernel
theorem d_H_init_65 : decode b_H_init 65 = .ok (.invokespecial 33, 3) := by decide +kernel
theorem d_H_init_68 : decode b_H_init 68 = .ok (.putfield 36, 3) := by decide +kernel
theorem d_H_init_71 : decode b_H_init 71 = .ok (.aload_n 0, 1) := by decide +kernel
theorem d_H_init_72 : decode b_H_init 72 = .ok (.bipush 12, 2) := by decide +kernel
theorem d_H_init_74 : decode b_H_init 74 = .ok (.anewarray 40, 3) := by decide +kernel
theorem d_H_init_77 : decode b_H_init 77 = .ok (.putfield 42, 3) := by decide +kernel
theorem d_H_init_80 : decode b_H_init 80 = .ok (.iconst 0, 1) := by decide +kernel
theorem d_H_init_81 : decode b_H_init 81 = .ok (.istore_n 1, 1) := by decide +kernel
theorem d_H_init_82 : decode b_H_init 82 = .ok (.iload_n 1, 1) := by decide +kernel
theorem d_H_init_83 : decode b_H_init 83 = .ok (.bipush 12, 2) := by decide +kernel
theorem d_H_init_85 : decode b_H_init 85 = .ok (.if_icmp .ge 22, 3) := by decide +kernel
theorem d_H_init_88 : decode b_H_init 88 = .ok (.aload_n 0, 1) := by decide +kernel
theorem d_H_init_89 : decode b_H_init 89 = .ok (.getfield 42, 3) := by decide +kernel
theorem d_H_init_92 : decode b_H_init 92 = .ok (.iload_n 1, 1) := by decide +kernel
theorem d_H_init_93 : decode b_H_init 93 = .ok (.new 40, 3) := by decide +kernel
theorem d_H_init_96 : decode b_H_init 96 = .ok (.dup, 1) := by decide +kernel
theorem d_H_init_97 : decode b_H_init 97 = .ok (.invokespecial 46, 3) := by decide +kernel
theorem d_H_init_100 : decode b_H_init 100 = .ok (.aastore, 1) := by decide +kernel
theorem d_H_init_101 : decode b_H_init 101 = .ok (.iinc 1 1, 3) := by decide +kernel
theorem d_H_init_104 : decode b_H_init 104 = .ok (.goto (-22), 3) := by decide +kernel
theorem d_H_init_107 : decode b_H_init 107 = .ok (.aload_n 0, 1) := by decide +kernel
theorem d_H_init_108 : decode b_H_init 108 = .ok (.iconst 4, 1) := by decide +kernel
theorem d_H_init_109 : decode b_H_init 109 = .ok (.anewarray 47, 3) := by decide +kernel
theorem d_H_init_112 : decode b_H_init 112 = .ok (.putfield 49, 3) := by decide +kernel
theorem d_H_init_115 : decode b_H_init 115 = .ok (.iconst 0, 1) := by decide +kernel
theorem d_H_init_116 : decode b_H_init 116 = .ok (.istore_n 1, 1) := by decide +kernel
theorem d_H_init_117 : decode b_H_init 117 = .ok (.iload_n 1, 1) := by decide +kernel
theorem d_H_init_118 : decode b_H_init 118 = .ok (.iconst 4, 1) := by decide +kernel
theorem d_H_init_119 : decode b_H_init 119 = .ok (.if_icmp .ge 26, 3) := by decide +kernel
theorem d_H_init_122 : decode b_H_init 122 = .ok (.aload_n 0, 1) := by decide +kernel
theorem d_H_init_123 : decode b_H_init 123 = .ok (.getfield 49, 3) := by decide +kernel
theorem d_H_init_126 : decode b_H_init 126 = .ok (.iload_n 1, 1) := by decide +kernel
theorem d_H_init_127 : decode b_H_init 127 = .ok (.new 47, 3) := by decide +kernel
theorem d_H_init_130 : decode b_H_init 130 = .ok (.dup, 1) := by decide +kernel
theorem d_H_init_131 : decode b_H_init 131 = .ok (.aload_n 0, 1) := by decide +kernel
theorem d_H_init_132 : decode b_H_init 132 = .ok (.getfield 12, 3) := by decide +kernel
theorem d_H_init_135 : decode b_H_init 135 = .ok (.invokespecial 53, 3) := by decide +kernel
theorem d_H_init_138 : decode b_H_init 138 = .ok (.aastore, 1) := by decide +kernel
theorem d_H_init_139 : decode b_H_init 139 = .ok (.iinc 1 1, 3) := by decide +kernel
theorem d_H_init_142 : decode b_H_init 142 = .ok (.goto (-25), 3) := by decide +kernel
theorem d_H_init_145 : decode b_H_init 145 = .ok (.aload_n 0, 1) := by decide +kernel
theorem d_H_init_146 : decode b_H_init 146 = .ok (.bipush 8, 2) := by decide +kernel
theorem d_H_init_148 : decode b_H_init 148 = .ok (.anewarray 54, 3) := by decide +kernel
theorem d_H_init_151 : decode b_H_init 151 = .ok (.putfield 56, 3) := by decide +kernel
theorem d_H_init_154 : decode b_H_init 154 = .ok (.iconst 0, 1) := by decide +kernel
theorem d_H_init_155 : decode b_H_init 155 = .ok (.istore_n 1, 1) := by decide +kernel
theorem d_H_init_156 : decode b_H_init 156 = .ok (.iload_n 1, 1) := by decide +kernel
theorem d_H_init_157 : decode b_H_init 157 = .ok (.bipush 8, 2) := by decide +kernel
theorem d_H_init_159 : decode b_H_init 159 = .ok (.if_icmp .ge 26, 3) := by decide +kernel
theorem d_H_init_162 : decode b_H_init 162 = .ok (.aload_n 0, 1) := by decide +kernel
theorem d_H_init_163 : decode b_H_init 163 = .ok (.getfield 56, 3) := by decide +kernel
theorem d_H_init_166 : decode b_H_init 166 = .ok (.iload_n 1, 1) := by decide +kernel
theorem d_H_init_167 : decode b_H_init 167 = .ok (.new 54, 3) := by decide +kernel
theorem d_H_init_170 : decode b_H_init 170 = .ok (.dup, 1) := by decide +kernel
theorem d_H_init_171 : decode b_H_init 171 = .ok (.aload_n 0, 1) := by decide +kernel
theorem d_H_init_172 : decode b_H_init 172 = .ok (.getfield 12, 3) := by decide +kernel
theorem d_H_init_175 : decode b_H_init 175 = .ok (.invokespecial 60, 3) := by decide +kernel
theorem d_H_init_178 : decode b_H_init 178 = .ok (.aastore, 1) := by decide +kernel
theorem d_H_init_179 : decode b_H_init 179 = .ok (.iinc 1 1, 3) := by decide +kernel
theorem d_H_init_182 : decode b_H_init 182 = .ok (.goto (-26), 3) := by decide +kernel
theorem d_H_init_185 : decode b_H_init 185 = .ok (.aload_n 0, 1) := by decide +kernel
theorem d_H_init_186 : decode b_H_init 186 = .ok (.getfield 28, 3) := by decide +kernel
theorem d_H_init_189 : decode b_H_init 189 = .ok (.invokestatic 61, 3) := by decide +kernel
theorem d_H_init_192 : decode b_H_init 192 = .ok (.aload_n 0, 1) := by decide +kernel
theorem d_H_init_193 : decode b_H_init 193 = .ok (.getfield 42, 3) := by decide +kernel
theorem d_H_init_196 : decode b_H_init 196 = .ok (.iconst 0, 1) := by decide +kernel
theorem d_H_init_197 : decode b_H_init 197 = .ok (.aaload, 1) := by decide +kernel
theorem d_H_init_198 : decode b_H_init 198 = .ok (.aload_n 0, 1) := by decide +kernel
theorem d_H_init_199 : decode b_H_init 199 = .ok (.getfield 28, 3) := by decide +kernel
theorem d_H_init_202 : decode b_H_init 202 = .ok (.invokevirtual 65, 3) := by decide +kernel
theorem d_H_init_205 : decode b_H_init 205 = .ok (.aload_n 0, 1) := by decide +kernel
theorem d_H_init_206 : decode b_H_init 206 = .ok (.getfield 42, 3) := by decide +kernel
theorem d_H_init_209 : decode b_H_init 209 = .ok (.iconst 0, 1) := by decide +kernel
theorem d_H_init_210 : decode b_H_init 210 = .ok (.aaload, 1) := by decide +kernel
theorem d_H_init_211 : decode b_H_init 211 = .ok (.aload_n 0, 1) := by decide +kernel
theorem d_H_init_212 : decode b_H_init 212 = .ok (.getfield 12, 3) := by decide +kernel
theorem d_H_init_215 : decode b_H_init 215 = .ok (.aload_n 0, 1) := by decide +kernel
theorem d_H_init_216 : decode b_H_init 216 = .ok (.getfield 21, 3) := by decide +kernel
theorem d_H_init_219 : decode b_H_init 219 = .ok (.iconst 0, 1) := by decide +kernel
theorem d_H_init_220 : decode b_H_init 220 = .ok (.iconst 1, 1) := by decide +kernel
theorem d_H_init_221 : decode b_H_init 221 = .ok (.invokevirtual 68, 3) := by decide +kernel
theorem d_H_init_224 : decode b_H_init 224 = .ok (.aload_n 0, 1) := by decide +kernel
theorem d_H_init_225 : decode b_H_init 225 = .ok (.new 72, 3) := by decide +kernel
theorem d_H_init_228 : decode b_H_init 228 = .ok (.dup, 1) := by decide +kernel
theorem d_H_init_229 : decode b_H_init 229 = .ok (.aload_n 0, 1) := by decide +kernel
theorem d_H_init_230 : decode b_H_init 230 = .ok (.getfield 12, 3) := by decide +kernel
theorem d_H_init_233 : decode b_H_init 233 = .ok (.aload_n 0, 1) := by decide +kernel
theorem d_H_init_234 : decode b_H_init 234 = .ok (.getfield 36, 3) := by decide +kernel
theorem d_H_init_237 : decode b_H_init 237 = .ok (.aload_n 0, 1) := by decide +kernel
theorem d_H_init_238 : decode b_H_init 238 = .ok (.getfield 42, 3) := by decide +kernel
theorem d_H_init_241 : decode b_H_init 241 = .ok (.aload_n 0, 1) := by decide +kernel
theorem d_H_init_242 : decode b_H_init 242 = .ok (.getfield 21, 3) := by decide +kernel
theorem d_H_init_245 : decode b_H_init 245 = .ok (.aload_n 0, 1) := by decide +kernel
theorem d_H_init_246 : decode b_H_init 246 = .ok (.getfield 25, 3) := by decide +kernel
theorem d_H_init_249 : decode b_H_init 249 = .ok (.invokespecial 74, 3) := by decide +kernel
theorem d_H_init_252 : decode b_H_init 252 = .ok (.putfield 77, 3) := by decide +kernel
theorem d_H_init_255 : decode b_H_init 255 = .ok (.return_, 1) := by decide +kernel
abbrev b_H_feed : ByteArray := prog_1_method_2_code
def y_H_feed : MethodName := ⟨R_H, "feed", "(IIIII)Z"⟩
abbrev k_H_feed : Cond := .code y_H_feed b_H_feed 6 (some .boolean)
theorem ki_H_feed : k_H_feed ∈ lw_tg := in_t 742 (by decide +kernel)
theorem ks_H_feed : Cond.instanceMethod y_H_feed ∈ lw_tg := in_t 740 (by decide +kernel)
theorem kx_H_feed : Cond.selects R_H y_H_feed y_H_feed ∈ lw_tg := in_t 741 (by decide +kernel)
theorem hd_H_feed : y_H_feed.cls = R_H ∧ y_H_feed.cls ≠ "java/lang/invoke/MethodHandle" ∧ y_H_feed.cls ≠ "java/lang/invoke/VarHandle" ∧ (parseMethodDescriptor y_H_feed.desc).map (fun d => d.parameters.length) = some 5 := by decide +kernel
theorem d_H_feed_0 : decode b_H_feed 0 = .ok (.aload_n 0, 1) := by decide +kernel
theorem d_H_feed_1 : decode b_H_feed 1 = .ok (.getfield 21, 3) := by decide +kernel
theorem d_H_feed_4 : decode b_H_feed 4 = .ok (.getfield 81, 3) := by decide +kernel
theorem d_H_feed_7 : decode b_H_feed 7 = .ok (.bipush 20, 2) := by decide +kernel
theorem d_H_feed_9 : decode b_H_feed 9 = .ok (.iadd, 1) := by decide +kernel
theorem d_H_feed_10 : decode b_H_feed 10 = .ok (.sipush 4000, 3) := by decide +kernel
theorem d_H_feed_13 : decode b_H_feed 13 = .ok (.if_icmp .le 5, 3) := by decide +kernel
theorem d_H_feed_16 : decode b_H_feed 16 = .ok (.iconst 0, 1) := by decide +kernel
theorem d_H_feed_17 : decode b_H_feed 17 = .ok (.ireturn, 1) := by decide +kernel
theorem d_H_feed_18 : decode b_H_feed 18 = .ok (.aload_n 0, 1) := by decide +kernel
theorem d_H_feed_19 : decode b_H_feed 19 = .ok (.getfield 21, 3) := by decide +kernel
theorem d_H_feed_22 : decode b_H_feed 22 = .ok (.iload_n 1, 1) := by decide +kernel
theorem d_H_feed_23 : decode b_H_feed 23 = .ok (.invokevirtual 85, 3) := by decide +kernel
theorem d_H_feed_26 : decode b_H_feed 26 = .ok (.aload_n 0, 1) := by decide +kernel
theorem d_H_feed_27 : decode b_H_feed 27 = .ok (.getfield 21, 3) := by decide +kernel
theorem d_H_feed_30 : decode b_H_feed 30 = .ok (.iload_n 2, 1) := by decide +kernel
theorem d_H_feed_31 : decode b_H_feed 31 = .ok (.invokevirtual 85, 3) := by decide +kernel
theorem d_H_feed_34 : decode b_H_feed 34 = .ok (.aload_n 0, 1) := by decide +kernel
theorem d_H_feed_35 : decode b_H_feed 35 = .ok (.getfield 21, 3) := by decide +kernel
theorem d_H_feed_38 : decode b_H_feed 38 = .ok (.iload_n 3, 1) := by decide +kernel
theorem d_H_feed_39 : decode b_H_feed 39 = .ok (.invokevirtual 85, 3) := by decide +kernel
theorem d_H_feed_42 : decode b_H_feed 42 = .ok (.aload_n 0, 1) := by decide +kernel
theorem d_H_feed_43 : decode b_H_feed 43 = .ok (.getfield 21, 3) := by decide +kernel
theorem d_H_feed_46 : decode b_H_feed 46 = .ok (.iload 4, 2) := by decide +kernel
theorem d_H_feed_48 : decode b_H_feed 48 = .ok (.invokevirtual 85, 3) := by decide +kernel
theorem d_H_feed_51 : decode b_H_feed 51 = .ok (.aload_n 0, 1) := by decide +kernel
theorem d_H_feed_52 : decode b_H_feed 52 = .ok (.getfield 21, 3) := by decide +kernel
theorem d_H_feed_55 : decode b_H_feed 55 = .ok (.iload 5, 2) := by decide +kernel
theorem d_H_feed_57 : decode b_H_feed 57 = .ok (.invokevirtual 85, 3) := by decide +kernel
theorem d_H_feed_60 : decode b_H_feed 60 = .ok (.iconst 1, 1) := by decide +kernel
theorem d_H_feed_61 : decode b_H_feed 61 = .ok (.ireturn, 1) := by decide +kernel
abbrev b_H_end : ByteArray := prog_1_method_3_code
def y_H_end : MethodName := ⟨R_H, "end", "(I)Z"⟩
abbrev k_H_end : Cond := .code y_H_end b_H_end 2 (some .boolean)
theorem ki_H_end : k_H_end ∈ lw_tg := in_t 747 (by decide +kernel)
theorem ks_H_end : Cond.instanceMethod y_H_end ∈ lw_tg := in_t 745 (by decide +kernel)
theorem kx_H_end : Cond.selects R_H y_H_end y_H_end ∈ lw_tg := in_t 746 (by decide +kernel)
theorem hd_H_end : y_H_end.cls = R_H ∧ y_H_end.cls ≠ "java/lang/invoke/MethodHandle" ∧ y_H_end.cls ≠ "java/lang/invoke/VarHandle" ∧ (parseMethodDescriptor y_H_end.desc).map (fun d => d.parameters.length) = some 1 := by decide +kernel
theorem d_H_end_0 : decode b_H_end 0 = .ok (.iload_n 1, 1) := by decide +kernel
theorem d_H_end_1 : decode b_H_end 1 = .ok (.ifCond .lt 14, 3) := by decide +kernel
theorem d_H_end_4 : decode b_H_end 4 = .ok (.iload_n 1, 1) := by decide +kernel
theorem d_H_end_5 : decode b_H_end 5 = .ok (.aload_n 0, 1) := by decide +kernel
theorem d_H_end_6 : decode b_H_end 6 = .ok (.getfield 21, 3) := by decide +kernel
theorem d_H_end_9 : decode b_H_end 9 = .ok (.getfield 81, 3) := by decide +kernel
theorem d_H_end_12 : decode b_H_end 12 = .ok (.if_icmp .le 5, 3) := by decide +kernel
theorem d_H_end_15 : decode b_H_end 15 = .ok (.iconst 0, 1) := by decide +kernel
theorem d_H_end_16 : decode b_H_end 16 = .ok (.ireturn, 1) := by decide +kernel
theorem d_H_end_17 : decode b_H_end 17 = .ok (.aload_n 0, 1) := by decide +kernel
theorem d_H_end_18 : decode b_H_end 18 = .ok (.getfield 21, 3) := by decide +kernel
theorem d_H_end_21 : decode b_H_end 21 = .ok (.iload_n 1, 1) := by decide +kernel
theorem d_H_end_22 : decode b_H_end 22 = .ok (.putfield 81, 3) := by decide +kernel
theorem d_H_end_25 : decode b_H_end 25 = .ok (.iconst 1, 1) := by decide +kernel
theorem d_H_end_26 : decode b_H_end 26 = .ok (.ireturn, 1) := by decide +kernel
abbrev b_H_carry : ByteArray := prog_1_method_4_code
def y_H_carry : MethodName := ⟨R_H, "carry", "(II)I"⟩
abbrev k_H_carry : Cond := .code y_H_carry b_H_carry 4 (some .int)
theorem ki_H_carry : k_H_carry ∈ lw_tg := in_t 751 (by decide +kernel)
theorem ks_H_carry : Cond.instanceMethod y_H_carry ∈ lw_tg := in_t 749 (by decide +kernel)
theorem kx_H_carry : Cond.selects R_H y_H_carry y_H_carry ∈ lw_tg := in_t 750 (by decide +kernel)
theorem hd_H_carry : y_H_carry.cls = R_H ∧ y_H_carry.cls ≠ "java/lang/invoke/MethodHandle" ∧ y_H_carry.cls ≠ "java/lang/invoke/VarHandle" ∧ (parseMethodDescriptor y_H_carry.desc).map (fun d => d.parameters.length) = some 2 := by decide +kernel
theorem d_H_carry_0 : decode b_H_carry 0 = .ok (.aload_n 0, 1) := by decide +kernel
theorem d_H_carry_1 : decode b_H_carry 1 = .ok (.getfield 21, 3) := by decide +kernel
theorem d_H_carry_4 : decode b_H_carry 4 = .ok (.invokevirtual 88, 3) := by decide +kernel
theorem d_H_carry_7 : decode b_H_carry 7 = .ok (.aload_n 0, 1) := by decide +kernel
theorem d_H_carry_8 : decode b_H_carry 8 = .ok (.getfield 25, 3) := by decide +kernel
theorem d_H_carry_11 : decode b_H_carry 11 = .ok (.getfield 81, 3) := by decide +kernel
theorem d_H_carry_14 : decode b_H_carry 14 = .ok (.sipush 4000, 3) := by decide +kernel
theorem d_H_carry_17 : decode b_H_carry 17 = .ok (.invokestatic 91, 3) := by decide +kernel
theorem d_H_carry_20 : decode b_H_carry 20 = .ok (.istore_n 3, 1) := by decide +kernel
theorem d_H_carry_21 : decode b_H_carry 21 = .ok (.aload_n 0, 1) := by decide +kernel
theorem d_H_carry_22 : decode b_H_carry 22 = .ok (.getfield 21, 3) := by decide +kernel
theorem d_H_carry_25 : decode b_H_carry 25 = .ok (.aload_n 0, 1) := by decide +kernel
theorem d_H_carry_26 : decode b_H_carry 26 = .ok (.getfield 25, 3) := by decide +kernel
theorem d_H_carry_29 : decode b_H_carry 29 = .ok (.getfield 97, 3) := by decide +kernel
theorem d_H_carry_32 : decode b_H_carry 32 = .ok (.iconst 0, 1) := by decide +kernel
theorem d_H_carry_33 : decode b_H_carry 33 = .ok (.iload_n 3, 1) := by decide +kernel
theorem d_H_carry_34 : decode b_H_carry 34 = .ok (.invokevirtual 101, 3) := by decide +kernel
theorem d_H_carry_37 : decode b_H_carry 37 = .ok (.iload_n 1, 1) := by decide +kernel
theorem d_H_carry_38 : decode b_H_carry 38 = .ok (.ifCond .lt 29, 3) := by decide +kernel
theorem d_H_carry_41 : decode b_H_carry 41 = .ok (.iload_n 1, 1) := by decide +kernel
theorem d_H_carry_42 : decode b_H_carry 42 = .ok (.iload_n 3, 1) := by decide +kernel
theorem d_H_carry_43 : decode b_H_carry 43 = .ok (.if_icmp .ge 24, 3) := by decide +kernel
theorem d_H_carry_46 : decode b_H_carry 46 = .ok (.aload_n 0, 1) := by decide +kernel
theorem d_H_carry_47 : decode b_H_carry 47 = .ok (.getfield 21, 3) := by decide +kernel
theorem d_H_carry_50 : decode b_H_carry 50 = .ok (.getfield 97, 3) := by decide +kernel
theorem d_H_carry_53 : decode b_H_carry 53 = .ok (.iload_n 1, 1) := by decide +kernel
theorem d_H_carry_54 : decode b_H_carry 54 = .ok (.aload_n 0, 1) := by decide +kernel
theorem d_H_carry_55 : decode b_H_carry 55 = .ok (.getfield 21, 3) := by decide +kernel
theorem d_H_carry_58 : decode b_H_carry 58 = .ok (.getfield 97, 3) := by decide +kernel
theorem d_H_carry_61 : decode b_H_carry 61 = .ok (.iload_n 1, 1) := by decide +kernel
theorem d_H_carry_62 : decode b_H_carry 62 = .ok (.baload, 1) := by decide +kernel
theorem d_H_carry_63 : decode b_H_carry 63 = .ok (.iload_n 2, 1) := by decide +kernel
theorem d_H_carry_64 : decode b_H_carry 64 = .ok (.ixor, 1) := by decide +kernel
theorem d_H_carry_65 : decode b_H_carry 65 = .ok (.i2b, 1) := by decide +kernel
theorem d_H_carry_66 : decode b_H_carry 66 = .ok (.bastore, 1) := by decide +kernel
theorem d_H_carry_67 : decode b_H_carry 67 = .ok (.iload_n 3, 1) := by decide +kernel
theorem d_H_carry_68 : decode b_H_carry 68 = .ok (.ireturn, 1) := by decide +kernel
abbrev b_H_out : ByteArray := prog_1_method_5_code
def y_H_out : MethodName := ⟨R_H, "out", "(I)I"⟩
abbrev k_H_out : Cond := .code y_H_out b_H_out 2 (some .int)
theorem ki_H_out : k_H_out ∈ lw_tg := in_t 757 (by decide +kernel)
theorem ks_H_out : Cond.instanceMethod y_H_out ∈ lw_tg := in_t 755 (by decide +kernel)
theorem kx_H_out : Cond.selects R_H y_H_out y_H_out ∈ lw_tg := in_t 756 (by decide +kernel)
theorem hd_H_out : y_H_out.cls = R_H ∧ y_H_out.cls ≠ "java/lang/invoke/MethodHandle" ∧ y_H_out.cls ≠ "java/lang/invoke/VarHandle" ∧ (parseMethodDescriptor y_H_out.desc).map (fun d => d.parameters.length) = some 1 := by decide +kernel
theorem d_H_out_0 : decode b_H_out 0 = .ok (.iload_n 1, 1) := by decide +kernel
theorem d_H_out_1 : decode b_H_out 1 = .ok (.iconst (-1), 1) := by decide +kernel
theorem d_H_out_2 : decode b_H_out 2 = .ok (.if_icmp .ne 13, 3) := by decide +kernel
theorem d_H_out_5 : decode b_H_out 5 = .ok (.aload_n 0, 1) := by decide +kernel
theorem d_H_out_6 : decode b_H_out 6 = .ok (.getfield 25, 3) := by decide +kernel
theorem d_H_out_9 : decode b_H_out 9 = .ok (.getfield 81, 3) := by decide +kernel
theorem d_H_out_12 : decode b_H_out 12 = .ok (.goto 11, 3) := by decide +kernel
theorem d_H_out_15 : decode b_H_out 15 = .ok (.aload_n 0, 1) := by decide +kernel
theorem d_H_out_16 : decode b_H_out 16 = .ok (.getfield 25, 3) := by decide +kernel
theorem d_H_out_19 : decode b_H_out 19 = .ok (.iload_n 1, 1) := by decide +kernel
theorem d_H_out_20 : decode b_H_out 20 = .ok (.invokevirtual 105, 3) := by decide +kernel
theorem d_H_out_23 : decode b_H_out 23 = .ok (.ireturn, 1) := by decide +kernel
abbrev b_H_clock : ByteArray := prog_1_method_6_code
def y_H_clock : MethodName := ⟨R_H, "clock", "(I)Z"⟩
abbrev k_H_clock : Cond := .code y_H_clock b_H_clock 2 (some .boolean)
theorem ki_H_clock : k_H_clock ∈ lw_tg := in_t 765 (by decide +kernel)
theorem ks_H_clock : Cond.instanceMethod y_H_clock ∈ lw_tg := in_t 763 (by decide +kernel)
theorem kx_H_clock : Cond.selects R_H y_H_clock y_H_clock ∈ lw_tg := in_t 764 (by decide +kernel)
theorem hd_H_clock : y_H_clock.cls = R_H ∧ y_H_clock.cls ≠ "java/lang/invoke/MethodHandle" ∧ y_H_clock.cls ≠ "java/lang/invoke/VarHandle" ∧ (parseMethodDescriptor y_H_clock.desc).map (fun d => d.parameters.length) = some 1 := by decide +kernel
theorem d_H_clock_0 : decode b_H_clock 0 = .ok (.iload_n 1, 1) := by decide +kernel
theorem d_H_clock_1 : decode b_H_clock 1 = .ok (.ifCond .lt 9, 3) := by decide +kernel
theorem d_H_clock_4 : decode b_H_clock 4 = .ok (.iload_n 1, 1) := by decide +kernel
theorem d_H_clock_5 : decode b_H_clock 5 = .ok (.ldc 109, 2) := by decide +kernel
theorem d_H_clock_7 : decode b_H_clock 7 = .ok (.if_icmp .le 5, 3) := by decide +kernel
theorem d_H_clock_10 : decode b_H_clock 10 = .ok (.iconst 0, 1) := by decide +kernel
theorem d_H_clock_11 : decode b_H_clock 11 = .ok (.ireturn, 1) := by decide +kernel
theorem d_H_clock_12 : decode b_H_clock 12 = .ok (.aload_n 0, 1) := by decide +kernel
theorem d_H_clock_13 : decode b_H_clock 13 = .ok (.getfield 12, 3) := by decide +kernel
theorem d_H_clock_16 : decode b_H_clock 16 = .ok (.iload_n 1, 1) := by decide +kernel
theorem d_H_clock_17 : decode b_H_clock 17 = .ok (.putfield 110, 3) := by decide +kernel
theorem d_H_clock_20 : decode b_H_clock 20 = .ok (.iconst 1, 1) := by decide +kernel
theorem d_H_clock_21 : decode b_H_clock 21 = .ok (.ireturn, 1) := by decide +kernel
abbrev b_H_seed : ByteArray := prog_1_method_7_code
def y_H_seed : MethodName := ⟨R_H, "seed", "()Z"⟩
abbrev k_H_seed : Cond := .code y_H_seed b_H_seed 1 (some .boolean)
theorem ki_H_seed : k_H_seed ∈ lw_tg := in_t 770 (by decide +kernel)
theorem ks_H_seed : Cond.instanceMethod y_H_seed ∈ lw_tg := in_t 768 (by decide +kernel)
theorem kx_H_seed : Cond.selects R_H y_H_seed y_H_seed ∈ lw_tg := in_t 769 (by decide +kernel)
theorem hd_H_seed : y_H_seed.cls = R_H ∧ y_H_seed.cls ≠ "java/lang/invoke/MethodHandle" ∧ y_H_seed.cls ≠ "java/lang/invoke/VarHandle" ∧ (parseMethodDescriptor y_H_seed.desc).map (fun d => d.parameters.length) = some 0 := by decide +kernel
theorem d_H_seed_0 : decode b_H_seed 0 = .ok (.aload_n 0, 1) := by decide +kernel
theorem d_H_seed_1 : decode b_H_seed 1 = .ok (.getfield 21, 3) := by decide +kernel
theorem d_H_seed_4 : decode b_H_seed 4 = .ok (.getfield 81, 3) := by decide +kernel
theorem d_H_seed_7 : decode b_H_seed 7 = .ok (.bipush 64, 2) := by decide +kernel
theorem d_H_seed_9 : decode b_H_seed 9 = .ok (.if_icmp .le 5, 3) := by decide +kernel
theorem d_H_seed_12 : decode b_H_seed 12 = .ok (.iconst 0, 1) := by decide +kernel
theorem d_H_seed_13 : decode b_H_seed 13 = .ok (.ireturn, 1) := by decide +kernel
theorem d_H_seed_14 : decode b_H_seed 14 = .ok (.aload_n 0, 1) := by decide +kernel
theorem d_H_seed_15 : decode b_H_seed 15 = .ok (.getfield 12, 3) := by decide +kernel
theorem d_H_seed_18 : decode b_H_seed 18 = .ok (.aload_n 0, 1) := by decide +kernel
theorem d_H_seed_19 : decode b_H_seed 19 = .ok (.getfield 21, 3) := by decide +kernel
theorem d_H_seed_22 : decode b_H_seed 22 = .ok (.invokevirtual 113, 3) := by decide +kernel
theorem d_H_seed_25 : decode b_H_seed 25 = .ok (.aload_n 0, 1) := by decide +kernel
theorem d_H_seed_26 : decode b_H_seed 26 = .ok (.getfield 21, 3) := by decide +kernel
theorem d_H_seed_29 : decode b_H_seed 29 = .ok (.invokevirtual 88, 3) := by decide +kernel
theorem d_H_seed_32 : decode b_H_seed 32 = .ok (.iconst 1, 1) := by decide +kernel
theorem d_H_seed_33 : decode b_H_seed 33 = .ok (.ireturn, 1) := by decide +kernel
abbrev b_H_principal : ByteArray := prog_1_method_8_code
def y_H_principal : MethodName := ⟨R_H, "principal", "(I)I"⟩
abbrev k_H_principal : Cond := .code y_H_principal b_H_principal 5 (some .int)
theorem ki_H_principal : k_H_principal ∈ lw_tg := in_t 778 (by decide +kernel)
theorem ks_H_principal : Cond.instanceMethod y_H_principal ∈ lw_tg := in_t 776 (by decide +kernel)
theorem kx_H_principal : Cond.selects R_H y_H_principal y_H_principal ∈ lw_tg := in_t 777 (by decide +kernel)
theorem hd_H_principal : y_H_principal.cls = R_H ∧ y_H_principal.cls ≠ "java/lang/invoke/MethodHandle" ∧ y_H_principal.cls ≠ "java/lang/invoke/VarHandle" ∧ (parseMethodDescriptor y_H_principal.desc).map (fun d => d.parameters.length) = some 1 := by decide +kernel
theorem d_H_principal_0 : decode b_H_principal 0 = .ok (.iconst 0, 1) := by decide +kernel
theorem d_H_principal_1 : decode b_H_principal 1 = .ok (.istore_n 2, 1) := by decide +kernel
theorem d_H_principal_2 : decode b_H_principal 2 = .ok (.iload_n 2, 1) := by decide +kernel
theorem d_H_principal_3 : decode b_H_principal 3 = .ok (.bipush 12, 2) := by decide +kernel
theorem d_H_principal_5 : decode b_H_principal 5 = .ok (.if_icmp .ge 21, 3) := by decide +kernel
theorem d_H_principal_8 : decode b_H_principal 8 = .ok (.aload_n 0, 1) := by decide +kernel
theorem d_H_principal_9 : decode b_H_principal 9 = .ok (.getfield 42, 3) := by decide +kernel
theorem d_H_principal_12 : decode b_H_principal 12 = .ok (.iload_n 2, 1) := by decide +kernel
theorem d_H_principal_13 : decode b_H_principal 13 = .ok (.aaload, 1) := by decide +kernel
theorem d_H_principal_14 : decode b_H_principal 14 = .ok (.getfield 116, 3) := by decide +kernel
theorem d_H_principal_17 : decode b_H_principal 17 = .ok (.ifCond .eq 9, 3) := by decide +kernel
theorem d_H_principal_20 : decode b_H_principal 20 = .ok (.iinc 2 1, 3) := by decide +kernel
theorem d_H_principal_23 : decode b_H_principal 23 = .ok (.goto (-21), 3) := by decide +kernel
theorem d_H_principal_26 : decode b_H_principal 26 = .ok (.aload_n 0, 1) := by decide +kernel
theorem d_H_principal_27 : decode b_H_principal 27 = .ok (.invokevirtual 120, 3) := by decide +kernel
theorem d_H_principal_30 : decode b_H_principal 30 = .ok (.istore_n 3, 1) := by decide +kernel
theorem d_H_principal_31 : decode b_H_principal 31 = .ok (.iload_n 3, 1) := by decide +kernel
theorem d_H_principal_32 : decode b_H_principal 32 = .ok (.ifCond .lt 34, 3) := by decide +kernel
theorem d_H_principal_35 : decode b_H_principal 35 = .ok (.iload_n 1, 1) := by decide +kernel
theorem d_H_principal_36 : decode b_H_principal 36 = .ok (.invokestatic 124, 3) := by decide +kernel
theorem d_H_principal_39 : decode b_H_principal 39 = .ok (.ifCond .eq 27, 3) := by decide +kernel
theorem d_H_principal_42 : decode b_H_principal 42 = .ok (.iload_n 2, 1) := by decide +kernel
theorem d_H_principal_43 : decode b_H_principal 43 = .ok (.bipush 12, 2) := by decide +kernel
theorem d_H_principal_45 : decode b_H_principal 45 = .ok (.if_icmp .ge 21, 3) := by decide +kernel
theorem d_H_principal_48 : decode b_H_principal 48 = .ok (.aload_n 0, 1) := by decide +kernel
theorem d_H_principal_49 : decode b_H_principal 49 = .ok (.getfield 42, 3) := by decide +kernel
theorem d_H_principal_52 : decode b_H_principal 52 = .ok (.aload_n 0, 1) := by decide +kernel
theorem d_H_principal_53 : decode b_H_principal 53 = .ok (.getfield 28, 3) := by decide +kernel
theorem d_H_principal_56 : decode b_H_principal 56 = .ok (.invokestatic 128, 3) := by decide +kernel
theorem d_H_principal_59 : decode b_H_principal 59 = .ok (.ifCond .ge 7, 3) := by decide +kernel
theorem d_H_principal_62 : decode b_H_principal 62 = .ok (.iconst 1, 1) := by decide +kernel
theorem d_H_principal_63 : decode b_H_principal 63 = .ok (.goto 4, 3) := by decide +kernel
theorem d_H_principal_66 : decode b_H_principal 66 = .ok (.iconst 0, 1) := by decide +kernel
theorem d_H_principal_67 : decode b_H_principal 67 = .ok (.istore 4, 2) := by decide +kernel
theorem d_H_principal_69 : decode b_H_principal 69 = .ok (.iload 4, 2) := by decide +kernel
theorem d_H_principal_71 : decode b_H_principal 71 = .ok (.ifCond .eq 35, 3) := by decide +kernel
theorem d_H_principal_74 : decode b_H_principal 74 = .ok (.aload_n 0, 1) := by decide +kernel
theorem d_H_principal_75 : decode b_H_principal 75 = .ok (.getfield 42, 3) := by decide +kernel
theorem d_H_principal_78 : decode b_H_principal 78 = .ok (.iload_n 2, 1) := by decide +kernel
theorem d_H_principal_79 : decode b_H_principal 79 = .ok (.aaload, 1) := by decide +kernel
theorem d_H_principal_80 : decode b_H_principal 80 = .ok (.aload_n 0, 1) := by decide +kernel
theorem d_H_principal_81 : decode b_H_principal 81 = .ok (.getfield 28, 3) := by decide +kernel
theorem d_H_principal_84 : decode b_H_principal 84 = .ok (.invokevirtual 65, 3) := by decide +kernel
theorem d_H_principal_87 : decode b_H_principal 87 = .ok (.aload_n 0, 1) := by decide +kernel
theorem d_H_principal_88 : decode b_H_principal 88 = .ok (.getfield 42, 3) := by decide +kernel
theorem d_H_principal_91 : decode b_H_principal 91 = .ok (.iload_n 2, 1) := by decide +kernel
theorem d_H_principal_92 : decode b_H_principal 92 = .ok (.aaload, 1) := by decide +kernel
theorem d_H_principal_93 : decode b_H_principal 93 = .ok (.aload_n 0, 1) := by decide +kernel
theorem d_H_principal_94 : decode b_H_principal 94 = .ok (.getfield 12, 3) := by decide +kernel
theorem d_H_principal_97 : decode b_H_principal 97 = .ok (.aload_n 0, 1) := by decide +kernel
theorem d_H_principal_98 : decode b_H_principal 98 = .ok (.getfield 21, 3) := by decide +kernel
theorem d_H_principal_101 : decode b_H_principal 101 = .ok (.iload_n 3, 1) := by decide +kernel
theorem d_H_principal_102 : decode b_H_principal 102 = .ok (.iload_n 1, 1) := by decide +kernel
theorem d_H_principal_103 : decode b_H_principal 103 = .ok (.invokevirtual 68, 3) := by decide +kernel
theorem d_H_principal_106 : decode b_H_principal 106 = .ok (.aload_n 0, 1) := by decide +kernel
theorem d_H_principal_107 : decode b_H_principal 107 = .ok (.getfield 21, 3) := by decide +kernel
theorem d_H_principal_110 : decode b_H_principal 110 = .ok (.invokevirtual 88, 3) := by decide +kernel
theorem d_H_principal_113 : decode b_H_principal 113 = .ok (.iload 4, 2) := by decide +kernel
theorem d_H_principal_115 : decode b_H_principal 115 = .ok (.ifCond .eq 7, 3) := by decide +kernel
theorem d_H_principal_118 : decode b_H_principal 118 = .ok (.iload_n 2, 1) := by decide +kernel
theorem d_H_principal_119 : decode b_H_principal 119 = .ok (.goto 4, 3) := by decide +kernel
theorem d_H_principal_122 : decode b_H_principal 122 = .ok (.iconst (-1), 1) := by decide +kernel
theorem d_H_principal_123 : decode b_H_principal 123 = .ok (.ireturn, 1) := by decide +kernel
abbrev b_H_change : ByteArray := prog_1_method_9_code
def y_H_change : MethodName := ⟨R_H, "change", "(II)I"⟩
abbrev k_H_change : Cond := .code y_H_change b_H_change 4 (some .int)
theorem ki_H_change : k_H_change ∈ lw_tg := in_t 813 (by decide +kernel)
theorem ks_H_change : Cond.instanceMethod y_H_change ∈ lw_tg := in_t 811 (by decide +kernel)
theorem kx_H_change : Cond.selects R_H y_H_change y_H_change ∈ lw_tg := in_t 812 (by decide +kernel)
theorem hd_H_change : y_H_change.cls = R_H ∧ y_H_change.cls ≠ "java/lang/invoke/MethodHandle" ∧ y_H_change.cls ≠ "java/lang/invoke/VarHandle" ∧ (parseMethodDescriptor y_H_change.desc).map (fun d => d.parameters.length) = some 2 := by decide +kernel
theorem d_H_change_0 : decode b_H_change 0 = .ok (.aload_n 0, 1) := by decide +kernel
theorem d_H_change_1 : decode b_H_change 1 = .ok (.iload_n 1, 1) := by decide +kernel
theorem d_H_change_2 : decode b_H_change 2 = .ok (.invokevirtual 132, 3) := by decide +kernel
theorem d_H_change_5 : decode b_H_change 5 = .ok (.ifCond .eq 22, 3) := by decide +kernel
theorem d_H_change_8 : decode b_H_change 8 = .ok (.iload_n 2, 1) := by decide +kernel
theorem d_H_change_9 : decode b_H_change 9 = .ok (.invokestatic 124, 3) := by decide +kernel
theorem d_H_change_12 : decode b_H_change 12 = .ok (.ifCond .eq 15, 3) := by decide +kernel
theorem d_H_change_15 : decode b_H_change 15 = .ok (.aload_n 0, 1) := by decide +kernel
theorem d_H_change_16 : decode b_H_change 16 = .ok (.iconst 0, 1) := by decide +kernel
theorem d_H_change_17 : decode b_H_change 17 = .ok (.invokevirtual 135, 3) := by decide +kernel
theorem d_H_change_20 : decode b_H_change 20 = .ok (.ifCond .eq 7, 3) := by decide +kernel
theorem d_H_change_23 : decode b_H_change 23 = .ok (.iconst 1, 1) := by decide +kernel
theorem d_H_change_24 : decode b_H_change 24 = .ok (.goto 4, 3) := by decide +kernel
theorem d_H_change_27 : decode b_H_change 27 = .ok (.iconst 0, 1) := by decide +kernel
theorem d_H_change_28 : decode b_H_change 28 = .ok (.istore_n 3, 1) := by decide +kernel
theorem d_H_change_29 : decode b_H_change 29 = .ok (.iload_n 3, 1) := by decide +kernel
theorem d_H_change_30 : decode b_H_change 30 = .ok (.ifCond .eq 22, 3) := by decide +kernel
theorem d_H_change_33 : decode b_H_change 33 = .ok (.aload_n 0, 1) := by decide +kernel
theorem d_H_change_34 : decode b_H_change 34 = .ok (.getfield 42, 3) := by decide +kernel
theorem d_H_change_37 : decode b_H_change 37 = .ok (.iload_n 1, 1) := by decide +kernel
theorem d_H_change_38 : decode b_H_change 38 = .ok (.aaload, 1) := by decide +kernel
theorem d_H_change_39 : decode b_H_change 39 = .ok (.aload_n 0, 1) := by decide +kernel
theorem d_H_change_40 : decode b_H_change 40 = .ok (.getfield 12, 3) := by decide +kernel
theorem d_H_change_43 : decode b_H_change 43 = .ok (.aload_n 0, 1) := by decide +kernel
theorem d_H_change_44 : decode b_H_change 44 = .ok (.getfield 21, 3) := by decide +kernel
theorem d_H_change_47 : decode b_H_change 47 = .ok (.iconst 0, 1) := by decide +kernel
theorem d_H_change_48 : decode b_H_change 48 = .ok (.iload_n 2, 1) := by decide +kernel
theorem d_H_change_49 : decode b_H_change 49 = .ok (.invokevirtual 68, 3) := by decide +kernel
theorem d_H_change_52 : decode b_H_change 52 = .ok (.aload_n 0, 1) := by decide +kernel
theorem d_H_change_53 : decode b_H_change 53 = .ok (.getfield 21, 3) := by decide +kernel
theorem d_H_change_56 : decode b_H_change 56 = .ok (.invokevirtual 88, 3) := by decide +kernel
theorem d_H_change_59 : decode b_H_change 59 = .ok (.iload_n 3, 1) := by decide +kernel
theorem d_H_change_60 : decode b_H_change 60 = .ok (.ifCond .eq 15, 3) := by decide +kernel
theorem d_H_change_63 : decode b_H_change 63 = .ok (.aload_n 0, 1) := by decide +kernel
theorem d_H_change_64 : decode b_H_change 64 = .ok (.getfield 42, 3) := by decide +kernel
theorem d_H_change_67 : decode b_H_change 67 = .ok (.iload_n 1, 1) := by decide +kernel
theorem d_H_change_68 : decode b_H_change 68 = .ok (.aaload, 1) := by decide +kernel
theorem d_H_change_69 : decode b_H_change 69 = .ok (.getfield 138, 3) := by decide +kernel
theorem d_H_change_72 : decode b_H_change 72 = .ok (.goto 4, 3) := by decide +kernel
theorem d_H_change_75 : decode b_H_change 75 = .ok (.iconst (-1), 1) := by decide +kernel
theorem d_H_change_76 : decode b_H_change 76 = .ok (.ireturn, 1) := by decide +kernel
abbrev b_H_policy : ByteArray := prog_1_method_10_code
def y_H_policy : MethodName := ⟨R_H, "policy", "(III)Z"⟩
abbrev k_H_policy : Cond := .code y_H_policy b_H_policy 4 (some .boolean)
theorem ki_H_policy : k_H_policy ∈ lw_tg := in_t 821 (by decide +kernel)
theorem ks_H_policy : Cond.instanceMethod y_H_policy ∈ lw_tg := in_t 819 (by decide +kernel)
theorem kx_H_policy : Cond.selects R_H y_H_policy y_H_policy ∈ lw_tg := in_t 820 (by decide +kernel)
theorem hd_H_policy : y_H_policy.cls = R_H ∧ y_H_policy.cls ≠ "java/lang/invoke/MethodHandle" ∧ y_H_policy.cls ≠ "java/lang/invoke/VarHandle" ∧ (parseMethodDescriptor y_H_policy.desc).map (fun d => d.parameters.length) = some 3 := by decide +kernel
theorem d_H_policy_0 : decode b_H_policy 0 = .ok (.aload_n 0, 1) := by decide +kernel
theorem d_H_policy_1 : decode b_H_policy 1 = .ok (.iload_n 1, 1) := by decide +kernel
theorem d_H_policy_2 : decode b_H_policy 2 = .ok (.invokevirtual 132, 3) := by decide +kernel
theorem d_H_policy_5 : decode b_H_policy 5 = .ok (.ifCond .eq 21, 3) := by decide +kernel
theorem d_H_policy_8 : decode b_H_policy 8 = .ok (.aload_n 0, 1) := by decide +kernel
theorem d_H_policy_9 : decode b_H_policy 9 = .ok (.getfield 42, 3) := by decide +kernel
theorem d_H_policy_12 : decode b_H_policy 12 = .ok (.iload_n 1, 1) := by decide +kernel
theorem d_H_policy_13 : decode b_H_policy 13 = .ok (.aaload, 1) := by decide +kernel
theorem d_H_policy_14 : decode b_H_policy 14 = .ok (.iload_n 2, 1) := by decide +kernel
theorem d_H_policy_15 : decode b_H_policy 15 = .ok (.iload_n 3, 1) := by decide +kernel
theorem d_H_policy_16 : decode b_H_policy 16 = .ok (.invokevirtual 141, 3) := by decide +kernel
theorem d_H_policy_19 : decode b_H_policy 19 = .ok (.ifCond .eq 7, 3) := by decide +kernel
theorem d_H_policy_22 : decode b_H_policy 22 = .ok (.iconst 1, 1) := by decide +kernel
theorem d_H_policy_23 : decode b_H_policy 23 = .ok (.goto 4, 3) := by decide +kernel
theorem d_H_policy_26 : decode b_H_policy 26 = .ok (.iconst 0, 1) := by decide +kernel
theorem d_H_policy_27 : decode b_H_policy 27 = .ok (.ireturn, 1) := by decide +kernel
abbrev b_H_room : ByteArray := prog_1_method_11_code
def y_H_room : MethodName := ⟨R_H, "room", "(I)Z"⟩
abbrev k_H_room : Cond := .code y_H_room b_H_room 2 (some .boolean)
theorem ki_H_room : k_H_room ∈ lw_tg := in_t 833 (by decide +kernel)
theorem ks_H_room : Cond.instanceMethod y_H_room ∈ lw_tg := in_t 831 (by decide +kernel)
theorem kx_H_room : Cond.selects R_H y_H_room y_H_room ∈ lw_tg := in_t 832 (by decide +kernel)
theorem hd_H_room : y_H_room.cls = R_H ∧ y_H_room.cls ≠ "java/lang/invoke/MethodHandle" ∧ y_H_room.cls ≠ "java/lang/invoke/VarHandle" ∧ (parseMethodDescriptor y_H_room.desc).map (fun d => d.parameters.length) = some 1 := by decide +kernel
theorem d_H_room_0 : decode b_H_room 0 = .ok (.iload_n 1, 1) := by decide +kernel
theorem d_H_room_1 : decode b_H_room 1 = .ok (.iconst 1, 1) := by decide +kernel
theorem d_H_room_2 : decode b_H_room 2 = .ok (.if_icmp .lt 9, 3) := by decide +kernel
theorem d_H_room_5 : decode b_H_room 5 = .ok (.iload_n 1, 1) := by decide +kernel
theorem d_H_room_6 : decode b_H_room 6 = .ok (.bipush 32, 2) := by decide +kernel
theorem d_H_room_8 : decode b_H_room 8 = .ok (.if_icmp .le 5, 3) := by decide +kernel
theorem d_H_room_11 : decode b_H_room 11 = .ok (.iconst 0, 1) := by decide +kernel
theorem d_H_room_12 : decode b_H_room 12 = .ok (.ireturn, 1) := by decide +kernel
theorem d_H_room_13 : decode b_H_room 13 = .ok (.aload_n 0, 1) := by decide +kernel
theorem d_H_room_14 : decode b_H_room 14 = .ok (.getfield 36, 3) := by decide +kernel
theorem d_H_room_17 : decode b_H_room 17 = .ok (.iload_n 1, 1) := by decide +kernel
theorem d_H_room_18 : decode b_H_room 18 = .ok (.putfield 145, 3) := by decide +kernel
theorem d_H_room_21 : decode b_H_room 21 = .ok (.iconst 1, 1) := by decide +kernel
theorem d_H_room_22 : decode b_H_room 22 = .ok (.ireturn, 1) := by decide +kernel
abbrev b_H_kdc : ByteArray := prog_1_method_12_code
def y_H_kdc : MethodName := ⟨R_H, "kdc", "()I"⟩
abbrev k_H_kdc : Cond := .code y_H_kdc b_H_kdc 4 (some .int)
theorem ki_H_kdc : k_H_kdc ∈ lw_tg := in_t 837 (by decide +kernel)
theorem ks_H_kdc : Cond.instanceMethod y_H_kdc ∈ lw_tg := in_t 835 (by decide +kernel)
theorem kx_H_kdc : Cond.selects R_H y_H_kdc y_H_kdc ∈ lw_tg := in_t 836 (by decide +kernel)
theorem hd_H_kdc : y_H_kdc.cls = R_H ∧ y_H_kdc.cls ≠ "java/lang/invoke/MethodHandle" ∧ y_H_kdc.cls ≠ "java/lang/invoke/VarHandle" ∧ (parseMethodDescriptor y_H_kdc.desc).map (fun d => d.parameters.length) = some 0 := by decide +kernel
theorem d_H_kdc_0 : decode b_H_kdc 0 = .ok (.aload_n 0, 1) := by decide +kernel
theorem d_H_kdc_1 : decode b_H_kdc 1 = .ok (.getfield 77, 3) := by decide +kernel
theorem d_H_kdc_4 : decode b_H_kdc 4 = .ok (.invokevirtual 148, 3) := by decide +kernel
theorem d_H_kdc_7 : decode b_H_kdc 7 = .ok (.istore_n 1, 1) := by decide +kernel
theorem d_H_kdc_8 : decode b_H_kdc 8 = .ok (.iload_n 1, 1) := by decide +kernel
theorem d_H_kdc_9 : decode b_H_kdc 9 = .ok (.ifCond .ne 74, 3) := by decide +kernel
theorem d_H_kdc_12 : decode b_H_kdc 12 = .ok (.aload_n 0, 1) := by decide +kernel
theorem d_H_kdc_13 : decode b_H_kdc 13 = .ok (.getfield 77, 3) := by decide +kernel
theorem d_H_kdc_16 : decode b_H_kdc 16 = .ok (.getfield 151, 3) := by decide +kernel
theorem d_H_kdc_19 : decode b_H_kdc 19 = .ok (.ifCond .ne 64, 3) := by decide +kernel
theorem d_H_kdc_22 : decode b_H_kdc 22 = .ok (.aload_n 0, 1) := by decide +kernel
theorem d_H_kdc_23 : decode b_H_kdc 23 = .ok (.getfield 77, 3) := by decide +kernel
theorem d_H_kdc_26 : decode b_H_kdc 26 = .ok (.iconst 1, 1) := by decide +kernel
theorem d_H_kdc_27 : decode b_H_kdc 27 = .ok (.invokevirtual 154, 3) := by decide +kernel
theorem d_H_kdc_30 : decode b_H_kdc 30 = .ok (.istore_n 2, 1) := by decide +kernel
theorem d_H_kdc_31 : decode b_H_kdc 31 = .ok (.aload_n 0, 1) := by decide +kernel
theorem d_H_kdc_32 : decode b_H_kdc 32 = .ok (.getfield 21, 3) := by decide +kernel
theorem d_H_kdc_35 : decode b_H_kdc 35 = .ok (.iload_n 2, 1) := by decide +kernel
theorem d_H_kdc_36 : decode b_H_kdc 36 = .ok (.aload_n 0, 1) := by decide +kernel
theorem d_H_kdc_37 : decode b_H_kdc 37 = .ok (.getfield 21, 3) := by decide +kernel
theorem d_H_kdc_40 : decode b_H_kdc 40 = .ok (.getfield 81, 3) := by decide +kernel
theorem d_H_kdc_43 : decode b_H_kdc 43 = .ok (.invokevirtual 157, 3) := by decide +kernel
theorem d_H_kdc_46 : decode b_H_kdc 46 = .ok (.istore_n 3, 1) := by decide +kernel
theorem d_H_kdc_47 : decode b_H_kdc 47 = .ok (.aload_n 0, 1) := by decide +kernel
theorem d_H_kdc_48 : decode b_H_kdc 48 = .ok (.getfield 36, 3) := by decide +kernel
theorem d_H_kdc_51 : decode b_H_kdc 51 = .ok (.aload_n 0, 1) := by decide +kernel
theorem d_H_kdc_52 : decode b_H_kdc 52 = .ok (.getfield 21, 3) := by decide +kernel
theorem d_H_kdc_55 : decode b_H_kdc 55 = .ok (.aload_n 0, 1) := by decide +kernel
theorem d_H_kdc_56 : decode b_H_kdc 56 = .ok (.getfield 21, 3) := by decide +kernel
theorem d_H_kdc_59 : decode b_H_kdc 59 = .ok (.iload_n 2, 1) := by decide +kernel
theorem d_H_kdc_60 : decode b_H_kdc 60 = .ok (.invokevirtual 160, 3) := by decide +kernel
theorem d_H_kdc_63 : decode b_H_kdc 63 = .ok (.iload_n 3, 1) := by decide +kernel
theorem d_H_kdc_64 : decode b_H_kdc 64 = .ok (.aload_n 0, 1) := by decide +kernel
theorem d_H_kdc_65 : decode b_H_kdc 65 = .ok (.getfield 42, 3) := by decide +kernel
theorem d_H_kdc_68 : decode b_H_kdc 68 = .ok (.iconst 0, 1) := by decide +kernel
theorem d_H_kdc_69 : decode b_H_kdc 69 = .ok (.aaload, 1) := by decide +kernel
theorem d_H_kdc_70 : decode b_H_kdc 70 = .ok (.aload_n 0, 1) := by decide +kernel
theorem d_H_kdc_71 : decode b_H_kdc 71 = .ok (.getfield 77, 3) := by decide +kernel
theorem d_H_kdc_74 : decode b_H_kdc 74 = .ok (.getfield 163, 3) := by decide +kernel
theorem d_H_kdc_77 : decode b_H_kdc 77 = .ok (.bipush 7, 2) := by decide +kernel
theorem d_H_kdc_79 : decode b_H_kdc 79 = .ok (.invokevirtual 167, 3) := by decide +kernel
theorem d_H_kdc_82 : decode b_H_kdc 82 = .ok (.istore_n 1, 1) := by decide +kernel
theorem d_H_kdc_83 : decode b_H_kdc 83 = .ok (.iload_n 1, 1) := by decide +kernel
theorem d_H_kdc_84 : decode b_H_kdc 84 = .ok (.ifCond .ne 31, 3) := by decide +kernel
theorem d_H_kdc_87 : decode b_H_kdc 87 = .ok (.aload_n 0, 1) := by decide +kernel
theorem d_H_kdc_88 : decode b_H_kdc 88 = .ok (.getfield 77, 3) := by decide +kernel
theorem d_H_kdc_91 : decode b_H_kdc 91 = .ok (.getfield 151, 3) := by decide +kernel
theorem d_H_kdc_94 : decode b_H_kdc 94 = .ok (.ifCond .eq 13, 3) := by decide +kernel
theorem d_H_kdc_97 : decode b_H_kdc 97 = .ok (.aload_n 0, 1) := by decide +kernel
theorem d_H_kdc_98 : decode b_H_kdc 98 = .ok (.getfield 77, 3) := by decide +kernel
theorem d_H_kdc_101 : decode b_H_kdc 101 = .ok (.invokevirtual 170, 3) := by decide +kernel
theorem d_H_kdc_104 : decode b_H_kdc 104 = .ok (.goto 10, 3) := by decide +kernel
theorem d_H_kdc_107 : decode b_H_kdc 107 = .ok (.aload_n 0, 1) := by decide +kernel
theorem d_H_kdc_108 : decode b_H_kdc 108 = .ok (.getfield 77, 3) := by decide +kernel
theorem d_H_kdc_111 : decode b_H_kdc 111 = .ok (.invokevirtual 173, 3) := by decide +kernel
theorem d_H_kdc_114 : decode b_H_kdc 114 = .ok (.istore_n 1, 1) := by decide +kernel
theorem d_H_kdc_115 : decode b_H_kdc 115 = .ok (.iload_n 1, 1) := by decide +kernel
theorem d_H_kdc_116 : decode b_H_kdc 116 = .ok (.ifCond .ne 13, 3) := by decide +kernel
theorem d_H_kdc_119 : decode b_H_kdc 119 = .ok (.aload_n 0, 1) := by decide +kernel
theorem d_H_kdc_120 : decode b_H_kdc 120 = .ok (.getfield 77, 3) := by decide +kernel
theorem d_H_kdc_123 : decode b_H_kdc 123 = .ok (.invokevirtual 176, 3) := by decide +kernel
theorem d_H_kdc_126 : decode b_H_kdc 126 = .ok (.goto 11, 3) := by decide +kernel
theorem d_H_kdc_129 : decode b_H_kdc 129 = .ok (.aload_n 0, 1) := by decide +kernel
theorem d_H_kdc_130 : decode b_H_kdc 130 = .ok (.getfield 77, 3) := by decide +kernel
theorem d_H_kdc_133 : decode b_H_kdc 133 = .ok (.iload_n 1, 1) := by decide +kernel
theorem d_H_kdc_134 : decode b_H_kdc 134 = .ok (.invokevirtual 179, 3) := by decide +kernel
theorem d_H_kdc_137 : decode b_H_kdc 137 = .ok (.aload_n 0, 1) := by decide +kernel
theorem d_H_kdc_138 : decode b_H_kdc 138 = .ok (.getfield 21, 3) := by decide +kernel
theorem d_H_kdc_141 : decode b_H_kdc 141 = .ok (.invokevirtual 88, 3) := by decide +kernel
theorem d_H_kdc_144 : decode b_H_kdc 144 = .ok (.iload_n 1, 1) := by decide +kernel
theorem d_H_kdc_145 : decode b_H_kdc 145 = .ok (.ireturn, 1) := by decide +kernel
abbrev b_H_agent : ByteArray := prog_1_method_13_code
def y_H_agent : MethodName := ⟨R_H, "agent", "(II)Z"⟩
abbrev k_H_agent : Cond := .code y_H_agent b_H_agent 6 (some .boolean)
theorem ki_H_agent : k_H_agent ∈ lw_tg := in_t 1367 (by decide +kernel)
theorem ks_H_agent : Cond.instanceMethod y_H_agent ∈ lw_tg := in_t 1365 (by decide +kernel)
theorem kx_H_agent : Cond.selects R_H y_H_agent y_H_agent ∈ lw_tg := in_t 1366 (by decide +kernel)
theorem hd_H_agent : y_H_agent.cls = R_H ∧ y_H_agent.cls ≠ "java/lang/invoke/MethodHandle" ∧ y_H_agent.cls ≠ "java/lang/invoke/VarHandle" ∧ (parseMethodDescriptor y_H_agent.desc).map (fun d => d.parameters.length) = some 2 := by decide +kernel
theorem d_H_agent_0 : decode b_H_agent 0 = .ok (.aload_n 0, 1) := by decide +kernel
theorem d_H_agent_1 : decode b_H_agent 1 = .ok (.invokevirtual 120, 3) := by decide +kernel
theorem d_H_agent_4 : decode b_H_agent 4 = .ok (.istore_n 3, 1) := by decide +kernel
theorem d_H_agent_5 : decode b_H_agent 5 = .ok (.iload_n 1, 1) := by decide +kernel
theorem d_H_agent_6 : decode b_H_agent 6 = .ok (.ifCond .lt 23, 3) := by decide +kernel
theorem d_H_agent_9 : decode b_H_agent 9 = .ok (.iload_n 1, 1) := by decide +kernel
theorem d_H_agent_10 : decode b_H_agent 10 = .ok (.iconst 4, 1) := by decide +kernel
theorem d_H_agent_11 : decode b_H_agent 11 = .ok (.if_icmp .ge 18, 3) := by decide +kernel
theorem d_H_agent_14 : decode b_H_agent 14 = .ok (.iload_n 2, 1) := by decide +kernel
theorem d_H_agent_15 : decode b_H_agent 15 = .ok (.invokestatic 124, 3) := by decide +kernel
theorem d_H_agent_18 : decode b_H_agent 18 = .ok (.ifCond .eq 11, 3) := by decide +kernel
theorem d_H_agent_21 : decode b_H_agent 21 = .ok (.iload_n 3, 1) := by decide +kernel
theorem d_H_agent_22 : decode b_H_agent 22 = .ok (.ifCond .lt 7, 3) := by decide +kernel
theorem d_H_agent_25 : decode b_H_agent 25 = .ok (.iconst 1, 1) := by decide +kernel
theorem d_H_agent_26 : decode b_H_agent 26 = .ok (.goto 4, 3) := by decide +kernel
theorem d_H_agent_29 : decode b_H_agent 29 = .ok (.iconst 0, 1) := by decide +kernel
theorem d_H_agent_30 : decode b_H_agent 30 = .ok (.istore 4, 2) := by decide +kernel
theorem d_H_agent_32 : decode b_H_agent 32 = .ok (.iload 4, 2) := by decide +kernel
theorem d_H_agent_34 : decode b_H_agent 34 = .ok (.ifCond .eq 49, 3) := by decide +kernel
theorem d_H_agent_37 : decode b_H_agent 37 = .ok (.aload_n 0, 1) := by decide +kernel
theorem d_H_agent_38 : decode b_H_agent 38 = .ok (.getfield 49, 3) := by decide +kernel
theorem d_H_agent_41 : decode b_H_agent 41 = .ok (.iload_n 1, 1) := by decide +kernel
theorem d_H_agent_42 : decode b_H_agent 42 = .ok (.aaload, 1) := by decide +kernel
theorem d_H_agent_43 : decode b_H_agent 43 = .ok (.aload_n 0, 1) := by decide +kernel
theorem d_H_agent_44 : decode b_H_agent 44 = .ok (.getfield 28, 3) := by decide +kernel
theorem d_H_agent_47 : decode b_H_agent 47 = .ok (.aload_n 0, 1) := by decide +kernel
theorem d_H_agent_48 : decode b_H_agent 48 = .ok (.getfield 21, 3) := by decide +kernel
theorem d_H_agent_51 : decode b_H_agent 51 = .ok (.iload_n 3, 1) := by decide +kernel
theorem d_H_agent_52 : decode b_H_agent 52 = .ok (.iload_n 2, 1) := by decide +kernel
theorem d_H_agent_53 : decode b_H_agent 53 = .ok (.invokevirtual 182, 3) := by decide +kernel
theorem d_H_agent_56 : decode b_H_agent 56 = .ok (.iconst 0, 1) := by decide +kernel
theorem d_H_agent_57 : decode b_H_agent 57 = .ok (.istore 5, 2) := by decide +kernel
theorem d_H_agent_59 : decode b_H_agent 59 = .ok (.iload 5, 2) := by decide +kernel
theorem d_H_agent_61 : decode b_H_agent 61 = .ok (.bipush 8, 2) := by decide +kernel
theorem d_H_agent_63 : decode b_H_agent 63 = .ok (.if_icmp .ge 20, 3) := by decide +kernel
theorem d_H_agent_66 : decode b_H_agent 66 = .ok (.aload_n 0, 1) := by decide +kernel
theorem d_H_agent_67 : decode b_H_agent 67 = .ok (.getfield 56, 3) := by decide +kernel
theorem d_H_agent_70 : decode b_H_agent 70 = .ok (.iload 5, 2) := by decide +kernel
theorem d_H_agent_72 : decode b_H_agent 72 = .ok (.aaload, 1) := by decide +kernel
theorem d_H_agent_73 : decode b_H_agent 73 = .ok (.iload_n 1, 1) := by decide +kernel
theorem d_H_agent_74 : decode b_H_agent 74 = .ok (.invokevirtual 185, 3) := by decide +kernel
theorem d_H_agent_77 : decode b_H_agent 77 = .ok (.iinc 5 1, 3) := by decide +kernel
theorem d_H_agent_80 : decode b_H_agent 80 = .ok (.goto (-21), 3) := by decide +kernel
theorem d_H_agent_83 : decode b_H_agent 83 = .ok (.aload_n 0, 1) := by decide +kernel
theorem d_H_agent_84 : decode b_H_agent 84 = .ok (.getfield 21, 3) := by decide +kernel
theorem d_H_agent_87 : decode b_H_agent 87 = .ok (.invokevirtual 88, 3) := by decide +kernel
theorem d_H_agent_90 : decode b_H_agent 90 = .ok (.iload 4, 2) := by decide +kernel
theorem d_H_agent_92 : decode b_H_agent 92 = .ok (.ireturn, 1) := by decide +kernel
abbrev b_H_shift : ByteArray := prog_1_method_14_code
def y_H_shift : MethodName := ⟨R_H, "shift", "(II)Z"⟩
abbrev k_H_shift : Cond := .code y_H_shift b_H_shift 3 (some .boolean)
theorem ki_H_shift : k_H_shift ∈ lw_tg := in_t 1382 (by decide +kernel)
theorem ks_H_shift : Cond.instanceMethod y_H_shift ∈ lw_tg := in_t 1380 (by decide +kernel)
theorem kx_H_shift : Cond.selects R_H y_H_shift y_H_shift ∈ lw_tg := in_t 1381 (by decide +kernel)
theorem hd_H_shift : y_H_shift.cls = R_H ∧ y_H_shift.cls ≠ "java/lang/invoke/MethodHandle" ∧ y_H_shift.cls ≠ "java/lang/invoke/VarHandle" ∧ (parseMethodDescriptor y_H_shift.desc).map (fun d => d.parameters.length) = some 2 := by decide +kernel
theorem d_H_shift_0 : decode b_H_shift 0 = .ok (.aload_n 0, 1) := by decide +kernel
theorem d_H_shift_1 : decode b_H_shift 1 = .ok (.iload_n 1, 1) := by decide +kernel
theorem d_H_shift_2 : decode b_H_shift 2 = .ok (.invokevirtual 188, 3) := by decide +kernel
theorem d_H_shift_5 : decode b_H_shift 5 = .ok (.ifCond .eq 15, 3) := by decide +kernel
theorem d_H_shift_8 : decode b_H_shift 8 = .ok (.iload_n 2, 1) := by decide +kernel
theorem d_H_shift_9 : decode b_H_shift 9 = .ok (.ldc 191, 2) := by decide +kernel
theorem d_H_shift_11 : decode b_H_shift 11 = .ok (.if_icmp .lt 9, 3) := by decide +kernel
theorem d_H_shift_14 : decode b_H_shift 14 = .ok (.iload_n 2, 1) := by decide +kernel
theorem d_H_shift_15 : decode b_H_shift 15 = .ok (.ldc 192, 2) := by decide +kernel
theorem d_H_shift_17 : decode b_H_shift 17 = .ok (.if_icmp .le 5, 3) := by decide +kernel
theorem d_H_shift_20 : decode b_H_shift 20 = .ok (.iconst 0, 1) := by decide +kernel
theorem d_H_shift_21 : decode b_H_shift 21 = .ok (.ireturn, 1) := by decide +kernel
theorem d_H_shift_22 : decode b_H_shift 22 = .ok (.aload_n 0, 1) := by decide +kernel
theorem d_H_shift_23 : decode b_H_shift 23 = .ok (.getfield 49, 3) := by decide +kernel
theorem d_H_shift_26 : decode b_H_shift 26 = .ok (.iload_n 1, 1) := by decide +kernel
theorem d_H_shift_27 : decode b_H_shift 27 = .ok (.aaload, 1) := by decide +kernel
theorem d_H_shift_28 : decode b_H_shift 28 = .ok (.iload_n 2, 1) := by decide +kernel
theorem d_H_shift_29 : decode b_H_shift 29 = .ok (.putfield 193, 3) := by decide +kernel
theorem d_H_shift_32 : decode b_H_shift 32 = .ok (.iconst 1, 1) := by decide +kernel
theorem d_H_shift_33 : decode b_H_shift 33 = .ok (.ireturn, 1) := by decide +kernel
abbrev b_H_request : ByteArray := prog_1_method_15_code
def y_H_request : MethodName := ⟨R_H, "request", "(IIIIIII)I"⟩
abbrev k_H_request : Cond := .code y_H_request b_H_request 9 (some .int)
theorem ki_H_request : k_H_request ∈ lw_tg := in_t 1392 (by decide +kernel)
theorem ks_H_request : Cond.instanceMethod y_H_request ∈ lw_tg := in_t 1390 (by decide +kernel)
theorem kx_H_request : Cond.selects R_H y_H_request y_H_request ∈ lw_tg := in_t 1391 (by decide +kernel)
theorem hd_H_request : y_H_request.cls = R_H ∧ y_H_request.cls ≠ "java/lang/invoke/MethodHandle" ∧ y_H_request.cls ≠ "java/lang/invoke/VarHandle" ∧ (parseMethodDescriptor y_H_request.desc).map (fun d => d.parameters.length) = some 7 := by decide +kernel
theorem d_H_request_0 : decode b_H_request 0 = .ok (.aload_n 0, 1) := by decide +kernel
theorem d_H_request_1 : decode b_H_request 1 = .ok (.iload_n 1, 1) := by decide +kernel
theorem d_H_request_2 : decode b_H_request 2 = .ok (.invokevirtual 188, 3) := by decide +kernel
theorem d_H_request_5 : decode b_H_request 5 = .ok (.ifCond .eq 69, 3) := by decide +kernel
theorem d_H_request_8 : decode b_H_request 8 = .ok (.iload_n 2, 1) := by decide +kernel
theorem d_H_request_9 : decode b_H_request 9 = .ok (.ifCond .lt 65, 3) := by decide +kernel
theorem d_H_request_12 : decode b_H_request 12 = .ok (.iload_n 2, 1) := by decide +kernel
theorem d_H_request_13 : decode b_H_request 13 = .ok (.iconst 2, 1) := by decide +kernel
theorem d_H_request_14 : decode b_H_request 14 = .ok (.if_icmp .gt 60, 3) := by decide +kernel
theorem d_H_request_17 : decode b_H_request 17 = .ok (.iload 5, 2) := by decide +kernel
theorem d_H_request_19 : decode b_H_request 19 = .ok (.iconst 1, 1) := by decide +kernel
theorem d_H_request_20 : decode b_H_request 20 = .ok (.if_icmp .lt 54, 3) := by decide +kernel
theorem d_H_request_23 : decode b_H_request 23 = .ok (.iload 5, 2) := by decide +kernel
theorem d_H_request_25 : decode b_H_request 25 = .ok (.iconst 4, 1) := by decide +kernel
theorem d_H_request_26 : decode b_H_request 26 = .ok (.if_icmp .gt 48, 3) := by decide +kernel
theorem d_H_request_29 : decode b_H_request 29 = .ok (.iload 6, 2) := by decide +kernel
theorem d_H_request_31 : decode b_H_request 31 = .ok (.invokestatic 196, 3) := by decide +kernel
theorem d_H_request_34 : decode b_H_request 34 = .ok (.ifCond .eq 40, 3) := by decide +kernel
theorem d_H_request_37 : decode b_H_request 37 = .ok (.iload 7, 2) := by decide +kernel
theorem d_H_request_39 : decode b_H_request 39 = .ok (.invokestatic 196, 3) := by decide +kernel
theorem d_H_request_42 : decode b_H_request 42 = .ok (.ifCond .eq 32, 3) := by decide +kernel
theorem d_H_request_45 : decode b_H_request 45 = .ok (.iload_n 2, 1) := by decide +kernel
theorem d_H_request_46 : decode b_H_request 46 = .ok (.iconst 2, 1) := by decide +kernel
theorem d_H_request_47 : decode b_H_request 47 = .ok (.if_icmp .ne 16, 3) := by decide +kernel
theorem d_H_request_50 : decode b_H_request 50 = .ok (.aload_n 0, 1) := by decide +kernel
theorem d_H_request_51 : decode b_H_request 51 = .ok (.getfield 49, 3) := by decide +kernel
theorem d_H_request_54 : decode b_H_request 54 = .ok (.iload_n 1, 1) := by decide +kernel
theorem d_H_request_55 : decode b_H_request 55 = .ok (.aaload, 1) := by decide +kernel
theorem d_H_request_56 : decode b_H_request 56 = .ok (.iload_n 3, 1) := by decide +kernel
theorem d_H_request_57 : decode b_H_request 57 = .ok (.invokevirtual 199, 3) := by decide +kernel
theorem d_H_request_60 : decode b_H_request 60 = .ok (.ifCond .eq 14, 3) := by decide +kernel
theorem d_H_request_63 : decode b_H_request 63 = .ok (.aload_n 0, 1) := by decide +kernel
theorem d_H_request_64 : decode b_H_request 64 = .ok (.invokevirtual 202, 3) := by decide +kernel
theorem d_H_request_67 : decode b_H_request 67 = .ok (.ifCond .eq 7, 3) := by decide +kernel
theorem d_H_request_70 : decode b_H_request 70 = .ok (.iconst 1, 1) := by decide +kernel
theorem d_H_request_71 : decode b_H_request 71 = .ok (.goto 4, 3) := by decide +kernel
theorem d_H_request_74 : decode b_H_request 74 = .ok (.iconst 0, 1) := by decide +kernel
theorem d_H_request_75 : decode b_H_request 75 = .ok (.istore 8, 2) := by decide +kernel
theorem d_H_request_77 : decode b_H_request 77 = .ok (.aload_n 0, 1) := by decide +kernel
theorem d_H_request_78 : decode b_H_request 78 = .ok (.getfield 21, 3) := by decide +kernel
theorem d_H_request_81 : decode b_H_request 81 = .ok (.invokevirtual 88, 3) := by decide +kernel
theorem d_H_request_84 : decode b_H_request 84 = .ok (.iload 8, 2) := by decide +kernel
theorem d_H_request_86 : decode b_H_request 86 = .ok (.ifCond .ne 5, 3) := by decide +kernel
theorem d_H_request_89 : decode b_H_request 89 = .ok (.iconst (-1), 1) := by decide +kernel
theorem d_H_request_90 : decode b_H_request 90 = .ok (.ireturn, 1) := by decide +kernel
theorem d_H_request_91 : decode b_H_request 91 = .ok (.aload_n 0, 1) := by decide +kernel
theorem d_H_request_92 : decode b_H_request 92 = .ok (.getfield 49, 3) := by decide +kernel
theorem d_H_request_95 : decode b_H_request 95 = .ok (.iload_n 1, 1) := by decide +kernel
theorem d_H_request_96 : decode b_H_request 96 = .ok (.aaload, 1) := by decide +kernel
theorem d_H_request_97 : decode b_H_request 97 = .ok (.iload_n 2, 1) := by decide +kernel
theorem d_H_request_98 : decode b_H_request 98 = .ok (.iload_n 3, 1) := by decide +kernel
theorem d_H_request_99 : decode b_H_request 99 = .ok (.iload 4, 2) := by decide +kernel
theorem d_H_request_101 : decode b_H_request 101 = .ok (.iload 5, 2) := by decide +kernel
theorem d_H_request_103 : decode b_H_request 103 = .ok (.aload_n 0, 1) := by decide +kernel
theorem d_H_request_104 : decode b_H_request 104 = .ok (.getfield 28, 3) := by decide +kernel
theorem d_H_request_107 : decode b_H_request 107 = .ok (.invokevirtual 206, 3) := by decide +kernel
theorem d_H_request_110 : decode b_H_request 110 = .ok (.aload_n 0, 1) := by decide +kernel
theorem d_H_request_111 : decode b_H_request 111 = .ok (.getfield 49, 3) := by decide +kernel
theorem d_H_request_114 : decode b_H_request 114 = .ok (.iload_n 1, 1) := by decide +kernel
theorem d_H_request_115 : decode b_H_request 115 = .ok (.aaload, 1) := by decide +kernel
theorem d_H_request_116 : decode b_H_request 116 = .ok (.iload 4, 2) := by decide +kernel
theorem d_H_request_118 : decode b_H_request 118 = .ok (.iload 6, 2) := by decide +kernel
theorem d_H_request_120 : decode b_H_request 120 = .ok (.iload 7, 2) := by decide +kernel
theorem d_H_request_122 : decode b_H_request 122 = .ok (.invokevirtual 210, 3) := by decide +kernel
theorem d_H_request_125 : decode b_H_request 125 = .ok (.aload_n 0, 1) := by decide +kernel
theorem d_H_request_126 : decode b_H_request 126 = .ok (.getfield 49, 3) := by decide +kernel
theorem d_H_request_129 : decode b_H_request 129 = .ok (.iload_n 1, 1) := by decide +kernel
theorem d_H_request_130 : decode b_H_request 130 = .ok (.aaload, 1) := by decide +kernel
theorem d_H_request_131 : decode b_H_request 131 = .ok (.iload_n 3, 1) := by decide +kernel
theorem d_H_request_132 : decode b_H_request 132 = .ok (.aload_n 0, 1) := by decide +kernel
theorem d_H_request_133 : decode b_H_request 133 = .ok (.getfield 25, 3) := by decide +kernel
theorem d_H_request_136 : decode b_H_request 136 = .ok (.invokevirtual 214, 3) := by decide +kernel
theorem d_H_request_139 : decode b_H_request 139 = .ok (.aload_n 0, 1) := by decide +kernel
theorem d_H_request_140 : decode b_H_request 140 = .ok (.getfield 25, 3) := by decide +kernel
theorem d_H_request_143 : decode b_H_request 143 = .ok (.getfield 81, 3) := by decide +kernel
theorem d_H_request_146 : decode b_H_request 146 = .ok (.ireturn, 1) := by decide +kernel
abbrev b_H_take : ByteArray := prog_1_method_16_code
def y_H_take : MethodName := ⟨R_H, "take", "(I)I"⟩
abbrev k_H_take : Cond := .code y_H_take b_H_take 3 (some .int)
theorem ki_H_take : k_H_take ∈ lw_tg := in_t 1478 (by decide +kernel)
theorem ks_H_take : Cond.instanceMethod y_H_take ∈ lw_tg := in_t 1476 (by decide +kernel)
theorem kx_H_take : Cond.selects R_H y_H_take y_H_take ∈ lw_tg := in_t 1477 (by decide +kernel)
theorem hd_H_take : y_H_take.cls = R_H ∧ y_H_take.cls ≠ "java/lang/invoke/MethodHandle" ∧ y_H_take.cls ≠ "java/lang/invoke/VarHandle" ∧ (parseMethodDescriptor y_H_take.desc).map (fun d => d.parameters.length) = some 1 := by decide +kernel
theorem d_H_take_0 : decode b_H_take 0 = .ok (.aload_n 0, 1) := by decide +kernel
theorem d_H_take_1 : decode b_H_take 1 = .ok (.iload_n 1, 1) := by decide +kernel
theorem d_H_take_2 : decode b_H_take 2 = .ok (.invokevirtual 188, 3) := by decide +kernel
theorem d_H_take_5 : decode b_H_take 5 = .ok (.ifCond .eq 19, 3) := by decide +kernel
theorem d_H_take_8 : decode b_H_take 8 = .ok (.aload_n 0, 1) := by decide +kernel
theorem d_H_take_9 : decode b_H_take 9 = .ok (.getfield 49, 3) := by decide +kernel
theorem d_H_take_12 : decode b_H_take 12 = .ok (.iload_n 1, 1) := by decide +kernel
theorem d_H_take_13 : decode b_H_take 13 = .ok (.aaload, 1) := by decide +kernel
theorem d_H_take_14 : decode b_H_take 14 = .ok (.aload_n 0, 1) := by decide +kernel
theorem d_H_take_15 : decode b_H_take 15 = .ok (.getfield 21, 3) := by decide +kernel
theorem d_H_take_18 : decode b_H_take 18 = .ok (.invokevirtual 218, 3) := by decide +kernel
theorem d_H_take_21 : decode b_H_take 21 = .ok (.goto 4, 3) := by decide +kernel
theorem d_H_take_24 : decode b_H_take 24 = .ok (.iconst (-1), 1) := by decide +kernel
theorem d_H_take_25 : decode b_H_take 25 = .ok (.istore_n 2, 1) := by decide +kernel
theorem d_H_take_26 : decode b_H_take 26 = .ok (.aload_n 0, 1) := by decide +kernel
theorem d_H_take_27 : decode b_H_take 27 = .ok (.getfield 21, 3) := by decide +kernel
theorem d_H_take_30 : decode b_H_take 30 = .ok (.invokevirtual 88, 3) := by decide +kernel
theorem d_H_take_33 : decode b_H_take 33 = .ok (.iload_n 2, 1) := by decide +kernel
theorem d_H_take_34 : decode b_H_take 34 = .ok (.ireturn, 1) := by decide +kernel
abbrev b_H_ticket : ByteArray := prog_1_method_17_code
def y_H_ticket : MethodName := ⟨R_H, "ticket", "(III)I"⟩
abbrev k_H_ticket : Cond := .code y_H_ticket b_H_ticket 4 (some .int)
theorem ki_H_ticket : k_H_ticket ∈ lw_tg := in_t 1533 (by decide +kernel)
theorem ks_H_ticket : Cond.instanceMethod y_H_ticket ∈ lw_tg := in_t 1531 (by decide +kernel)
theorem kx_H_ticket : Cond.selects R_H y_H_ticket y_H_ticket ∈ lw_tg := in_t 1532 (by decide +kernel)
theorem hd_H_ticket : y_H_ticket.cls = R_H ∧ y_H_ticket.cls ≠ "java/lang/invoke/MethodHandle" ∧ y_H_ticket.cls ≠ "java/lang/invoke/VarHandle" ∧ (parseMethodDescriptor y_H_ticket.desc).map (fun d => d.parameters.length) = some 3 := by decide +kernel
theorem d_H_ticket_0 : decode b_H_ticket 0 = .ok (.aload_n 0, 1) := by decide +kernel
theorem d_H_ticket_1 : decode b_H_ticket 1 = .ok (.iload_n 1, 1) := by decide +kernel
theorem d_H_ticket_2 : decode b_H_ticket 2 = .ok (.iload_n 2, 1) := by decide +kernel
theorem d_H_ticket_3 : decode b_H_ticket 3 = .ok (.invokevirtual 222, 3) := by decide +kernel
theorem d_H_ticket_6 : decode b_H_ticket 6 = .ok (.ifCond .eq 21, 3) := by decide +kernel
theorem d_H_ticket_9 : decode b_H_ticket 9 = .ok (.aload_n 0, 1) := by decide +kernel
theorem d_H_ticket_10 : decode b_H_ticket 10 = .ok (.getfield 49, 3) := by decide +kernel
theorem d_H_ticket_13 : decode b_H_ticket 13 = .ok (.iload_n 1, 1) := by decide +kernel
theorem d_H_ticket_14 : decode b_H_ticket 14 = .ok (.aaload, 1) := by decide +kernel
theorem d_H_ticket_15 : decode b_H_ticket 15 = .ok (.getfield 225, 3) := by decide +kernel
theorem d_H_ticket_18 : decode b_H_ticket 18 = .ok (.iload_n 2, 1) := by decide +kernel
theorem d_H_ticket_19 : decode b_H_ticket 19 = .ok (.aaload, 1) := by decide +kernel
theorem d_H_ticket_20 : decode b_H_ticket 20 = .ok (.iload_n 3, 1) := by decide +kernel
theorem d_H_ticket_21 : decode b_H_ticket 21 = .ok (.invokevirtual 229, 3) := by decide +kernel
theorem d_H_ticket_24 : decode b_H_ticket 24 = .ok (.goto 4, 3) := by decide +kernel
theorem d_H_ticket_27 : decode b_H_ticket 27 = .ok (.iconst (-1), 1) := by decide +kernel
theorem d_H_ticket_28 : decode b_H_ticket 28 = .ok (.ireturn, 1) := by decide +kernel
abbrev b_H_drop : ByteArray := prog_1_method_18_code
def y_H_drop : MethodName := ⟨R_H, "drop", "(II)Z"⟩
abbrev k_H_drop : Cond := .code y_H_drop b_H_drop 3 (some .boolean)
theorem ki_H_drop : k_H_drop ∈ lw_tg := in_t 1546 (by decide +kernel)
theorem ks_H_drop : Cond.instanceMethod y_H_drop ∈ lw_tg := in_t 1544 (by decide +kernel)
theorem kx_H_drop : Cond.selects R_H y_H_drop y_H_drop ∈ lw_tg := in_t 1545 (by decide +kernel)
theorem hd_H_drop : y_H_drop.cls = R_H ∧ y_H_drop.cls ≠ "java/lang/invoke/MethodHandle" ∧ y_H_drop.cls ≠ "java/lang/invoke/VarHandle" ∧ (parseMethodDescriptor y_H_drop.desc).map (fun d => d.parameters.length) = some 2 := by decide +kernel
theorem d_H_drop_0 : decode b_H_drop 0 = .ok (.aload_n 0, 1) := by decide +kernel
theorem d_H_drop_1 : decode b_H_drop 1 = .ok (.iload_n 1, 1) := by decide +kernel
theorem d_H_drop_2 : decode b_H_drop 2 = .ok (.iload_n 2, 1) := by decide +kernel
theorem d_H_drop_3 : decode b_H_drop 3 = .ok (.invokevirtual 222, 3) := by decide +kernel
theorem d_H_drop_6 : decode b_H_drop 6 = .ok (.ifCond .ne 5, 3) := by decide +kernel
theorem d_H_drop_9 : decode b_H_drop 9 = .ok (.iconst 0, 1) := by decide +kernel
theorem d_H_drop_10 : decode b_H_drop 10 = .ok (.ireturn, 1) := by decide +kernel
theorem d_H_drop_11 : decode b_H_drop 11 = .ok (.aload_n 0, 1) := by decide +kernel
theorem d_H_drop_12 : decode b_H_drop 12 = .ok (.getfield 49, 3) := by decide +kernel
theorem d_H_drop_15 : decode b_H_drop 15 = .ok (.iload_n 1, 1) := by decide +kernel
theorem d_H_drop_16 : decode b_H_drop 16 = .ok (.aaload, 1) := by decide +kernel
theorem d_H_drop_17 : decode b_H_drop 17 = .ok (.getfield 225, 3) := by decide +kernel
theorem d_H_drop_20 : decode b_H_drop 20 = .ok (.iload_n 2, 1) := by decide +kernel
theorem d_H_drop_21 : decode b_H_drop 21 = .ok (.aaload, 1) := by decide +kernel
theorem d_H_drop_22 : decode b_H_drop 22 = .ok (.iconst 0, 1) := by decide +kernel
theorem d_H_drop_23 : decode b_H_drop 23 = .ok (.putfield 234, 3) := by decide +kernel
theorem d_H_drop_26 : decode b_H_drop 26 = .ok (.iconst 1, 1) := by decide +kernel
theorem d_H_drop_27 : decode b_H_drop 27 = .ok (.ireturn, 1) := by decide +kernel
abbrev b_H_present : ByteArray := prog_1_method_19_code
def y_H_present : MethodName := ⟨R_H, "present", "(III)I"⟩
abbrev k_H_present : Cond := .code y_H_present b_H_present 4 (some .int)
theorem ki_H_present : k_H_present ∈ lw_tg := in_t 1550 (by decide +kernel)
theorem ks_H_present : Cond.instanceMethod y_H_present ∈ lw_tg := in_t 1548 (by decide +kernel)
theorem kx_H_present : Cond.selects R_H y_H_present y_H_present ∈ lw_tg := in_t 1549 (by decide +kernel)
theorem hd_H_present : y_H_present.cls = R_H ∧ y_H_present.cls ≠ "java/lang/invoke/MethodHandle" ∧ y_H_present.cls ≠ "java/lang/invoke/VarHandle" ∧ (parseMethodDescriptor y_H_present.desc).map (fun d => d.parameters.length) = some 3 := by decide +kernel
theorem d_H_present_0 : decode b_H_present 0 = .ok (.aload_n 0, 1) := by decide +kernel
theorem d_H_present_1 : decode b_H_present 1 = .ok (.iload_n 1, 1) := by decide +kernel
theorem d_H_present_2 : decode b_H_present 2 = .ok (.iload_n 2, 1) := by decide +kernel
theorem d_H_present_3 : decode b_H_present 3 = .ok (.invokevirtual 222, 3) := by decide +kernel
theorem d_H_present_6 : decode b_H_present 6 = .ok (.ifCond .eq 12, 3) := by decide +kernel
theorem d_H_present_9 : decode b_H_present 9 = .ok (.iload_n 3, 1) := by decide +kernel
theorem d_H_present_10 : decode b_H_present 10 = .ok (.ifCond .lt 8, 3) := by decide +kernel
theorem d_H_present_13 : decode b_H_present 13 = .ok (.iload_n 3, 1) := by decide +kernel
theorem d_H_present_14 : decode b_H_present 14 = .ok (.iconst 3, 1) := by decide +kernel
theorem d_H_present_15 : decode b_H_present 15 = .ok (.if_icmp .le 5, 3) := by decide +kernel
theorem d_H_present_18 : decode b_H_present 18 = .ok (.iconst (-1), 1) := by decide +kernel
theorem d_H_present_19 : decode b_H_present 19 = .ok (.ireturn, 1) := by decide +kernel
theorem d_H_present_20 : decode b_H_present 20 = .ok (.aload_n 0, 1) := by decide +kernel
theorem d_H_present_21 : decode b_H_present 21 = .ok (.getfield 49, 3) := by decide +kernel
theorem d_H_present_24 : decode b_H_present 24 = .ok (.iload_n 1, 1) := by decide +kernel
theorem d_H_present_25 : decode b_H_present 25 = .ok (.aaload, 1) := by decide +kernel
theorem d_H_present_26 : decode b_H_present 26 = .ok (.aload_n 0, 1) := by decide +kernel
theorem d_H_present_27 : decode b_H_present 27 = .ok (.getfield 49, 3) := by decide +kernel
theorem d_H_present_30 : decode b_H_present 30 = .ok (.iload_n 1, 1) := by decide +kernel
theorem d_H_present_31 : decode b_H_present 31 = .ok (.aaload, 1) := by decide +kernel
theorem d_H_present_32 : decode b_H_present 32 = .ok (.getfield 225, 3) := by decide +kernel
theorem d_H_present_35 : decode b_H_present 35 = .ok (.iload_n 2, 1) := by decide +kernel
theorem d_H_present_36 : decode b_H_present 36 = .ok (.aaload, 1) := by decide +kernel
theorem d_H_present_37 : decode b_H_present 37 = .ok (.iload_n 3, 1) := by decide +kernel
theorem d_H_present_38 : decode b_H_present 38 = .ok (.aload_n 0, 1) := by decide +kernel
theorem d_H_present_39 : decode b_H_present 39 = .ok (.getfield 25, 3) := by decide +kernel
theorem d_H_present_42 : decode b_H_present 42 = .ok (.invokevirtual 235, 3) := by decide +kernel
theorem d_H_present_45 : decode b_H_present 45 = .ok (.aload_n 0, 1) := by decide +kernel
theorem d_H_present_46 : decode b_H_present 46 = .ok (.getfield 25, 3) := by decide +kernel
theorem d_H_present_49 : decode b_H_present 49 = .ok (.getfield 81, 3) := by decide +kernel
theorem d_H_present_52 : decode b_H_present 52 = .ok (.ireturn, 1) := by decide +kernel
abbrev b_H_serve : ByteArray := prog_1_method_20_code
def y_H_serve : MethodName := ⟨R_H, "serve", "(I)I"⟩
abbrev k_H_serve : Cond := .code y_H_serve b_H_serve 5 (some .int)
theorem ki_H_serve : k_H_serve ∈ lw_tg := in_t 1560 (by decide +kernel)
theorem ks_H_serve : Cond.instanceMethod y_H_serve ∈ lw_tg := in_t 1558 (by decide +kernel)
theorem kx_H_serve : Cond.selects R_H y_H_serve y_H_serve ∈ lw_tg := in_t 1559 (by decide +kernel)
theorem hd_H_serve : y_H_serve.cls = R_H ∧ y_H_serve.cls ≠ "java/lang/invoke/MethodHandle" ∧ y_H_serve.cls ≠ "java/lang/invoke/VarHandle" ∧ (parseMethodDescriptor y_H_serve.desc).map (fun d => d.parameters.length) = some 1 := by decide +kernel
theorem d_H_serve_0 : decode b_H_serve 0 = .ok (.aload_n 0, 1) := by decide +kernel
theorem d_H_serve_1 : decode b_H_serve 1 = .ok (.iload_n 1, 1) := by decide +kernel
theorem d_H_serve_2 : decode b_H_serve 2 = .ok (.invokevirtual 132, 3) := by decide +kernel
theorem d_H_serve_5 : decode b_H_serve 5 = .ok (.ifCond .ne 12, 3) := by decide +kernel
theorem d_H_serve_8 : decode b_H_serve 8 = .ok (.aload_n 0, 1) := by decide +kernel
theorem d_H_serve_9 : decode b_H_serve 9 = .ok (.getfield 21, 3) := by decide +kernel
theorem d_H_serve_12 : decode b_H_serve 12 = .ok (.invokevirtual 88, 3) := by decide +kernel
theorem d_H_serve_15 : decode b_H_serve 15 = .ok (.iconst (-1), 1) := by decide +kernel
theorem d_H_serve_16 : decode b_H_serve 16 = .ok (.ireturn, 1) := by decide +kernel
theorem d_H_serve_17 : decode b_H_serve 17 = .ok (.aload_n 0, 1) := by decide +kernel
theorem d_H_serve_18 : decode b_H_serve 18 = .ok (.getfield 42, 3) := by decide +kernel
theorem d_H_serve_21 : decode b_H_serve 21 = .ok (.iload_n 1, 1) := by decide +kernel
theorem d_H_serve_22 : decode b_H_serve 22 = .ok (.aaload, 1) := by decide +kernel
theorem d_H_serve_23 : decode b_H_serve 23 = .ok (.astore_n 2, 1) := by decide +kernel
theorem d_H_serve_24 : decode b_H_serve 24 = .ok (.iconst 0, 1) := by decide +kernel
theorem d_H_serve_25 : decode b_H_serve 25 = .ok (.istore_n 3, 1) := by decide +kernel
theorem d_H_serve_26 : decode b_H_serve 26 = .ok (.iload_n 3, 1) := by decide +kernel
theorem d_H_serve_27 : decode b_H_serve 27 = .ok (.bipush 8, 2) := by decide +kernel
theorem d_H_serve_29 : decode b_H_serve 29 = .ok (.if_icmp .ge 21, 3) := by decide +kernel
theorem d_H_serve_32 : decode b_H_serve 32 = .ok (.aload_n 0, 1) := by decide +kernel
theorem d_H_serve_33 : decode b_H_serve 33 = .ok (.getfield 56, 3) := by decide +kernel
theorem d_H_serve_36 : decode b_H_serve 36 = .ok (.iload_n 3, 1) := by decide +kernel
theorem d_H_serve_37 : decode b_H_serve 37 = .ok (.aaload, 1) := by decide +kernel
theorem d_H_serve_38 : decode b_H_serve 38 = .ok (.getfield 239, 3) := by decide +kernel
theorem d_H_serve_41 : decode b_H_serve 41 = .ok (.ifCond .eq 9, 3) := by decide +kernel
theorem d_H_serve_44 : decode b_H_serve 44 = .ok (.iinc 3 1, 3) := by decide +kernel
theorem d_H_serve_47 : decode b_H_serve 47 = .ok (.goto (-21), 3) := by decide +kernel
theorem d_H_serve_50 : decode b_H_serve 50 = .ok (.aload_n 0, 1) := by decide +kernel
theorem d_H_serve_51 : decode b_H_serve 51 = .ok (.getfield 36, 3) := by decide +kernel
theorem d_H_serve_54 : decode b_H_serve 54 = .ok (.aload_n 0, 1) := by decide +kernel
theorem d_H_serve_55 : decode b_H_serve 55 = .ok (.getfield 21, 3) := by decide +kernel
theorem d_H_serve_58 : decode b_H_serve 58 = .ok (.iconst 0, 1) := by decide +kernel
theorem d_H_serve_59 : decode b_H_serve 59 = .ok (.aload_n 0, 1) := by decide +kernel
theorem d_H_serve_60 : decode b_H_serve 60 = .ok (.getfield 21, 3) := by decide +kernel
theorem d_H_serve_63 : decode b_H_serve 63 = .ok (.getfield 81, 3) := by decide +kernel
theorem d_H_serve_66 : decode b_H_serve 66 = .ok (.aload_n 2, 1) := by decide +kernel
theorem d_H_serve_67 : decode b_H_serve 67 = .ok (.aload_n 2, 1) := by decide +kernel
theorem d_H_serve_68 : decode b_H_serve 68 = .ok (.getfield 240, 3) := by decide +kernel
theorem d_H_serve_71 : decode b_H_serve 71 = .ok (.bipush 11, 2) := by decide +kernel
theorem d_H_serve_73 : decode b_H_serve 73 = .ok (.invokevirtual 167, 3) := by decide +kernel
theorem d_H_serve_76 : decode b_H_serve 76 = .ok (.istore 4, 2) := by decide +kernel
theorem d_H_serve_78 : decode b_H_serve 78 = .ok (.iload 4, 2) := by decide +kernel
theorem d_H_serve_80 : decode b_H_serve 80 = .ok (.ifCond .ne 24, 3) := by decide +kernel
theorem d_H_serve_83 : decode b_H_serve 83 = .ok (.aload_n 0, 1) := by decide +kernel
theorem d_H_serve_84 : decode b_H_serve 84 = .ok (.getfield 36, 3) := by decide +kernel
theorem d_H_serve_87 : decode b_H_serve 87 = .ok (.aload_n 2, 1) := by decide +kernel
theorem d_H_serve_88 : decode b_H_serve 88 = .ok (.iload_n 3, 1) := by decide +kernel
theorem d_H_serve_89 : decode b_H_serve 89 = .ok (.bipush 8, 2) := by decide +kernel
theorem d_H_serve_91 : decode b_H_serve 91 = .ok (.if_icmp .ge 7, 3) := by decide +kernel
theorem d_H_serve_94 : decode b_H_serve 94 = .ok (.iconst 1, 1) := by decide +kernel
theorem d_H_serve_95 : decode b_H_serve 95 = .ok (.goto 4, 3) := by decide +kernel
theorem d_H_serve_98 : decode b_H_serve 98 = .ok (.iconst 0, 1) := by decide +kernel
theorem d_H_serve_99 : decode b_H_serve 99 = .ok (.invokevirtual 241, 3) := by decide +kernel
theorem d_H_serve_102 : decode b_H_serve 102 = .ok (.istore 4, 2) := by decide +kernel
theorem d_H_serve_104 : decode b_H_serve 104 = .ok (.aload_n 0, 1) := by decide +kernel
theorem d_H_serve_105 : decode b_H_serve 105 = .ok (.getfield 25, 3) := by decide +kernel
theorem d_H_serve_108 : decode b_H_serve 108 = .ok (.invokevirtual 88, 3) := by decide +kernel
theorem d_H_serve_111 : decode b_H_serve 111 = .ok (.iload 4, 2) := by decide +kernel
theorem d_H_serve_113 : decode b_H_serve 113 = .ok (.ifCond .eq 13, 3) := by decide +kernel
theorem d_H_serve_116 : decode b_H_serve 116 = .ok (.aload_n 0, 1) := by decide +kernel
theorem d_H_serve_117 : decode b_H_serve 117 = .ok (.aload_n 2, 1) := by decide +kernel
theorem d_H_serve_118 : decode b_H_serve 118 = .ok (.iload 4, 2) := by decide +kernel
theorem d_H_serve_120 : decode b_H_serve 120 = .ok (.invokevirtual 245, 3) := by decide +kernel
theorem d_H_serve_123 : decode b_H_serve 123 = .ok (.goto 47, 3) := by decide +kernel
theorem d_H_serve_126 : decode b_H_serve 126 = .ok (.aload_n 0, 1) := by decide +kernel
theorem d_H_serve_127 : decode b_H_serve 127 = .ok (.getfield 56, 3) := by decide +kernel
theorem d_H_serve_130 : decode b_H_serve 130 = .ok (.iload_n 3, 1) := by decide +kernel
theorem d_H_serve_131 : decode b_H_serve 131 = .ok (.aaload, 1) := by decide +kernel
theorem d_H_serve_132 : decode b_H_serve 132 = .ok (.aload_n 0, 1) := by decide +kernel
theorem d_H_serve_133 : decode b_H_serve 133 = .ok (.getfield 36, 3) := by decide +kernel
theorem d_H_serve_136 : decode b_H_serve 136 = .ok (.aload_n 0, 1) := by decide +kernel
theorem d_H_serve_137 : decode b_H_serve 137 = .ok (.getfield 21, 3) := by decide +kernel
theorem d_H_serve_140 : decode b_H_serve 140 = .ok (.aload_n 0, 1) := by decide +kernel
theorem d_H_serve_141 : decode b_H_serve 141 = .ok (.getfield 21, 3) := by decide +kernel
theorem d_H_serve_144 : decode b_H_serve 144 = .ok (.iconst 0, 1) := by decide +kernel
theorem d_H_serve_145 : decode b_H_serve 145 = .ok (.iconst 2, 1) := by decide +kernel
theorem d_H_serve_146 : decode b_H_serve 146 = .ok (.invokevirtual 249, 3) := by decide +kernel
theorem d_H_serve_149 : decode b_H_serve 149 = .ok (.invokevirtual 252, 3) := by decide +kernel
theorem d_H_serve_152 : decode b_H_serve 152 = .ok (.ldc 255, 2) := by decide +kernel
theorem d_H_serve_154 : decode b_H_serve 154 = .ok (.iand, 1) := by decide +kernel
theorem d_H_serve_155 : decode b_H_serve 155 = .ok (.ifCond .eq 7, 3) := by decide +kernel
theorem d_H_serve_158 : decode b_H_serve 158 = .ok (.iconst 1, 1) := by decide +kernel
theorem d_H_serve_159 : decode b_H_serve 159 = .ok (.goto 4, 3) := by decide +kernel
theorem d_H_serve_162 : decode b_H_serve 162 = .ok (.iconst 0, 1) := by decide +kernel
theorem d_H_serve_163 : decode b_H_serve 163 = .ok (.aload_n 0, 1) := by decide +kernel
theorem d_H_serve_164 : decode b_H_serve 164 = .ok (.getfield 25, 3) := by decide +kernel
theorem d_H_serve_167 : decode b_H_serve 167 = .ok (.invokevirtual 256, 3) := by decide +kernel
theorem d_H_serve_170 : decode b_H_serve 170 = .ok (.aload_n 0, 1) := by decide +kernel
theorem d_H_serve_171 : decode b_H_serve 171 = .ok (.getfield 21, 3) := by decide +kernel
theorem d_H_serve_174 : decode b_H_serve 174 = .ok (.invokevirtual 88, 3) := by decide +kernel
theorem d_H_serve_177 : decode b_H_serve 177 = .ok (.iload 4, 2) := by decide +kernel
theorem d_H_serve_179 : decode b_H_serve 179 = .ok (.ifCond .ne 7, 3) := by decide +kernel
theorem d_H_serve_182 : decode b_H_serve 182 = .ok (.iload_n 3, 1) := by decide +kernel
theorem d_H_serve_183 : decode b_H_serve 183 = .ok (.goto 6, 3) := by decide +kernel
theorem d_H_serve_186 : decode b_H_serve 186 = .ok (.iload 4, 2) := by decide +kernel
theorem d_H_serve_188 : decode b_H_serve 188 = .ok (.ineg, 1) := by decide +kernel
theorem d_H_serve_189 : decode b_H_serve 189 = .ok (.ireturn, 1) := by decide +kernel
abbrev b_H_met : ByteArray := prog_1_method_21_code
def y_H_met : MethodName := ⟨R_H, "met", "(I)I"⟩
abbrev k_H_met : Cond := .code y_H_met b_H_met 3 (some .int)
theorem ki_H_met : k_H_met ∈ lw_tg := in_t 1606 (by decide +kernel)
theorem ks_H_met : Cond.instanceMethod y_H_met ∈ lw_tg := in_t 1604 (by decide +kernel)
theorem kx_H_met : Cond.selects R_H y_H_met y_H_met ∈ lw_tg := in_t 1605 (by decide +kernel)
theorem hd_H_met : y_H_met.cls = R_H ∧ y_H_met.cls ≠ "java/lang/invoke/MethodHandle" ∧ y_H_met.cls ≠ "java/lang/invoke/VarHandle" ∧ (parseMethodDescriptor y_H_met.desc).map (fun d => d.parameters.length) = some 1 := by decide +kernel
theorem d_H_met_0 : decode b_H_met 0 = .ok (.aload_n 0, 1) := by decide +kernel
theorem d_H_met_1 : decode b_H_met 1 = .ok (.iload_n 1, 1) := by decide +kernel
theorem d_H_met_2 : decode b_H_met 2 = .ok (.invokevirtual 188, 3) := by decide +kernel
theorem d_H_met_5 : decode b_H_met 5 = .ok (.ifCond .eq 19, 3) := by decide +kernel
theorem d_H_met_8 : decode b_H_met 8 = .ok (.aload_n 0, 1) := by decide +kernel
theorem d_H_met_9 : decode b_H_met 9 = .ok (.getfield 49, 3) := by decide +kernel
theorem d_H_met_12 : decode b_H_met 12 = .ok (.iload_n 1, 1) := by decide +kernel
theorem d_H_met_13 : decode b_H_met 13 = .ok (.aaload, 1) := by decide +kernel
theorem d_H_met_14 : decode b_H_met 14 = .ok (.aload_n 0, 1) := by decide +kernel
theorem d_H_met_15 : decode b_H_met 15 = .ok (.getfield 21, 3) := by decide +kernel
theorem d_H_met_18 : decode b_H_met 18 = .ok (.invokevirtual 259, 3) := by decide +kernel
theorem d_H_met_21 : decode b_H_met 21 = .ok (.goto 4, 3) := by decide +kernel
theorem d_H_met_24 : decode b_H_met 24 = .ok (.iconst (-1), 1) := by decide +kernel
theorem d_H_met_25 : decode b_H_met 25 = .ok (.istore_n 2, 1) := by decide +kernel
theorem d_H_met_26 : decode b_H_met 26 = .ok (.aload_n 0, 1) := by decide +kernel
theorem d_H_met_27 : decode b_H_met 27 = .ok (.getfield 21, 3) := by decide +kernel
theorem d_H_met_30 : decode b_H_met 30 = .ok (.invokevirtual 88, 3) := by decide +kernel
theorem d_H_met_33 : decode b_H_met 33 = .ok (.iload_n 2, 1) := by decide +kernel
theorem d_H_met_34 : decode b_H_met 34 = .ok (.ireturn, 1) := by decide +kernel
abbrev b_H_joins : ByteArray := prog_1_method_22_code
def y_H_joins : MethodName := ⟨R_H, "joins", "(II)Z"⟩
abbrev k_H_joins : Cond := .code y_H_joins b_H_joins 3 (some .boolean)
theorem ki_H_joins : k_H_joins ∈ lw_tg := in_t 1615 (by decide +kernel)
theorem ks_H_joins : Cond.instanceMethod y_H_joins ∈ lw_tg := in_t 1613 (by decide +kernel)
theorem kx_H_joins : Cond.selects R_H y_H_joins y_H_joins ∈ lw_tg := in_t 1614 (by decide +kernel)
theorem hd_H_joins : y_H_joins.cls = R_H ∧ y_H_joins.cls ≠ "java/lang/invoke/MethodHandle" ∧ y_H_joins.cls ≠ "java/lang/invoke/VarHandle" ∧ (parseMethodDescriptor y_H_joins.desc).map (fun d => d.parameters.length) = some 2 := by decide +kernel
theorem d_H_joins_0 : decode b_H_joins 0 = .ok (.aload_n 0, 1) := by decide +kernel
theorem d_H_joins_1 : decode b_H_joins 1 = .ok (.iload_n 1, 1) := by decide +kernel
theorem d_H_joins_2 : decode b_H_joins 2 = .ok (.invokevirtual 262, 3) := by decide +kernel
theorem d_H_joins_5 : decode b_H_joins 5 = .ok (.ifCond .eq 34, 3) := by decide +kernel
theorem d_H_joins_8 : decode b_H_joins 8 = .ok (.aload_n 0, 1) := by decide +kernel
theorem d_H_joins_9 : decode b_H_joins 9 = .ok (.iload_n 2, 1) := by decide +kernel
theorem d_H_joins_10 : decode b_H_joins 10 = .ok (.invokevirtual 188, 3) := by decide +kernel
theorem d_H_joins_13 : decode b_H_joins 13 = .ok (.ifCond .eq 26, 3) := by decide +kernel
theorem d_H_joins_16 : decode b_H_joins 16 = .ok (.aload_n 0, 1) := by decide +kernel
theorem d_H_joins_17 : decode b_H_joins 17 = .ok (.getfield 56, 3) := by decide +kernel
theorem d_H_joins_20 : decode b_H_joins 20 = .ok (.iload_n 1, 1) := by decide +kernel
theorem d_H_joins_21 : decode b_H_joins 21 = .ok (.aaload, 1) := by decide +kernel
theorem d_H_joins_22 : decode b_H_joins 22 = .ok (.iload_n 2, 1) := by decide +kernel
theorem d_H_joins_23 : decode b_H_joins 23 = .ok (.aload_n 0, 1) := by decide +kernel
theorem d_H_joins_24 : decode b_H_joins 24 = .ok (.getfield 49, 3) := by decide +kernel
theorem d_H_joins_27 : decode b_H_joins 27 = .ok (.iload_n 2, 1) := by decide +kernel
theorem d_H_joins_28 : decode b_H_joins 28 = .ok (.aaload, 1) := by decide +kernel
theorem d_H_joins_29 : decode b_H_joins 29 = .ok (.invokevirtual 265, 3) := by decide +kernel
theorem d_H_joins_32 : decode b_H_joins 32 = .ok (.ifCond .eq 7, 3) := by decide +kernel
theorem d_H_joins_35 : decode b_H_joins 35 = .ok (.iconst 1, 1) := by decide +kernel
theorem d_H_joins_36 : decode b_H_joins 36 = .ok (.goto 4, 3) := by decide +kernel
theorem d_H_joins_39 : decode b_H_joins 39 = .ok (.iconst 0, 1) := by decide +kernel
theorem d_H_joins_40 : decode b_H_joins 40 = .ok (.ireturn, 1) := by decide +kernel
abbrev b_H_send : ByteArray := prog_1_method_23_code
def y_H_send : MethodName := ⟨R_H, "send", "(II)I"⟩
abbrev k_H_send : Cond := .code y_H_send b_H_send 4 (some .int)
theorem ki_H_send : k_H_send ∈ lw_tg := in_t 1631 (by decide +kernel)
theorem ks_H_send : Cond.instanceMethod y_H_send ∈ lw_tg := in_t 1629 (by decide +kernel)
theorem kx_H_send : Cond.selects R_H y_H_send y_H_send ∈ lw_tg := in_t 1630 (by decide +kernel)
theorem hd_H_send : y_H_send.cls = R_H ∧ y_H_send.cls ≠ "java/lang/invoke/MethodHandle" ∧ y_H_send.cls ≠ "java/lang/invoke/VarHandle" ∧ (parseMethodDescriptor y_H_send.desc).map (fun d => d.parameters.length) = some 2 := by decide +kernel
theorem d_H_send_0 : decode b_H_send 0 = .ok (.aload_n 0, 1) := by decide +kernel
theorem d_H_send_1 : decode b_H_send 1 = .ok (.iload_n 1, 1) := by decide +kernel
theorem d_H_send_2 : decode b_H_send 2 = .ok (.iload_n 2, 1) := by decide +kernel
theorem d_H_send_3 : decode b_H_send 3 = .ok (.invokevirtual 269, 3) := by decide +kernel
theorem d_H_send_6 : decode b_H_send 6 = .ok (.ifCond .eq 20, 3) := by decide +kernel
theorem d_H_send_9 : decode b_H_send 9 = .ok (.aload_n 0, 1) := by decide +kernel
theorem d_H_send_10 : decode b_H_send 10 = .ok (.getfield 21, 3) := by decide +kernel
theorem d_H_send_13 : decode b_H_send 13 = .ok (.getfield 81, 3) := by decide +kernel
theorem d_H_send_16 : decode b_H_send 16 = .ok (.sipush 1000, 3) := by decide +kernel
theorem d_H_send_19 : decode b_H_send 19 = .ok (.if_icmp .gt 7, 3) := by decide +kernel
theorem d_H_send_22 : decode b_H_send 22 = .ok (.iconst 1, 1) := by decide +kernel
theorem d_H_send_23 : decode b_H_send 23 = .ok (.goto 4, 3) := by decide +kernel
theorem d_H_send_26 : decode b_H_send 26 = .ok (.iconst 0, 1) := by decide +kernel
theorem d_H_send_27 : decode b_H_send 27 = .ok (.istore_n 3, 1) := by decide +kernel
theorem d_H_send_28 : decode b_H_send 28 = .ok (.iload_n 3, 1) := by decide +kernel
theorem d_H_send_29 : decode b_H_send 29 = .ok (.ifCond .eq 27, 3) := by decide +kernel
theorem d_H_send_32 : decode b_H_send 32 = .ok (.aload_n 0, 1) := by decide +kernel
theorem d_H_send_33 : decode b_H_send 33 = .ok (.getfield 56, 3) := by decide +kernel
theorem d_H_send_36 : decode b_H_send 36 = .ok (.iload_n 1, 1) := by decide +kernel
theorem d_H_send_37 : decode b_H_send 37 = .ok (.aaload, 1) := by decide +kernel
theorem d_H_send_38 : decode b_H_send 38 = .ok (.iload_n 2, 1) := by decide +kernel
theorem d_H_send_39 : decode b_H_send 39 = .ok (.aload_n 0, 1) := by decide +kernel
theorem d_H_send_40 : decode b_H_send 40 = .ok (.iload_n 1, 1) := by decide +kernel
theorem d_H_send_41 : decode b_H_send 41 = .ok (.iload_n 2, 1) := by decide +kernel
theorem d_H_send_42 : decode b_H_send 42 = .ok (.invokevirtual 272, 3) := by decide +kernel
theorem d_H_send_45 : decode b_H_send 45 = .ok (.aload_n 0, 1) := by decide +kernel
theorem d_H_send_46 : decode b_H_send 46 = .ok (.getfield 21, 3) := by decide +kernel
theorem d_H_send_49 : decode b_H_send 49 = .ok (.aload_n 0, 1) := by decide +kernel
theorem d_H_send_50 : decode b_H_send 50 = .ok (.getfield 25, 3) := by decide +kernel
theorem d_H_send_53 : decode b_H_send 53 = .ok (.invokevirtual 275, 3) := by decide +kernel
theorem d_H_send_56 : decode b_H_send 56 = .ok (.aload_n 0, 1) := by decide +kernel
theorem d_H_send_57 : decode b_H_send 57 = .ok (.getfield 21, 3) := by decide +kernel
theorem d_H_send_60 : decode b_H_send 60 = .ok (.invokevirtual 88, 3) := by decide +kernel
theorem d_H_send_63 : decode b_H_send 63 = .ok (.iload_n 3, 1) := by decide +kernel
theorem d_H_send_64 : decode b_H_send 64 = .ok (.ifCond .eq 13, 3) := by decide +kernel
theorem d_H_send_67 : decode b_H_send 67 = .ok (.aload_n 0, 1) := by decide +kernel
theorem d_H_send_68 : decode b_H_send 68 = .ok (.getfield 25, 3) := by decide +kernel
theorem d_H_send_71 : decode b_H_send 71 = .ok (.getfield 81, 3) := by decide +kernel
theorem d_H_send_74 : decode b_H_send 74 = .ok (.goto 4, 3) := by decide +kernel
theorem d_H_send_77 : decode b_H_send 77 = .ok (.iconst (-1), 1) := by decide +kernel
theorem d_H_send_78 : decode b_H_send 78 = .ok (.ireturn, 1) := by decide +kernel
abbrev b_H_receive : ByteArray := prog_1_method_24_code
def y_H_receive : MethodName := ⟨R_H, "receive", "(II)I"⟩
abbrev k_H_receive : Cond := .code y_H_receive b_H_receive 4 (some .int)
theorem ki_H_receive : k_H_receive ∈ lw_tg := in_t 1656 (by decide +kernel)
theorem ks_H_receive : Cond.instanceMethod y_H_receive ∈ lw_tg := in_t 1654 (by decide +kernel)
theorem kx_H_receive : Cond.selects R_H y_H_receive y_H_receive ∈ lw_tg := in_t 1655 (by decide +kernel)
theorem hd_H_receive : y_H_receive.cls = R_H ∧ y_H_receive.cls ≠ "java/lang/invoke/MethodHandle" ∧ y_H_receive.cls ≠ "java/lang/invoke/VarHandle" ∧ (parseMethodDescriptor y_H_receive.desc).map (fun d => d.parameters.length) = some 2 := by decide +kernel
theorem d_H_receive_0 : decode b_H_receive 0 = .ok (.aload_n 0, 1) := by decide +kernel
theorem d_H_receive_1 : decode b_H_receive 1 = .ok (.iload_n 1, 1) := by decide +kernel
theorem d_H_receive_2 : decode b_H_receive 2 = .ok (.iload_n 2, 1) := by decide +kernel
theorem d_H_receive_3 : decode b_H_receive 3 = .ok (.invokevirtual 269, 3) := by decide +kernel
theorem d_H_receive_6 : decode b_H_receive 6 = .ok (.ifCond .eq 30, 3) := by decide +kernel
theorem d_H_receive_9 : decode b_H_receive 9 = .ok (.aload_n 0, 1) := by decide +kernel
theorem d_H_receive_10 : decode b_H_receive 10 = .ok (.getfield 56, 3) := by decide +kernel
theorem d_H_receive_13 : decode b_H_receive 13 = .ok (.iload_n 1, 1) := by decide +kernel
theorem d_H_receive_14 : decode b_H_receive 14 = .ok (.aaload, 1) := by decide +kernel
theorem d_H_receive_15 : decode b_H_receive 15 = .ok (.iload_n 2, 1) := by decide +kernel
theorem d_H_receive_16 : decode b_H_receive 16 = .ok (.aload_n 0, 1) := by decide +kernel
theorem d_H_receive_17 : decode b_H_receive 17 = .ok (.iload_n 1, 1) := by decide +kernel
theorem d_H_receive_18 : decode b_H_receive 18 = .ok (.iload_n 2, 1) := by decide +kernel
theorem d_H_receive_19 : decode b_H_receive 19 = .ok (.invokevirtual 272, 3) := by decide +kernel
theorem d_H_receive_22 : decode b_H_receive 22 = .ok (.aload_n 0, 1) := by decide +kernel
theorem d_H_receive_23 : decode b_H_receive 23 = .ok (.getfield 21, 3) := by decide +kernel
theorem d_H_receive_26 : decode b_H_receive 26 = .ok (.aload_n 0, 1) := by decide +kernel
theorem d_H_receive_27 : decode b_H_receive 27 = .ok (.getfield 25, 3) := by decide +kernel
theorem d_H_receive_30 : decode b_H_receive 30 = .ok (.invokevirtual 279, 3) := by decide +kernel
theorem d_H_receive_33 : decode b_H_receive 33 = .ok (.goto 4, 3) := by decide +kernel
theorem d_H_receive_36 : decode b_H_receive 36 = .ok (.iconst (-1), 1) := by decide +kernel
theorem d_H_receive_37 : decode b_H_receive 37 = .ok (.istore_n 3, 1) := by decide +kernel
theorem d_H_receive_38 : decode b_H_receive 38 = .ok (.aload_n 0, 1) := by decide +kernel
theorem d_H_receive_39 : decode b_H_receive 39 = .ok (.getfield 21, 3) := by decide +kernel
theorem d_H_receive_42 : decode b_H_receive 42 = .ok (.invokevirtual 88, 3) := by decide +kernel
theorem d_H_receive_45 : decode b_H_receive 45 = .ok (.iload_n 3, 1) := by decide +kernel
theorem d_H_receive_46 : decode b_H_receive 46 = .ok (.ireturn, 1) := by decide +kernel
abbrev b_H_ends : ByteArray := prog_1_method_25_code
def y_H_ends : MethodName := ⟨R_H, "ends", "(I)Z"⟩
abbrev k_H_ends : Cond := .code y_H_ends b_H_ends 2 (some .boolean)
theorem ki_H_ends : k_H_ends ∈ lw_tg := in_t 1682 (by decide +kernel)
theorem ks_H_ends : Cond.instanceMethod y_H_ends ∈ lw_tg := in_t 1680 (by decide +kernel)
theorem kx_H_ends : Cond.selects R_H y_H_ends y_H_ends ∈ lw_tg := in_t 1681 (by decide +kernel)
theorem hd_H_ends : y_H_ends.cls = R_H ∧ y_H_ends.cls ≠ "java/lang/invoke/MethodHandle" ∧ y_H_ends.cls ≠ "java/lang/invoke/VarHandle" ∧ (parseMethodDescriptor y_H_ends.desc).map (fun d => d.parameters.length) = some 1 := by decide +kernel
theorem d_H_ends_0 : decode b_H_ends 0 = .ok (.aload_n 0, 1) := by decide +kernel
theorem d_H_ends_1 : decode b_H_ends 1 = .ok (.iload_n 1, 1) := by decide +kernel
theorem d_H_ends_2 : decode b_H_ends 2 = .ok (.invokevirtual 262, 3) := by decide +kernel
theorem d_H_ends_5 : decode b_H_ends 5 = .ok (.ifCond .ne 5, 3) := by decide +kernel
theorem d_H_ends_8 : decode b_H_ends 8 = .ok (.iconst 0, 1) := by decide +kernel
theorem d_H_ends_9 : decode b_H_ends 9 = .ok (.ireturn, 1) := by decide +kernel
theorem d_H_ends_10 : decode b_H_ends 10 = .ok (.aload_n 0, 1) := by decide +kernel
theorem d_H_ends_11 : decode b_H_ends 11 = .ok (.getfield 56, 3) := by decide +kernel
theorem d_H_ends_14 : decode b_H_ends 14 = .ok (.iload_n 1, 1) := by decide +kernel
theorem d_H_ends_15 : decode b_H_ends 15 = .ok (.aaload, 1) := by decide +kernel
theorem d_H_ends_16 : decode b_H_ends 16 = .ok (.iconst 0, 1) := by decide +kernel
theorem d_H_ends_17 : decode b_H_ends 17 = .ok (.putfield 239, 3) := by decide +kernel
theorem d_H_ends_20 : decode b_H_ends 20 = .ok (.iconst 1, 1) := by decide +kernel
theorem d_H_ends_21 : decode b_H_ends 21 = .ok (.ireturn, 1) := by decide +kernel
abbrev b_H_assure : ByteArray := prog_1_method_26_code
def y_H_assure : MethodName := ⟨R_H, "assure", "(II)I"⟩
abbrev k_H_assure : Cond := .code y_H_assure b_H_assure 4 (some .int)
theorem ki_H_assure : k_H_assure ∈ lw_tg := in_t 1686 (by decide +kernel)
theorem ks_H_assure : Cond.instanceMethod y_H_assure ∈ lw_tg := in_t 1684 (by decide +kernel)
theorem kx_H_assure : Cond.selects R_H y_H_assure y_H_assure ∈ lw_tg := in_t 1685 (by decide +kernel)
theorem hd_H_assure : y_H_assure.cls = R_H ∧ y_H_assure.cls ≠ "java/lang/invoke/MethodHandle" ∧ y_H_assure.cls ≠ "java/lang/invoke/VarHandle" ∧ (parseMethodDescriptor y_H_assure.desc).map (fun d => d.parameters.length) = some 2 := by decide +kernel
theorem d_H_assure_0 : decode b_H_assure 0 = .ok (.aload_n 0, 1) := by decide +kernel
theorem d_H_assure_1 : decode b_H_assure 1 = .ok (.iload_n 1, 1) := by decide +kernel
theorem d_H_assure_2 : decode b_H_assure 2 = .ok (.iload_n 2, 1) := by decide +kernel
theorem d_H_assure_3 : decode b_H_assure 3 = .ok (.invokevirtual 269, 3) := by decide +kernel
theorem d_H_assure_6 : decode b_H_assure 6 = .ok (.ifCond .eq 20, 3) := by decide +kernel
theorem d_H_assure_9 : decode b_H_assure 9 = .ok (.aload_n 0, 1) := by decide +kernel
theorem d_H_assure_10 : decode b_H_assure 10 = .ok (.getfield 21, 3) := by decide +kernel
theorem d_H_assure_13 : decode b_H_assure 13 = .ok (.getfield 81, 3) := by decide +kernel
theorem d_H_assure_16 : decode b_H_assure 16 = .ok (.sipush 1000, 3) := by decide +kernel
theorem d_H_assure_19 : decode b_H_assure 19 = .ok (.if_icmp .gt 7, 3) := by decide +kernel
theorem d_H_assure_22 : decode b_H_assure 22 = .ok (.iconst 1, 1) := by decide +kernel
theorem d_H_assure_23 : decode b_H_assure 23 = .ok (.goto 4, 3) := by decide +kernel
theorem d_H_assure_26 : decode b_H_assure 26 = .ok (.iconst 0, 1) := by decide +kernel
theorem d_H_assure_27 : decode b_H_assure 27 = .ok (.istore_n 3, 1) := by decide +kernel
theorem d_H_assure_28 : decode b_H_assure 28 = .ok (.iload_n 3, 1) := by decide +kernel
theorem d_H_assure_29 : decode b_H_assure 29 = .ok (.ifCond .eq 27, 3) := by decide +kernel
theorem d_H_assure_32 : decode b_H_assure 32 = .ok (.aload_n 0, 1) := by decide +kernel
theorem d_H_assure_33 : decode b_H_assure 33 = .ok (.getfield 56, 3) := by decide +kernel
theorem d_H_assure_36 : decode b_H_assure 36 = .ok (.iload_n 1, 1) := by decide +kernel
theorem d_H_assure_37 : decode b_H_assure 37 = .ok (.aaload, 1) := by decide +kernel
theorem d_H_assure_38 : decode b_H_assure 38 = .ok (.iload_n 2, 1) := by decide +kernel
theorem d_H_assure_39 : decode b_H_assure 39 = .ok (.aload_n 0, 1) := by decide +kernel
theorem d_H_assure_40 : decode b_H_assure 40 = .ok (.iload_n 1, 1) := by decide +kernel
theorem d_H_assure_41 : decode b_H_assure 41 = .ok (.iload_n 2, 1) := by decide +kernel
theorem d_H_assure_42 : decode b_H_assure 42 = .ok (.invokevirtual 272, 3) := by decide +kernel
theorem d_H_assure_45 : decode b_H_assure 45 = .ok (.aload_n 0, 1) := by decide +kernel
theorem d_H_assure_46 : decode b_H_assure 46 = .ok (.getfield 21, 3) := by decide +kernel
theorem d_H_assure_49 : decode b_H_assure 49 = .ok (.aload_n 0, 1) := by decide +kernel
theorem d_H_assure_50 : decode b_H_assure 50 = .ok (.getfield 25, 3) := by decide +kernel
theorem d_H_assure_53 : decode b_H_assure 53 = .ok (.invokevirtual 283, 3) := by decide +kernel
theorem d_H_assure_56 : decode b_H_assure 56 = .ok (.aload_n 0, 1) := by decide +kernel
theorem d_H_assure_57 : decode b_H_assure 57 = .ok (.getfield 21, 3) := by decide +kernel
theorem d_H_assure_60 : decode b_H_assure 60 = .ok (.invokevirtual 88, 3) := by decide +kernel
theorem d_H_assure_63 : decode b_H_assure 63 = .ok (.iload_n 3, 1) := by decide +kernel
theorem d_H_assure_64 : decode b_H_assure 64 = .ok (.ifCond .eq 13, 3) := by decide +kernel
theorem d_H_assure_67 : decode b_H_assure 67 = .ok (.aload_n 0, 1) := by decide +kernel
theorem d_H_assure_68 : decode b_H_assure 68 = .ok (.getfield 25, 3) := by decide +kernel
theorem d_H_assure_71 : decode b_H_assure 71 = .ok (.getfield 81, 3) := by decide +kernel
theorem d_H_assure_74 : decode b_H_assure 74 = .ok (.goto 4, 3) := by decide +kernel
theorem d_H_assure_77 : decode b_H_assure 77 = .ok (.iconst (-1), 1) := by decide +kernel
theorem d_H_assure_78 : decode b_H_assure 78 = .ok (.ireturn, 1) := by decide +kernel
abbrev b_H_assured : ByteArray := prog_1_method_27_code
def y_H_assured : MethodName := ⟨R_H, "assured", "(II)I"⟩
abbrev k_H_assured : Cond := .code y_H_assured b_H_assured 4 (some .int)
theorem ki_H_assured : k_H_assured ∈ lw_tg := in_t 1698 (by decide +kernel)
theorem ks_H_assured : Cond.instanceMethod y_H_assured ∈ lw_tg := in_t 1696 (by decide +kernel)
theorem kx_H_assured : Cond.selects R_H y_H_assured y_H_assured ∈ lw_tg := in_t 1697 (by decide +kernel)
theorem hd_H_assured : y_H_assured.cls = R_H ∧ y_H_assured.cls ≠ "java/lang/invoke/MethodHandle" ∧ y_H_assured.cls ≠ "java/lang/invoke/VarHandle" ∧ (parseMethodDescriptor y_H_assured.desc).map (fun d => d.parameters.length) = some 2 := by decide +kernel
theorem d_H_assured_0 : decode b_H_assured 0 = .ok (.aload_n 0, 1) := by decide +kernel
theorem d_H_assured_1 : decode b_H_assured 1 = .ok (.iload_n 1, 1) := by decide +kernel
theorem d_H_assured_2 : decode b_H_assured 2 = .ok (.iload_n 2, 1) := by decide +kernel
theorem d_H_assured_3 : decode b_H_assured 3 = .ok (.invokevirtual 269, 3) := by decide +kernel
theorem d_H_assured_6 : decode b_H_assured 6 = .ok (.ifCond .eq 30, 3) := by decide +kernel
theorem d_H_assured_9 : decode b_H_assured 9 = .ok (.aload_n 0, 1) := by decide +kernel
theorem d_H_assured_10 : decode b_H_assured 10 = .ok (.getfield 56, 3) := by decide +kernel
theorem d_H_assured_13 : decode b_H_assured 13 = .ok (.iload_n 1, 1) := by decide +kernel
theorem d_H_assured_14 : decode b_H_assured 14 = .ok (.aaload, 1) := by decide +kernel
theorem d_H_assured_15 : decode b_H_assured 15 = .ok (.iload_n 2, 1) := by decide +kernel
theorem d_H_assured_16 : decode b_H_assured 16 = .ok (.aload_n 0, 1) := by decide +kernel
theorem d_H_assured_17 : decode b_H_assured 17 = .ok (.iload_n 1, 1) := by decide +kernel
theorem d_H_assured_18 : decode b_H_assured 18 = .ok (.iload_n 2, 1) := by decide +kernel
theorem d_H_assured_19 : decode b_H_assured 19 = .ok (.invokevirtual 272, 3) := by decide +kernel
theorem d_H_assured_22 : decode b_H_assured 22 = .ok (.aload_n 0, 1) := by decide +kernel
theorem d_H_assured_23 : decode b_H_assured 23 = .ok (.getfield 21, 3) := by decide +kernel
theorem d_H_assured_26 : decode b_H_assured 26 = .ok (.aload_n 0, 1) := by decide +kernel
theorem d_H_assured_27 : decode b_H_assured 27 = .ok (.getfield 25, 3) := by decide +kernel
theorem d_H_assured_30 : decode b_H_assured 30 = .ok (.invokevirtual 286, 3) := by decide +kernel
theorem d_H_assured_33 : decode b_H_assured 33 = .ok (.goto 4, 3) := by decide +kernel
theorem d_H_assured_36 : decode b_H_assured 36 = .ok (.iconst (-1), 1) := by decide +kernel
theorem d_H_assured_37 : decode b_H_assured 37 = .ok (.istore_n 3, 1) := by decide +kernel
theorem d_H_assured_38 : decode b_H_assured 38 = .ok (.aload_n 0, 1) := by decide +kernel
theorem d_H_assured_39 : decode b_H_assured 39 = .ok (.getfield 21, 3) := by decide +kernel
theorem d_H_assured_42 : decode b_H_assured 42 = .ok (.invokevirtual 88, 3) := by decide +kernel
theorem d_H_assured_45 : decode b_H_assured 45 = .ok (.iload_n 3, 1) := by decide +kernel
theorem d_H_assured_46 : decode b_H_assured 46 = .ok (.ireturn, 1) := by decide +kernel
abbrev b_H_hand : ByteArray := prog_1_method_28_code
def y_H_hand : MethodName := ⟨R_H, "hand", "(II)I"⟩
abbrev k_H_hand : Cond := .code y_H_hand b_H_hand 4 (some .int)
theorem ki_H_hand : k_H_hand ∈ lw_tg := in_t 1708 (by decide +kernel)
theorem ks_H_hand : Cond.instanceMethod y_H_hand ∈ lw_tg := in_t 1706 (by decide +kernel)
theorem kx_H_hand : Cond.selects R_H y_H_hand y_H_hand ∈ lw_tg := in_t 1707 (by decide +kernel)
theorem hd_H_hand : y_H_hand.cls = R_H ∧ y_H_hand.cls ≠ "java/lang/invoke/MethodHandle" ∧ y_H_hand.cls ≠ "java/lang/invoke/VarHandle" ∧ (parseMethodDescriptor y_H_hand.desc).map (fun d => d.parameters.length) = some 2 := by decide +kernel
theorem d_H_hand_0 : decode b_H_hand 0 = .ok (.aload_n 0, 1) := by decide +kernel
theorem d_H_hand_1 : decode b_H_hand 1 = .ok (.iload_n 1, 1) := by decide +kernel
theorem d_H_hand_2 : decode b_H_hand 2 = .ok (.iconst 0, 1) := by decide +kernel
theorem d_H_hand_3 : decode b_H_hand 3 = .ok (.invokevirtual 269, 3) := by decide +kernel
theorem d_H_hand_6 : decode b_H_hand 6 = .ok (.ifCond .eq 20, 3) := by decide +kernel
theorem d_H_hand_9 : decode b_H_hand 9 = .ok (.aload_n 0, 1) := by decide +kernel
theorem d_H_hand_10 : decode b_H_hand 10 = .ok (.aload_n 0, 1) := by decide +kernel
theorem d_H_hand_11 : decode b_H_hand 11 = .ok (.getfield 56, 3) := by decide +kernel
theorem d_H_hand_14 : decode b_H_hand 14 = .ok (.iload_n 1, 1) := by decide +kernel
theorem d_H_hand_15 : decode b_H_hand 15 = .ok (.aaload, 1) := by decide +kernel
theorem d_H_hand_16 : decode b_H_hand 16 = .ok (.getfield 289, 3) := by decide +kernel
theorem d_H_hand_19 : decode b_H_hand 19 = .ok (.iload_n 2, 1) := by decide +kernel
theorem d_H_hand_20 : decode b_H_hand 20 = .ok (.invokevirtual 222, 3) := by decide +kernel
theorem d_H_hand_23 : decode b_H_hand 23 = .ok (.ifCond .ne 5, 3) := by decide +kernel
theorem d_H_hand_26 : decode b_H_hand 26 = .ok (.iconst (-1), 1) := by decide +kernel
theorem d_H_hand_27 : decode b_H_hand 27 = .ok (.ireturn, 1) := by decide +kernel
theorem d_H_hand_28 : decode b_H_hand 28 = .ok (.aload_n 0, 1) := by decide +kernel
theorem d_H_hand_29 : decode b_H_hand 29 = .ok (.getfield 49, 3) := by decide +kernel
theorem d_H_hand_32 : decode b_H_hand 32 = .ok (.aload_n 0, 1) := by decide +kernel
theorem d_H_hand_33 : decode b_H_hand 33 = .ok (.getfield 56, 3) := by decide +kernel
theorem d_H_hand_36 : decode b_H_hand 36 = .ok (.iload_n 1, 1) := by decide +kernel
theorem d_H_hand_37 : decode b_H_hand 37 = .ok (.aaload, 1) := by decide +kernel
theorem d_H_hand_38 : decode b_H_hand 38 = .ok (.getfield 289, 3) := by decide +kernel
theorem d_H_hand_41 : decode b_H_hand 41 = .ok (.aaload, 1) := by decide +kernel
theorem d_H_hand_42 : decode b_H_hand 42 = .ok (.astore_n 3, 1) := by decide +kernel
theorem d_H_hand_43 : decode b_H_hand 43 = .ok (.aload_n 0, 1) := by decide +kernel
theorem d_H_hand_44 : decode b_H_hand 44 = .ok (.getfield 56, 3) := by decide +kernel
theorem d_H_hand_47 : decode b_H_hand 47 = .ok (.iload_n 1, 1) := by decide +kernel
theorem d_H_hand_48 : decode b_H_hand 48 = .ok (.aaload, 1) := by decide +kernel
theorem d_H_hand_49 : decode b_H_hand 49 = .ok (.aload_n 3, 1) := by decide +kernel
theorem d_H_hand_50 : decode b_H_hand 50 = .ok (.getfield 225, 3) := by decide +kernel
theorem d_H_hand_53 : decode b_H_hand 53 = .ok (.iload_n 2, 1) := by decide +kernel
theorem d_H_hand_54 : decode b_H_hand 54 = .ok (.aaload, 1) := by decide +kernel
theorem d_H_hand_55 : decode b_H_hand 55 = .ok (.aload_n 3, 1) := by decide +kernel
theorem d_H_hand_56 : decode b_H_hand 56 = .ok (.invokevirtual 292, 3) := by decide +kernel
theorem d_H_hand_59 : decode b_H_hand 59 = .ok (.aload_n 0, 1) := by decide +kernel
theorem d_H_hand_60 : decode b_H_hand 60 = .ok (.getfield 25, 3) := by decide +kernel
theorem d_H_hand_63 : decode b_H_hand 63 = .ok (.invokevirtual 295, 3) := by decide +kernel
theorem d_H_hand_66 : decode b_H_hand 66 = .ok (.aload_n 0, 1) := by decide +kernel
theorem d_H_hand_67 : decode b_H_hand 67 = .ok (.getfield 25, 3) := by decide +kernel
theorem d_H_hand_70 : decode b_H_hand 70 = .ok (.getfield 81, 3) := by decide +kernel
theorem d_H_hand_73 : decode b_H_hand 73 = .ok (.ireturn, 1) := by decide +kernel
abbrev b_H_handed : ByteArray := prog_1_method_29_code
def y_H_handed : MethodName := ⟨R_H, "handed", "(II)I"⟩
abbrev k_H_handed : Cond := .code y_H_handed b_H_handed 4 (some .int)
theorem ki_H_handed : k_H_handed ∈ lw_tg := in_t 1730 (by decide +kernel)
theorem ks_H_handed : Cond.instanceMethod y_H_handed ∈ lw_tg := in_t 1728 (by decide +kernel)
theorem kx_H_handed : Cond.selects R_H y_H_handed y_H_handed ∈ lw_tg := in_t 1729 (by decide +kernel)
theorem hd_H_handed : y_H_handed.cls = R_H ∧ y_H_handed.cls ≠ "java/lang/invoke/MethodHandle" ∧ y_H_handed.cls ≠ "java/lang/invoke/VarHandle" ∧ (parseMethodDescriptor y_H_handed.desc).map (fun d => d.parameters.length) = some 2 := by decide +kernel
theorem d_H_handed_0 : decode b_H_handed 0 = .ok (.iconst (-1), 1) := by decide +kernel
theorem d_H_handed_1 : decode b_H_handed 1 = .ok (.istore_n 3, 1) := by decide +kernel
theorem d_H_handed_2 : decode b_H_handed 2 = .ok (.aload_n 0, 1) := by decide +kernel
theorem d_H_handed_3 : decode b_H_handed 3 = .ok (.iload_n 1, 1) := by decide +kernel
theorem d_H_handed_4 : decode b_H_handed 4 = .ok (.invokevirtual 262, 3) := by decide +kernel
theorem d_H_handed_7 : decode b_H_handed 7 = .ok (.ifCond .eq 43, 3) := by decide +kernel
theorem d_H_handed_10 : decode b_H_handed 10 = .ok (.aload_n 0, 1) := by decide +kernel
theorem d_H_handed_11 : decode b_H_handed 11 = .ok (.iload_n 2, 1) := by decide +kernel
theorem d_H_handed_12 : decode b_H_handed 12 = .ok (.invokevirtual 188, 3) := by decide +kernel
theorem d_H_handed_15 : decode b_H_handed 15 = .ok (.ifCond .eq 35, 3) := by decide +kernel
theorem d_H_handed_18 : decode b_H_handed 18 = .ok (.aload_n 0, 1) := by decide +kernel
theorem d_H_handed_19 : decode b_H_handed 19 = .ok (.getfield 56, 3) := by decide +kernel
theorem d_H_handed_22 : decode b_H_handed 22 = .ok (.iload_n 1, 1) := by decide +kernel
theorem d_H_handed_23 : decode b_H_handed 23 = .ok (.aaload, 1) := by decide +kernel
theorem d_H_handed_24 : decode b_H_handed 24 = .ok (.aload_n 0, 1) := by decide +kernel
theorem d_H_handed_25 : decode b_H_handed 25 = .ok (.getfield 21, 3) := by decide +kernel
theorem d_H_handed_28 : decode b_H_handed 28 = .ok (.invokevirtual 298, 3) := by decide +kernel
theorem d_H_handed_31 : decode b_H_handed 31 = .ok (.istore_n 3, 1) := by decide +kernel
theorem d_H_handed_32 : decode b_H_handed 32 = .ok (.iload_n 3, 1) := by decide +kernel
theorem d_H_handed_33 : decode b_H_handed 33 = .ok (.ifCond .ne 17, 3) := by decide +kernel
theorem d_H_handed_36 : decode b_H_handed 36 = .ok (.aload_n 0, 1) := by decide +kernel
theorem d_H_handed_37 : decode b_H_handed 37 = .ok (.getfield 49, 3) := by decide +kernel
theorem d_H_handed_40 : decode b_H_handed 40 = .ok (.iload_n 2, 1) := by decide +kernel
theorem d_H_handed_41 : decode b_H_handed 41 = .ok (.aaload, 1) := by decide +kernel
theorem d_H_handed_42 : decode b_H_handed 42 = .ok (.aload_n 0, 1) := by decide +kernel
theorem d_H_handed_43 : decode b_H_handed 43 = .ok (.getfield 21, 3) := by decide +kernel
theorem d_H_handed_46 : decode b_H_handed 46 = .ok (.invokevirtual 301, 3) := by decide +kernel
theorem d_H_handed_49 : decode b_H_handed 49 = .ok (.istore_n 3, 1) := by decide +kernel
theorem d_H_handed_50 : decode b_H_handed 50 = .ok (.aload_n 0, 1) := by decide +kernel
theorem d_H_handed_51 : decode b_H_handed 51 = .ok (.getfield 21, 3) := by decide +kernel
theorem d_H_handed_54 : decode b_H_handed 54 = .ok (.invokevirtual 88, 3) := by decide +kernel
theorem d_H_handed_57 : decode b_H_handed 57 = .ok (.iload_n 3, 1) := by decide +kernel
theorem d_H_handed_58 : decode b_H_handed 58 = .ok (.ireturn, 1) := by decide +kernel
abbrev b_H_isPrincipal : ByteArray := prog_1_method_30_code
def y_H_isPrincipal : MethodName := ⟨R_H, "isPrincipal", "(I)Z"⟩
abbrev k_H_isPrincipal : Cond := .code y_H_isPrincipal b_H_isPrincipal 2 (some .boolean)
theorem ki_H_isPrincipal : k_H_isPrincipal ∈ lw_tg := in_t 817 (by decide +kernel)
theorem ks_H_isPrincipal : Cond.instanceMethod y_H_isPrincipal ∈ lw_tg := in_t 816 (by decide +kernel)
theorem kx_H_isPrincipal : Cond.selects R_H y_H_isPrincipal y_H_isPrincipal ∈ lw_tg := List.mem_filter.mpr ⟨List.mem_append_left _ (List.mem_of_getElem? (i := 9) (by decide +kernel)), rfl⟩
theorem kl_H_H_isPrincipal : Cond.methodLink R_H 132 y_H_isPrincipal ∈ lw_tg := in_t 814 (by decide +kernel)
theorem hd_H_isPrincipal : y_H_isPrincipal.cls = R_H ∧ y_H_isPrincipal.cls ≠ "java/lang/invoke/MethodHandle" ∧ y_H_isPrincipal.cls ≠ "java/lang/invoke/VarHandle" ∧ (parseMethodDescriptor y_H_isPrincipal.desc).map (fun d => d.parameters.length) = some 1 := by decide +kernel
theorem d_H_isPrincipal_0 : decode b_H_isPrincipal 0 = .ok (.iload_n 1, 1) := by decide +kernel
theorem d_H_isPrincipal_1 : decode b_H_isPrincipal 1 = .ok (.ifCond .lt 25, 3) := by decide +kernel
theorem d_H_isPrincipal_4 : decode b_H_isPrincipal 4 = .ok (.iload_n 1, 1) := by decide +kernel
theorem d_H_isPrincipal_5 : decode b_H_isPrincipal 5 = .ok (.bipush 12, 2) := by decide +kernel
theorem d_H_isPrincipal_7 : decode b_H_isPrincipal 7 = .ok (.if_icmp .ge 19, 3) := by decide +kernel
theorem d_H_isPrincipal_10 : decode b_H_isPrincipal 10 = .ok (.aload_n 0, 1) := by decide +kernel
theorem d_H_isPrincipal_11 : decode b_H_isPrincipal 11 = .ok (.getfield 42, 3) := by decide +kernel
theorem d_H_isPrincipal_14 : decode b_H_isPrincipal 14 = .ok (.iload_n 1, 1) := by decide +kernel
theorem d_H_isPrincipal_15 : decode b_H_isPrincipal 15 = .ok (.aaload, 1) := by decide +kernel
theorem d_H_isPrincipal_16 : decode b_H_isPrincipal 16 = .ok (.getfield 116, 3) := by decide +kernel
theorem d_H_isPrincipal_19 : decode b_H_isPrincipal 19 = .ok (.ifCond .eq 7, 3) := by decide +kernel
theorem d_H_isPrincipal_22 : decode b_H_isPrincipal 22 = .ok (.iconst 1, 1) := by decide +kernel
theorem d_H_isPrincipal_23 : decode b_H_isPrincipal 23 = .ok (.goto 4, 3) := by decide +kernel
theorem d_H_isPrincipal_26 : decode b_H_isPrincipal 26 = .ok (.iconst 0, 1) := by decide +kernel
theorem d_H_isPrincipal_27 : decode b_H_isPrincipal 27 = .ok (.ireturn, 1) := by decide +kernel
abbrev b_H_isAgent : ByteArray := prog_1_method_31_code
def y_H_isAgent : MethodName := ⟨R_H, "isAgent", "(I)Z"⟩
abbrev k_H_isAgent : Cond := .code y_H_isAgent b_H_isAgent 2 (some .boolean)
theorem ki_H_isAgent : k_H_isAgent ∈ lw_tg := in_t 1386 (by decide +kernel)
theorem ks_H_isAgent : Cond.instanceMethod y_H_isAgent ∈ lw_tg := in_t 1385 (by decide +kernel)
theorem kx_H_isAgent : Cond.selects R_H y_H_isAgent y_H_isAgent ∈ lw_tg := List.mem_filter.mpr ⟨List.mem_append_left _ (List.mem_of_getElem? (i := 51) (by decide +kernel)), rfl⟩
theorem kl_H_H_isAgent : Cond.methodLink R_H 188 y_H_isAgent ∈ lw_tg := in_t 1383 (by decide +kernel)
theorem hd_H_isAgent : y_H_isAgent.cls = R_H ∧ y_H_isAgent.cls ≠ "java/lang/invoke/MethodHandle" ∧ y_H_isAgent.cls ≠ "java/lang/invoke/VarHandle" ∧ (parseMethodDescriptor y_H_isAgent.desc).map (fun d => d.parameters.length) = some 1 := by decide +kernel
theorem d_H_isAgent_0 : decode b_H_isAgent 0 = .ok (.iload_n 1, 1) := by decide +kernel
theorem d_H_isAgent_1 : decode b_H_isAgent 1 = .ok (.ifCond .lt 24, 3) := by decide +kernel
theorem d_H_isAgent_4 : decode b_H_isAgent 4 = .ok (.iload_n 1, 1) := by decide +kernel
theorem d_H_isAgent_5 : decode b_H_isAgent 5 = .ok (.iconst 4, 1) := by decide +kernel
theorem d_H_isAgent_6 : decode b_H_isAgent 6 = .ok (.if_icmp .ge 19, 3) := by decide +kernel
theorem d_H_isAgent_9 : decode b_H_isAgent 9 = .ok (.aload_n 0, 1) := by decide +kernel
theorem d_H_isAgent_10 : decode b_H_isAgent 10 = .ok (.getfield 49, 3) := by decide +kernel
theorem d_H_isAgent_13 : decode b_H_isAgent 13 = .ok (.iload_n 1, 1) := by decide +kernel
theorem d_H_isAgent_14 : decode b_H_isAgent 14 = .ok (.aaload, 1) := by decide +kernel
theorem d_H_isAgent_15 : decode b_H_isAgent 15 = .ok (.getfield 304, 3) := by decide +kernel
theorem d_H_isAgent_18 : decode b_H_isAgent 18 = .ok (.ifCond .eq 7, 3) := by decide +kernel
theorem d_H_isAgent_21 : decode b_H_isAgent 21 = .ok (.iconst 1, 1) := by decide +kernel
theorem d_H_isAgent_22 : decode b_H_isAgent 22 = .ok (.goto 4, 3) := by decide +kernel
theorem d_H_isAgent_25 : decode b_H_isAgent 25 = .ok (.iconst 0, 1) := by decide +kernel
theorem d_H_isAgent_26 : decode b_H_isAgent 26 = .ok (.ireturn, 1) := by decide +kernel
abbrev b_H_hasTicket : ByteArray := prog_1_method_32_code
def y_H_hasTicket : MethodName := ⟨R_H, "hasTicket", "(II)Z"⟩
abbrev k_H_hasTicket : Cond := .code y_H_hasTicket b_H_hasTicket 3 (some .boolean)
theorem ki_H_hasTicket : k_H_hasTicket ∈ lw_tg := in_t 1537 (by decide +kernel)
theorem ks_H_hasTicket : Cond.instanceMethod y_H_hasTicket ∈ lw_tg := in_t 1536 (by decide +kernel)
theorem kx_H_hasTicket : Cond.selects R_H y_H_hasTicket y_H_hasTicket ∈ lw_tg := List.mem_filter.mpr ⟨List.mem_append_left _ (List.mem_of_getElem? (i := 61) (by decide +kernel)), rfl⟩
theorem kl_H_H_hasTicket : Cond.methodLink R_H 222 y_H_hasTicket ∈ lw_tg := in_t 1534 (by decide +kernel)
theorem hd_H_hasTicket : y_H_hasTicket.cls = R_H ∧ y_H_hasTicket.cls ≠ "java/lang/invoke/MethodHandle" ∧ y_H_hasTicket.cls ≠ "java/lang/invoke/VarHandle" ∧ (parseMethodDescriptor y_H_hasTicket.desc).map (fun d => d.parameters.length) = some 2 := by decide +kernel
theorem d_H_hasTicket_0 : decode b_H_hasTicket 0 = .ok (.aload_n 0, 1) := by decide +kernel
theorem d_H_hasTicket_1 : decode b_H_hasTicket 1 = .ok (.iload_n 1, 1) := by decide +kernel
theorem d_H_hasTicket_2 : decode b_H_hasTicket 2 = .ok (.invokevirtual 188, 3) := by decide +kernel
theorem d_H_hasTicket_5 : decode b_H_hasTicket 5 = .ok (.ifCond .eq 20, 3) := by decide +kernel
theorem d_H_hasTicket_8 : decode b_H_hasTicket 8 = .ok (.aload_n 0, 1) := by decide +kernel
theorem d_H_hasTicket_9 : decode b_H_hasTicket 9 = .ok (.getfield 49, 3) := by decide +kernel
theorem d_H_hasTicket_12 : decode b_H_hasTicket 12 = .ok (.iload_n 1, 1) := by decide +kernel
theorem d_H_hasTicket_13 : decode b_H_hasTicket 13 = .ok (.aaload, 1) := by decide +kernel
theorem d_H_hasTicket_14 : decode b_H_hasTicket 14 = .ok (.iload_n 2, 1) := by decide +kernel
theorem d_H_hasTicket_15 : decode b_H_hasTicket 15 = .ok (.invokevirtual 199, 3) := by decide +kernel
theorem d_H_hasTicket_18 : decode b_H_hasTicket 18 = .ok (.ifCond .eq 7, 3) := by decide +kernel
theorem d_H_hasTicket_21 : decode b_H_hasTicket 21 = .ok (.iconst 1, 1) := by decide +kernel
theorem d_H_hasTicket_22 : decode b_H_hasTicket 22 = .ok (.goto 4, 3) := by decide +kernel
theorem d_H_hasTicket_25 : decode b_H_hasTicket 25 = .ok (.iconst 0, 1) := by decide +kernel
theorem d_H_hasTicket_26 : decode b_H_hasTicket 26 = .ok (.ireturn, 1) := by decide +kernel
abbrev b_H_isSession : ByteArray := prog_1_method_33_code
def y_H_isSession : MethodName := ⟨R_H, "isSession", "(I)Z"⟩
abbrev k_H_isSession : Cond := .code y_H_isSession b_H_isSession 2 (some .boolean)
theorem ki_H_isSession : k_H_isSession ∈ lw_tg := in_t 1619 (by decide +kernel)
theorem ks_H_isSession : Cond.instanceMethod y_H_isSession ∈ lw_tg := in_t 1618 (by decide +kernel)
theorem kx_H_isSession : Cond.selects R_H y_H_isSession y_H_isSession ∈ lw_tg := List.mem_filter.mpr ⟨List.mem_append_left _ (List.mem_of_getElem? (i := 64) (by decide +kernel)), rfl⟩
theorem kl_H_H_isSession : Cond.methodLink R_H 262 y_H_isSession ∈ lw_tg := in_t 1616 (by decide +kernel)
theorem hd_H_isSession : y_H_isSession.cls = R_H ∧ y_H_isSession.cls ≠ "java/lang/invoke/MethodHandle" ∧ y_H_isSession.cls ≠ "java/lang/invoke/VarHandle" ∧ (parseMethodDescriptor y_H_isSession.desc).map (fun d => d.parameters.length) = some 1 := by decide +kernel
theorem d_H_isSession_0 : decode b_H_isSession 0 = .ok (.iload_n 1, 1) := by decide +kernel
theorem d_H_isSession_1 : decode b_H_isSession 1 = .ok (.ifCond .lt 25, 3) := by decide +kernel
theorem d_H_isSession_4 : decode b_H_isSession 4 = .ok (.iload_n 1, 1) := by decide +kernel
theorem d_H_isSession_5 : decode b_H_isSession 5 = .ok (.bipush 8, 2) := by decide +kernel
theorem d_H_isSession_7 : decode b_H_isSession 7 = .ok (.if_icmp .ge 19, 3) := by decide +kernel
theorem d_H_isSession_10 : decode b_H_isSession 10 = .ok (.aload_n 0, 1) := by decide +kernel
theorem d_H_isSession_11 : decode b_H_isSession 11 = .ok (.getfield 56, 3) := by decide +kernel
theorem d_H_isSession_14 : decode b_H_isSession 14 = .ok (.iload_n 1, 1) := by decide +kernel
theorem d_H_isSession_15 : decode b_H_isSession 15 = .ok (.aaload, 1) := by decide +kernel
theorem d_H_isSession_16 : decode b_H_isSession 16 = .ok (.getfield 239, 3) := by decide +kernel
theorem d_H_isSession_19 : decode b_H_isSession 19 = .ok (.ifCond .eq 7, 3) := by decide +kernel
theorem d_H_isSession_22 : decode b_H_isSession 22 = .ok (.iconst 1, 1) := by decide +kernel
theorem d_H_isSession_23 : decode b_H_isSession 23 = .ok (.goto 4, 3) := by decide +kernel
theorem d_H_isSession_26 : decode b_H_isSession 26 = .ok (.iconst 0, 1) := by decide +kernel
theorem d_H_isSession_27 : decode b_H_isSession 27 = .ok (.ireturn, 1) := by decide +kernel
abbrev b_H_isSide : ByteArray := prog_1_method_34_code
def y_H_isSide : MethodName := ⟨R_H, "isSide", "(II)Z"⟩
abbrev k_H_isSide : Cond := .code y_H_isSide b_H_isSide 3 (some .boolean)
theorem ki_H_isSide : k_H_isSide ∈ lw_tg := in_t 1635 (by decide +kernel)
theorem ks_H_isSide : Cond.instanceMethod y_H_isSide ∈ lw_tg := in_t 1634 (by decide +kernel)
theorem kx_H_isSide : Cond.selects R_H y_H_isSide y_H_isSide ∈ lw_tg := List.mem_filter.mpr ⟨List.mem_append_left _ (List.mem_of_getElem? (i := 66) (by decide +kernel)), rfl⟩
theorem kl_H_H_isSide : Cond.methodLink R_H 269 y_H_isSide ∈ lw_tg := in_t 1632 (by decide +kernel)
theorem hd_H_isSide : y_H_isSide.cls = R_H ∧ y_H_isSide.cls ≠ "java/lang/invoke/MethodHandle" ∧ y_H_isSide.cls ≠ "java/lang/invoke/VarHandle" ∧ (parseMethodDescriptor y_H_isSide.desc).map (fun d => d.parameters.length) = some 2 := by decide +kernel
theorem d_H_isSide_0 : decode b_H_isSide 0 = .ok (.aload_n 0, 1) := by decide +kernel
theorem d_H_isSide_1 : decode b_H_isSide 1 = .ok (.iload_n 1, 1) := by decide +kernel
theorem d_H_isSide_2 : decode b_H_isSide 2 = .ok (.invokevirtual 262, 3) := by decide +kernel
theorem d_H_isSide_5 : decode b_H_isSide 5 = .ok (.ifCond .eq 32, 3) := by decide +kernel
theorem d_H_isSide_8 : decode b_H_isSide 8 = .ok (.iload_n 2, 1) := by decide +kernel
theorem d_H_isSide_9 : decode b_H_isSide 9 = .ok (.iconst 1, 1) := by decide +kernel
theorem d_H_isSide_10 : decode b_H_isSide 10 = .ok (.if_icmp .eq 23, 3) := by decide +kernel
theorem d_H_isSide_13 : decode b_H_isSide 13 = .ok (.iload_n 2, 1) := by decide +kernel
theorem d_H_isSide_14 : decode b_H_isSide 14 = .ok (.ifCond .ne 23, 3) := by decide +kernel
theorem d_H_isSide_17 : decode b_H_isSide 17 = .ok (.aload_n 0, 1) := by decide +kernel
theorem d_H_isSide_18 : decode b_H_isSide 18 = .ok (.aload_n 0, 1) := by decide +kernel
theorem d_H_isSide_19 : decode b_H_isSide 19 = .ok (.getfield 56, 3) := by decide +kernel
theorem d_H_isSide_22 : decode b_H_isSide 22 = .ok (.iload_n 1, 1) := by decide +kernel
theorem d_H_isSide_23 : decode b_H_isSide 23 = .ok (.aaload, 1) := by decide +kernel
theorem d_H_isSide_24 : decode b_H_isSide 24 = .ok (.getfield 289, 3) := by decide +kernel
theorem d_H_isSide_27 : decode b_H_isSide 27 = .ok (.invokevirtual 188, 3) := by decide +kernel
theorem d_H_isSide_30 : decode b_H_isSide 30 = .ok (.ifCond .eq 7, 3) := by decide +kernel
theorem d_H_isSide_33 : decode b_H_isSide 33 = .ok (.iconst 1, 1) := by decide +kernel
theorem d_H_isSide_34 : decode b_H_isSide 34 = .ok (.goto 4, 3) := by decide +kernel
theorem d_H_isSide_37 : decode b_H_isSide 37 = .ok (.iconst 0, 1) := by decide +kernel
theorem d_H_isSide_38 : decode b_H_isSide 38 = .ok (.ireturn, 1) := by decide +kernel
abbrev b_H_timeOf : ByteArray := prog_1_method_35_code
def y_H_timeOf : MethodName := ⟨R_H, "timeOf", "(II)I"⟩
abbrev k_H_timeOf : Cond := .code y_H_timeOf b_H_timeOf 4 (some .int)
theorem ki_H_timeOf : k_H_timeOf ∈ lw_tg := in_t 1639 (by decide +kernel)
theorem ks_H_timeOf : Cond.instanceMethod y_H_timeOf ∈ lw_tg := in_t 1638 (by decide +kernel)
theorem kx_H_timeOf : Cond.selects R_H y_H_timeOf y_H_timeOf ∈ lw_tg := List.mem_filter.mpr ⟨List.mem_append_left _ (List.mem_of_getElem? (i := 67) (by decide +kernel)), rfl⟩
theorem kl_H_H_timeOf : Cond.methodLink R_H 272 y_H_timeOf ∈ lw_tg := in_t 1636 (by decide +kernel)
theorem hd_H_timeOf : y_H_timeOf.cls = R_H ∧ y_H_timeOf.cls ≠ "java/lang/invoke/MethodHandle" ∧ y_H_timeOf.cls ≠ "java/lang/invoke/VarHandle" ∧ (parseMethodDescriptor y_H_timeOf.desc).map (fun d => d.parameters.length) = some 2 := by decide +kernel
theorem d_H_timeOf_0 : decode b_H_timeOf 0 = .ok (.aload_n 0, 1) := by decide +kernel
theorem d_H_timeOf_1 : decode b_H_timeOf 1 = .ok (.getfield 56, 3) := by decide +kernel
theorem d_H_timeOf_4 : decode b_H_timeOf 4 = .ok (.iload_n 1, 1) := by decide +kernel
theorem d_H_timeOf_5 : decode b_H_timeOf 5 = .ok (.aaload, 1) := by decide +kernel
theorem d_H_timeOf_6 : decode b_H_timeOf 6 = .ok (.getfield 289, 3) := by decide +kernel
theorem d_H_timeOf_9 : decode b_H_timeOf 9 = .ok (.istore_n 3, 1) := by decide +kernel
theorem d_H_timeOf_10 : decode b_H_timeOf 10 = .ok (.iload_n 2, 1) := by decide +kernel
theorem d_H_timeOf_11 : decode b_H_timeOf 11 = .ok (.ifCond .ne 23, 3) := by decide +kernel
theorem d_H_timeOf_14 : decode b_H_timeOf 14 = .ok (.aload_n 0, 1) := by decide +kernel
theorem d_H_timeOf_15 : decode b_H_timeOf 15 = .ok (.iload_n 3, 1) := by decide +kernel
theorem d_H_timeOf_16 : decode b_H_timeOf 16 = .ok (.invokevirtual 188, 3) := by decide +kernel
theorem d_H_timeOf_19 : decode b_H_timeOf 19 = .ok (.ifCond .eq 15, 3) := by decide +kernel
theorem d_H_timeOf_22 : decode b_H_timeOf 22 = .ok (.aload_n 0, 1) := by decide +kernel
theorem d_H_timeOf_23 : decode b_H_timeOf 23 = .ok (.getfield 49, 3) := by decide +kernel
theorem d_H_timeOf_26 : decode b_H_timeOf 26 = .ok (.iload_n 3, 1) := by decide +kernel
theorem d_H_timeOf_27 : decode b_H_timeOf 27 = .ok (.aaload, 1) := by decide +kernel
theorem d_H_timeOf_28 : decode b_H_timeOf 28 = .ok (.invokevirtual 292, 3) := by decide +kernel
theorem d_H_timeOf_31 : decode b_H_timeOf 31 = .ok (.goto 10, 3) := by decide +kernel
theorem d_H_timeOf_34 : decode b_H_timeOf 34 = .ok (.aload_n 0, 1) := by decide +kernel
theorem d_H_timeOf_35 : decode b_H_timeOf 35 = .ok (.getfield 12, 3) := by decide +kernel
theorem d_H_timeOf_38 : decode b_H_timeOf 38 = .ok (.getfield 110, 3) := by decide +kernel
theorem d_H_timeOf_41 : decode b_H_timeOf 41 = .ok (.ireturn, 1) := by decide +kernel
abbrev b_H_isRounds : ByteArray := prog_1_method_36_code
def y_H_isRounds : MethodName := ⟨R_H, "isRounds", "(I)Z"⟩
abbrev k_H_isRounds : Cond := .code y_H_isRounds b_H_isRounds 1 (some .boolean)
theorem ki_H_isRounds : k_H_isRounds ∈ lw_tg := in_t 802 (by decide +kernel)
theorem ks_H_isRounds : Cond.static y_H_isRounds ∈ lw_tg := in_t 801 (by decide +kernel)
theorem kl_H_H_isRounds : Cond.methodLink R_H 124 y_H_isRounds ∈ lw_tg := in_t 800 (by decide +kernel)
theorem hd_H_isRounds : y_H_isRounds.cls = R_H ∧ y_H_isRounds.cls ≠ "java/lang/invoke/MethodHandle" ∧ y_H_isRounds.cls ≠ "java/lang/invoke/VarHandle" ∧ (parseMethodDescriptor y_H_isRounds.desc).map (fun d => d.parameters.length) = some 1 := by decide +kernel
theorem d_H_isRounds_0 : decode b_H_isRounds 0 = .ok (.iload_n 0, 1) := by decide +kernel
theorem d_H_isRounds_1 : decode b_H_isRounds 1 = .ok (.iconst 1, 1) := by decide +kernel
theorem d_H_isRounds_2 : decode b_H_isRounds 2 = .ok (.if_icmp .lt 14, 3) := by decide +kernel
theorem d_H_isRounds_5 : decode b_H_isRounds 5 = .ok (.iload_n 0, 1) := by decide +kernel
theorem d_H_isRounds_6 : decode b_H_isRounds 6 = .ok (.sipush 200, 3) := by decide +kernel
theorem d_H_isRounds_9 : decode b_H_isRounds 9 = .ok (.if_icmp .gt 7, 3) := by decide +kernel
theorem d_H_isRounds_12 : decode b_H_isRounds 12 = .ok (.iconst 1, 1) := by decide +kernel
theorem d_H_isRounds_13 : decode b_H_isRounds 13 = .ok (.goto 4, 3) := by decide +kernel
theorem d_H_isRounds_16 : decode b_H_isRounds 16 = .ok (.iconst 0, 1) := by decide +kernel
theorem d_H_isRounds_17 : decode b_H_isRounds 17 = .ok (.ireturn, 1) := by decide +kernel
abbrev b_H_isSpan : ByteArray := prog_1_method_37_code
def y_H_isSpan : MethodName := ⟨R_H, "isSpan", "(I)Z"⟩
abbrev k_H_isSpan : Cond := .code y_H_isSpan b_H_isSpan 1 (some .boolean)
theorem ki_H_isSpan : k_H_isSpan ∈ lw_tg := in_t 1395 (by decide +kernel)
theorem ks_H_isSpan : Cond.static y_H_isSpan ∈ lw_tg := in_t 1394 (by decide +kernel)
theorem kl_H_H_isSpan : Cond.methodLink R_H 196 y_H_isSpan ∈ lw_tg := in_t 1393 (by decide +kernel)
theorem hd_H_isSpan : y_H_isSpan.cls = R_H ∧ y_H_isSpan.cls ≠ "java/lang/invoke/MethodHandle" ∧ y_H_isSpan.cls ≠ "java/lang/invoke/VarHandle" ∧ (parseMethodDescriptor y_H_isSpan.desc).map (fun d => d.parameters.length) = some 1 := by decide +kernel
theorem d_H_isSpan_0 : decode b_H_isSpan 0 = .ok (.iload_n 0, 1) := by decide +kernel
theorem d_H_isSpan_1 : decode b_H_isSpan 1 = .ok (.ifCond .lt 14, 3) := by decide +kernel
theorem d_H_isSpan_4 : decode b_H_isSpan 4 = .ok (.iload_n 0, 1) := by decide +kernel
theorem d_H_isSpan_5 : decode b_H_isSpan 5 = .ok (.ldc_w 305, 3) := by decide +kernel
theorem d_H_isSpan_8 : decode b_H_isSpan 8 = .ok (.if_icmp .gt 7, 3) := by decide +kernel
theorem d_H_isSpan_11 : decode b_H_isSpan 11 = .ok (.iconst 1, 1) := by decide +kernel
theorem d_H_isSpan_12 : decode b_H_isSpan 12 = .ok (.goto 4, 3) := by decide +kernel
theorem d_H_isSpan_15 : decode b_H_isSpan 15 = .ok (.iconst 0, 1) := by decide +kernel
theorem d_H_isSpan_16 : decode b_H_isSpan 16 = .ok (.ireturn, 1) := by decide +kernel
abbrev b_H_isPassword : ByteArray := prog_1_method_38_code
def y_H_isPassword : MethodName := ⟨R_H, "isPassword", "(I)Z"⟩
abbrev k_H_isPassword : Cond := .code y_H_isPassword b_H_isPassword 2 (some .boolean)
theorem ki_H_isPassword : k_H_isPassword ∈ lw_tg := in_t 794 (by decide +kernel)
theorem ks_H_isPassword : Cond.instanceMethod y_H_isPassword ∈ lw_tg := in_t 793 (by decide +kernel)
theorem kx_H_isPassword : Cond.selects R_H y_H_isPassword y_H_isPassword ∈ lw_tg := List.mem_filter.mpr ⟨List.mem_append_left _ (List.mem_of_getElem? (i := 8) (by decide +kernel)), rfl⟩
theorem kl_H_H_isPassword : Cond.methodLink R_H 135 y_H_isPassword ∈ lw_tg := in_t 791 (by decide +kernel)
theorem hd_H_isPassword : y_H_isPassword.cls = R_H ∧ y_H_isPassword.cls ≠ "java/lang/invoke/MethodHandle" ∧ y_H_isPassword.cls ≠ "java/lang/invoke/VarHandle" ∧ (parseMethodDescriptor y_H_isPassword.desc).map (fun d => d.parameters.length) = some 1 := by decide +kernel
theorem d_H_isPassword_0 : decode b_H_isPassword 0 = .ok (.aload_n 0, 1) := by decide +kernel
theorem d_H_isPassword_1 : decode b_H_isPassword 1 = .ok (.getfield 21, 3) := by decide +kernel
theorem d_H_isPassword_4 : decode b_H_isPassword 4 = .ok (.getfield 81, 3) := by decide +kernel
theorem d_H_isPassword_7 : decode b_H_isPassword 7 = .ok (.iload_n 1, 1) := by decide +kernel
theorem d_H_isPassword_8 : decode b_H_isPassword 8 = .ok (.isub, 1) := by decide +kernel
theorem d_H_isPassword_9 : decode b_H_isPassword 9 = .ok (.bipush 20, 2) := by decide +kernel
theorem d_H_isPassword_11 : decode b_H_isPassword 11 = .ok (.if_icmp .le 5, 3) := by decide +kernel
theorem d_H_isPassword_14 : decode b_H_isPassword 14 = .ok (.iconst 0, 1) := by decide +kernel
theorem d_H_isPassword_15 : decode b_H_isPassword 15 = .ok (.ireturn, 1) := by decide +kernel
theorem d_H_isPassword_16 : decode b_H_isPassword 16 = .ok (.aload_n 0, 1) := by decide +kernel
theorem d_H_isPassword_17 : decode b_H_isPassword 17 = .ok (.getfield 21, 3) := by decide +kernel
theorem d_H_isPassword_20 : decode b_H_isPassword 20 = .ok (.iload_n 1, 1) := by decide +kernel
theorem d_H_isPassword_21 : decode b_H_isPassword 21 = .ok (.aload_n 0, 1) := by decide +kernel
theorem d_H_isPassword_22 : decode b_H_isPassword 22 = .ok (.getfield 21, 3) := by decide +kernel
theorem d_H_isPassword_25 : decode b_H_isPassword 25 = .ok (.getfield 81, 3) := by decide +kernel
theorem d_H_isPassword_28 : decode b_H_isPassword 28 = .ok (.invokevirtual 306, 3) := by decide +kernel
theorem d_H_isPassword_31 : decode b_H_isPassword 31 = .ok (.ireturn, 1) := by decide +kernel
abbrev b_H_passwordPlace : ByteArray := prog_1_method_39_code
def y_H_passwordPlace : MethodName := ⟨R_H, "passwordPlace", "()I"⟩
abbrev k_H_passwordPlace : Cond := .code y_H_passwordPlace b_H_passwordPlace 3 (some .int)
theorem ki_H_passwordPlace : k_H_passwordPlace ∈ lw_tg := in_t 782 (by decide +kernel)
theorem ks_H_passwordPlace : Cond.instanceMethod y_H_passwordPlace ∈ lw_tg := in_t 781 (by decide +kernel)
theorem kx_H_passwordPlace : Cond.selects R_H y_H_passwordPlace y_H_passwordPlace ∈ lw_tg := List.mem_filter.mpr ⟨List.mem_append_left _ (List.mem_of_getElem? (i := 6) (by decide +kernel)), rfl⟩
theorem kl_H_H_passwordPlace : Cond.methodLink R_H 120 y_H_passwordPlace ∈ lw_tg := in_t 779 (by decide +kernel)
theorem hd_H_passwordPlace : y_H_passwordPlace.cls = R_H ∧ y_H_passwordPlace.cls ≠ "java/lang/invoke/MethodHandle" ∧ y_H_passwordPlace.cls ≠ "java/lang/invoke/VarHandle" ∧ (parseMethodDescriptor y_H_passwordPlace.desc).map (fun d => d.parameters.length) = some 0 := by decide +kernel
theorem d_H_passwordPlace_0 : decode b_H_passwordPlace 0 = .ok (.iconst 0, 1) := by decide +kernel
theorem d_H_passwordPlace_1 : decode b_H_passwordPlace 1 = .ok (.istore_n 1, 1) := by decide +kernel
theorem d_H_passwordPlace_2 : decode b_H_passwordPlace 2 = .ok (.iload_n 1, 1) := by decide +kernel
theorem d_H_passwordPlace_3 : decode b_H_passwordPlace 3 = .ok (.aload_n 0, 1) := by decide +kernel
theorem d_H_passwordPlace_4 : decode b_H_passwordPlace 4 = .ok (.getfield 21, 3) := by decide +kernel
theorem d_H_passwordPlace_7 : decode b_H_passwordPlace 7 = .ok (.getfield 81, 3) := by decide +kernel
theorem d_H_passwordPlace_10 : decode b_H_passwordPlace 10 = .ok (.if_icmp .ge 22, 3) := by decide +kernel
theorem d_H_passwordPlace_13 : decode b_H_passwordPlace 13 = .ok (.aload_n 0, 1) := by decide +kernel
theorem d_H_passwordPlace_14 : decode b_H_passwordPlace 14 = .ok (.getfield 21, 3) := by decide +kernel
theorem d_H_passwordPlace_17 : decode b_H_passwordPlace 17 = .ok (.iload_n 1, 1) := by decide +kernel
theorem d_H_passwordPlace_18 : decode b_H_passwordPlace 18 = .ok (.invokevirtual 105, 3) := by decide +kernel
theorem d_H_passwordPlace_21 : decode b_H_passwordPlace 21 = .ok (.bipush 58, 2) := by decide +kernel
theorem d_H_passwordPlace_23 : decode b_H_passwordPlace 23 = .ok (.if_icmp .eq 9, 3) := by decide +kernel
theorem d_H_passwordPlace_26 : decode b_H_passwordPlace 26 = .ok (.iinc 1 1, 3) := by decide +kernel
theorem d_H_passwordPlace_29 : decode b_H_passwordPlace 29 = .ok (.goto (-27), 3) := by decide +kernel
theorem d_H_passwordPlace_32 : decode b_H_passwordPlace 32 = .ok (.iload_n 1, 1) := by decide +kernel
theorem d_H_passwordPlace_33 : decode b_H_passwordPlace 33 = .ok (.aload_n 0, 1) := by decide +kernel
theorem d_H_passwordPlace_34 : decode b_H_passwordPlace 34 = .ok (.getfield 21, 3) := by decide +kernel
theorem d_H_passwordPlace_37 : decode b_H_passwordPlace 37 = .ok (.getfield 81, 3) := by decide +kernel
theorem d_H_passwordPlace_40 : decode b_H_passwordPlace 40 = .ok (.if_icmp .ge 25, 3) := by decide +kernel
theorem d_H_passwordPlace_43 : decode b_H_passwordPlace 43 = .ok (.aload_n 0, 1) := by decide +kernel
theorem d_H_passwordPlace_44 : decode b_H_passwordPlace 44 = .ok (.iload_n 1, 1) := by decide +kernel
theorem d_H_passwordPlace_45 : decode b_H_passwordPlace 45 = .ok (.invokevirtual 309, 3) := by decide +kernel
theorem d_H_passwordPlace_48 : decode b_H_passwordPlace 48 = .ok (.ifCond .eq 17, 3) := by decide +kernel
theorem d_H_passwordPlace_51 : decode b_H_passwordPlace 51 = .ok (.aload_n 0, 1) := by decide +kernel
theorem d_H_passwordPlace_52 : decode b_H_passwordPlace 52 = .ok (.iload_n 1, 1) := by decide +kernel
theorem d_H_passwordPlace_53 : decode b_H_passwordPlace 53 = .ok (.iconst 1, 1) := by decide +kernel
theorem d_H_passwordPlace_54 : decode b_H_passwordPlace 54 = .ok (.iadd, 1) := by decide +kernel
theorem d_H_passwordPlace_55 : decode b_H_passwordPlace 55 = .ok (.invokevirtual 135, 3) := by decide +kernel
theorem d_H_passwordPlace_58 : decode b_H_passwordPlace 58 = .ok (.ifCond .eq 7, 3) := by decide +kernel
theorem d_H_passwordPlace_61 : decode b_H_passwordPlace 61 = .ok (.iconst 1, 1) := by decide +kernel
theorem d_H_passwordPlace_62 : decode b_H_passwordPlace 62 = .ok (.goto 4, 3) := by decide +kernel
theorem d_H_passwordPlace_65 : decode b_H_passwordPlace 65 = .ok (.iconst 0, 1) := by decide +kernel
theorem d_H_passwordPlace_66 : decode b_H_passwordPlace 66 = .ok (.istore_n 2, 1) := by decide +kernel
theorem d_H_passwordPlace_67 : decode b_H_passwordPlace 67 = .ok (.iload_n 2, 1) := by decide +kernel
theorem d_H_passwordPlace_68 : decode b_H_passwordPlace 68 = .ok (.ifCond .eq 9, 3) := by decide +kernel
theorem d_H_passwordPlace_71 : decode b_H_passwordPlace 71 = .ok (.iload_n 1, 1) := by decide +kernel
theorem d_H_passwordPlace_72 : decode b_H_passwordPlace 72 = .ok (.iconst 1, 1) := by decide +kernel
theorem d_H_passwordPlace_73 : decode b_H_passwordPlace 73 = .ok (.iadd, 1) := by decide +kernel
theorem d_H_passwordPlace_74 : decode b_H_passwordPlace 74 = .ok (.goto 4, 3) := by decide +kernel
theorem d_H_passwordPlace_77 : decode b_H_passwordPlace 77 = .ok (.iconst (-1), 1) := by decide +kernel
theorem d_H_passwordPlace_78 : decode b_H_passwordPlace 78 = .ok (.ireturn, 1) := by decide +kernel
abbrev b_H_readService : ByteArray := prog_1_method_40_code
def y_H_readService : MethodName := ⟨R_H, "readService", "()Z"⟩
abbrev k_H_readService : Cond := .code y_H_readService b_H_readService 1 (some .boolean)
theorem ki_H_readService : k_H_readService ∈ lw_tg := in_t 1404 (by decide +kernel)
theorem ks_H_readService : Cond.instanceMethod y_H_readService ∈ lw_tg := in_t 1403 (by decide +kernel)
theorem kx_H_readService : Cond.selects R_H y_H_readService y_H_readService ∈ lw_tg := List.mem_filter.mpr ⟨List.mem_append_left _ (List.mem_of_getElem? (i := 52) (by decide +kernel)), rfl⟩
theorem kl_H_H_readService : Cond.methodLink R_H 202 y_H_readService ∈ lw_tg := in_t 1401 (by decide +kernel)
theorem hd_H_readService : y_H_readService.cls = R_H ∧ y_H_readService.cls ≠ "java/lang/invoke/MethodHandle" ∧ y_H_readService.cls ≠ "java/lang/invoke/VarHandle" ∧ (parseMethodDescriptor y_H_readService.desc).map (fun d => d.parameters.length) = some 0 := by decide +kernel
theorem d_H_readService_0 : decode b_H_readService 0 = .ok (.aload_n 0, 1) := by decide +kernel
theorem d_H_readService_1 : decode b_H_readService 1 = .ok (.getfield 21, 3) := by decide +kernel
theorem d_H_readService_4 : decode b_H_readService 4 = .ok (.iconst 0, 1) := by decide +kernel
theorem d_H_readService_5 : decode b_H_readService 5 = .ok (.aload_n 0, 1) := by decide +kernel
theorem d_H_readService_6 : decode b_H_readService 6 = .ok (.getfield 21, 3) := by decide +kernel
theorem d_H_readService_9 : decode b_H_readService 9 = .ok (.getfield 81, 3) := by decide +kernel
theorem d_H_readService_12 : decode b_H_readService 12 = .ok (.ldc_w 312, 3) := by decide +kernel
theorem d_H_readService_15 : decode b_H_readService 15 = .ok (.invokevirtual 314, 3) := by decide +kernel
theorem d_H_readService_18 : decode b_H_readService 18 = .ok (.ifCond .eq 12, 3) := by decide +kernel
theorem d_H_readService_21 : decode b_H_readService 21 = .ok (.aload_n 0, 1) := by decide +kernel
theorem d_H_readService_22 : decode b_H_readService 22 = .ok (.getfield 28, 3) := by decide +kernel
theorem d_H_readService_25 : decode b_H_readService 25 = .ok (.invokestatic 61, 3) := by decide +kernel
theorem d_H_readService_28 : decode b_H_readService 28 = .ok (.iconst 1, 1) := by decide +kernel
theorem d_H_readService_29 : decode b_H_readService 29 = .ok (.ireturn, 1) := by decide +kernel
theorem d_H_readService_30 : decode b_H_readService 30 = .ok (.aload_n 0, 1) := by decide +kernel
theorem d_H_readService_31 : decode b_H_readService 31 = .ok (.aload_n 0, 1) := by decide +kernel
theorem d_H_readService_32 : decode b_H_readService 32 = .ok (.getfield 21, 3) := by decide +kernel
theorem d_H_readService_35 : decode b_H_readService 35 = .ok (.getfield 81, 3) := by decide +kernel
theorem d_H_readService_38 : decode b_H_readService 38 = .ok (.invokevirtual 309, 3) := by decide +kernel
theorem d_H_readService_41 : decode b_H_readService 41 = .ok (.ireturn, 1) := by decide +kernel
abbrev b_H_readName : ByteArray := prog_1_method_41_code
def y_H_readName : MethodName := ⟨R_H, "readName", "(I)Z"⟩
abbrev k_H_readName : Cond := .code y_H_readName b_H_readName 8 (some .boolean)
theorem ki_H_readName : k_H_readName ∈ lw_tg := in_t 786 (by decide +kernel)
theorem ks_H_readName : Cond.instanceMethod y_H_readName ∈ lw_tg := in_t 785 (by decide +kernel)
theorem kx_H_readName : Cond.selects R_H y_H_readName y_H_readName ∈ lw_tg := List.mem_filter.mpr ⟨List.mem_append_left _ (List.mem_of_getElem? (i := 7) (by decide +kernel)), rfl⟩
theorem kl_H_H_readName : Cond.methodLink R_H 309 y_H_readName ∈ lw_tg := in_t 783 (by decide +kernel)
theorem hd_H_readName : y_H_readName.cls = R_H ∧ y_H_readName.cls ≠ "java/lang/invoke/MethodHandle" ∧ y_H_readName.cls ≠ "java/lang/invoke/VarHandle" ∧ (parseMethodDescriptor y_H_readName.desc).map (fun d => d.parameters.length) = some 1 := by decide +kernel
theorem d_H_readName_0 : decode b_H_readName 0 = .ok (.aload_n 0, 1) := by decide +kernel
theorem d_H_readName_1 : decode b_H_readName 1 = .ok (.getfield 28, 3) := by decide +kernel
theorem d_H_readName_4 : decode b_H_readName 4 = .ok (.invokevirtual 88, 3) := by decide +kernel
theorem d_H_readName_7 : decode b_H_readName 7 = .ok (.iconst 0, 1) := by decide +kernel
theorem d_H_readName_8 : decode b_H_readName 8 = .ok (.istore_n 2, 1) := by decide +kernel
theorem d_H_readName_9 : decode b_H_readName 9 = .ok (.iconst 0, 1) := by decide +kernel
theorem d_H_readName_10 : decode b_H_readName 10 = .ok (.istore_n 3, 1) := by decide +kernel
theorem d_H_readName_11 : decode b_H_readName 11 = .ok (.iconst 0, 1) := by decide +kernel
theorem d_H_readName_12 : decode b_H_readName 12 = .ok (.istore 4, 2) := by decide +kernel
theorem d_H_readName_14 : decode b_H_readName 14 = .ok (.iload 4, 2) := by decide +kernel
theorem d_H_readName_16 : decode b_H_readName 16 = .ok (.iload_n 1, 1) := by decide +kernel
theorem d_H_readName_17 : decode b_H_readName 17 = .ok (.if_icmp .gt 153, 3) := by decide +kernel
theorem d_H_readName_20 : decode b_H_readName 20 = .ok (.iload 4, 2) := by decide +kernel
theorem d_H_readName_22 : decode b_H_readName 22 = .ok (.iload_n 1, 1) := by decide +kernel
theorem d_H_readName_23 : decode b_H_readName 23 = .ok (.if_icmp .ge 15, 3) := by decide +kernel
theorem d_H_readName_26 : decode b_H_readName 26 = .ok (.aload_n 0, 1) := by decide +kernel
theorem d_H_readName_27 : decode b_H_readName 27 = .ok (.getfield 21, 3) := by decide +kernel
theorem d_H_readName_30 : decode b_H_readName 30 = .ok (.iload 4, 2) := by decide +kernel
theorem d_H_readName_32 : decode b_H_readName 32 = .ok (.invokevirtual 105, 3) := by decide +kernel
theorem d_H_readName_35 : decode b_H_readName 35 = .ok (.goto 5, 3) := by decide +kernel
theorem d_H_readName_38 : decode b_H_readName 38 = .ok (.bipush 47, 2) := by decide +kernel
theorem d_H_readName_40 : decode b_H_readName 40 = .ok (.istore 5, 2) := by decide +kernel
theorem d_H_readName_42 : decode b_H_readName 42 = .ok (.iload 5, 2) := by decide +kernel
theorem d_H_readName_44 : decode b_H_readName 44 = .ok (.bipush 97, 2) := by decide +kernel
theorem d_H_readName_46 : decode b_H_readName 46 = .ok (.if_icmp .lt 14, 3) := by decide +kernel
theorem d_H_readName_49 : decode b_H_readName 49 = .ok (.iload 5, 2) := by decide +kernel
theorem d_H_readName_51 : decode b_H_readName 51 = .ok (.bipush 122, 2) := by decide +kernel
theorem d_H_readName_53 : decode b_H_readName 53 = .ok (.if_icmp .gt 7, 3) := by decide +kernel
theorem d_H_readName_56 : decode b_H_readName 56 = .ok (.iconst 1, 1) := by decide +kernel
theorem d_H_readName_57 : decode b_H_readName 57 = .ok (.goto 4, 3) := by decide +kernel
theorem d_H_readName_60 : decode b_H_readName 60 = .ok (.iconst 0, 1) := by decide +kernel
theorem d_H_readName_61 : decode b_H_readName 61 = .ok (.istore 6, 2) := by decide +kernel
theorem d_H_readName_63 : decode b_H_readName 63 = .ok (.iload 5, 2) := by decide +kernel
theorem d_H_readName_65 : decode b_H_readName 65 = .ok (.bipush 48, 2) := by decide +kernel
theorem d_H_readName_67 : decode b_H_readName 67 = .ok (.if_icmp .lt 14, 3) := by decide +kernel
theorem d_H_readName_70 : decode b_H_readName 70 = .ok (.iload 5, 2) := by decide +kernel
theorem d_H_readName_72 : decode b_H_readName 72 = .ok (.bipush 57, 2) := by decide +kernel
theorem d_H_readName_74 : decode b_H_readName 74 = .ok (.if_icmp .gt 7, 3) := by decide +kernel
theorem d_H_readName_77 : decode b_H_readName 77 = .ok (.iconst 1, 1) := by decide +kernel
theorem d_H_readName_78 : decode b_H_readName 78 = .ok (.goto 4, 3) := by decide +kernel
theorem d_H_readName_81 : decode b_H_readName 81 = .ok (.iconst 0, 1) := by decide +kernel
theorem d_H_readName_82 : decode b_H_readName 82 = .ok (.istore 7, 2) := by decide +kernel
theorem d_H_readName_84 : decode b_H_readName 84 = .ok (.iload 5, 2) := by decide +kernel
theorem d_H_readName_86 : decode b_H_readName 86 = .ok (.bipush 47, 2) := by decide +kernel
theorem d_H_readName_88 : decode b_H_readName 88 = .ok (.if_icmp .ne 59, 3) := by decide +kernel
theorem d_H_readName_91 : decode b_H_readName 91 = .ok (.iload 4, 2) := by decide +kernel
theorem d_H_readName_93 : decode b_H_readName 93 = .ok (.iload_n 2, 1) := by decide +kernel
theorem d_H_readName_94 : decode b_H_readName 94 = .ok (.isub, 1) := by decide +kernel
theorem d_H_readName_95 : decode b_H_readName 95 = .ok (.iconst 1, 1) := by decide +kernel
theorem d_H_readName_96 : decode b_H_readName 96 = .ok (.if_icmp .lt 17, 3) := by decide +kernel
theorem d_H_readName_99 : decode b_H_readName 99 = .ok (.iload 4, 2) := by decide +kernel
theorem d_H_readName_101 : decode b_H_readName 101 = .ok (.iload_n 2, 1) := by decide +kernel
theorem d_H_readName_102 : decode b_H_readName 102 = .ok (.isub, 1) := by decide +kernel
theorem d_H_readName_103 : decode b_H_readName 103 = .ok (.bipush 16, 2) := by decide +kernel
theorem d_H_readName_105 : decode b_H_readName 105 = .ok (.if_icmp .gt 8, 3) := by decide +kernel
theorem d_H_readName_108 : decode b_H_readName 108 = .ok (.iload_n 3, 1) := by decide +kernel
theorem d_H_readName_109 : decode b_H_readName 109 = .ok (.iconst 2, 1) := by decide +kernel
theorem d_H_readName_110 : decode b_H_readName 110 = .ok (.if_icmp .ne 5, 3) := by decide +kernel
theorem d_H_readName_113 : decode b_H_readName 113 = .ok (.iconst 0, 1) := by decide +kernel
theorem d_H_readName_114 : decode b_H_readName 114 = .ok (.ireturn, 1) := by decide +kernel
theorem d_H_readName_115 : decode b_H_readName 115 = .ok (.aload_n 0, 1) := by decide +kernel
theorem d_H_readName_116 : decode b_H_readName 116 = .ok (.getfield 28, 3) := by decide +kernel
theorem d_H_readName_119 : decode b_H_readName 119 = .ok (.bipush 27, 2) := by decide +kernel
theorem d_H_readName_121 : decode b_H_readName 121 = .ok (.aload_n 0, 1) := by decide +kernel
theorem d_H_readName_122 : decode b_H_readName 122 = .ok (.getfield 21, 3) := by decide +kernel
theorem d_H_readName_125 : decode b_H_readName 125 = .ok (.getfield 97, 3) := by decide +kernel
theorem d_H_readName_128 : decode b_H_readName 128 = .ok (.iload_n 2, 1) := by decide +kernel
theorem d_H_readName_129 : decode b_H_readName 129 = .ok (.iload 4, 2) := by decide +kernel
theorem d_H_readName_131 : decode b_H_readName 131 = .ok (.iload_n 2, 1) := by decide +kernel
theorem d_H_readName_132 : decode b_H_readName 132 = .ok (.isub, 1) := by decide +kernel
theorem d_H_readName_133 : decode b_H_readName 133 = .ok (.invokevirtual 318, 3) := by decide +kernel
theorem d_H_readName_136 : decode b_H_readName 136 = .ok (.iload 4, 2) := by decide +kernel
theorem d_H_readName_138 : decode b_H_readName 138 = .ok (.iconst 1, 1) := by decide +kernel
theorem d_H_readName_139 : decode b_H_readName 139 = .ok (.iadd, 1) := by decide +kernel
theorem d_H_readName_140 : decode b_H_readName 140 = .ok (.istore_n 2, 1) := by decide +kernel
theorem d_H_readName_141 : decode b_H_readName 141 = .ok (.iinc 3 1, 3) := by decide +kernel
theorem d_H_readName_144 : decode b_H_readName 144 = .ok (.goto 20, 3) := by decide +kernel
theorem d_H_readName_147 : decode b_H_readName 147 = .ok (.iload 6, 2) := by decide +kernel
theorem d_H_readName_149 : decode b_H_readName 149 = .ok (.ifCond .ne 15, 3) := by decide +kernel
theorem d_H_readName_152 : decode b_H_readName 152 = .ok (.iload 7, 2) := by decide +kernel
theorem d_H_readName_154 : decode b_H_readName 154 = .ok (.ifCond .eq 8, 3) := by decide +kernel
theorem d_H_readName_157 : decode b_H_readName 157 = .ok (.iload 4, 2) := by decide +kernel
theorem d_H_readName_159 : decode b_H_readName 159 = .ok (.ifCond .ne 5, 3) := by decide +kernel
theorem d_H_readName_162 : decode b_H_readName 162 = .ok (.iconst 0, 1) := by decide +kernel
theorem d_H_readName_163 : decode b_H_readName 163 = .ok (.ireturn, 1) := by decide +kernel
theorem d_H_readName_164 : decode b_H_readName 164 = .ok (.iinc 4 1, 3) := by decide +kernel
theorem d_H_readName_167 : decode b_H_readName 167 = .ok (.goto (-153), 3) := by decide +kernel
theorem d_H_readName_170 : decode b_H_readName 170 = .ok (.iconst 1, 1) := by decide +kernel
theorem d_H_readName_171 : decode b_H_readName 171 = .ok (.ireturn, 1) := by decide +kernel
abbrev b_H_putCentreName : ByteArray := prog_1_method_42_code
def y_H_putCentreName : MethodName := ⟨R_H, "putCentreName", "(LRealmHouse$Bytes;)V"⟩
abbrev k_H_putCentreName : Cond := .code y_H_putCentreName b_H_putCentreName 1 none
theorem ki_H_putCentreName : k_H_putCentreName ∈ lw_tg := in_t 471 (by decide +kernel)
theorem ks_H_putCentreName : Cond.static y_H_putCentreName ∈ lw_tg := in_t 470 (by decide +kernel)
theorem kl_H_H_putCentreName : Cond.methodLink R_H 61 y_H_putCentreName ∈ lw_tg := in_t 469 (by decide +kernel)
theorem hd_H_putCentreName : y_H_putCentreName.cls = R_H ∧ y_H_putCentreName.cls ≠ "java/lang/invoke/MethodHandle" ∧ y_H_putCentreName.cls ≠ "java/lang/invoke/VarHandle" ∧ (parseMethodDescriptor y_H_putCentreName.desc).map (fun d => d.parameters.length) = some 1 := by decide +kernel
theorem d_H_putCentreName_0 : decode b_H_putCentreName 0 = .ok (.aload_n 0, 1) := by decide +kernel
theorem d_H_putCentreName_1 : decode b_H_putCentreName 1 = .ok (.invokevirtual 88, 3) := by decide +kernel
theorem d_H_putCentreName_4 : decode b_H_putCentreName 4 = .ok (.aload_n 0, 1) := by decide +kernel
theorem d_H_putCentreName_5 : decode b_H_putCentreName 5 = .ok (.ldc_w 322, 3) := by decide +kernel
theorem d_H_putCentreName_8 : decode b_H_putCentreName 8 = .ok (.invokevirtual 324, 3) := by decide +kernel
theorem d_H_putCentreName_11 : decode b_H_putCentreName 11 = .ok (.aload_n 0, 1) := by decide +kernel
theorem d_H_putCentreName_12 : decode b_H_putCentreName 12 = .ok (.ldc_w 328, 3) := by decide +kernel
theorem d_H_putCentreName_15 : decode b_H_putCentreName 15 = .ok (.invokevirtual 324, 3) := by decide +kernel
theorem d_H_putCentreName_18 : decode b_H_putCentreName 18 = .ok (.return_, 1) := by decide +kernel
abbrev b_H_putRefusal : ByteArray := prog_1_method_43_code
def y_H_putRefusal : MethodName := ⟨R_H, "putRefusal", "(LRealmHouse$Principal;I)V"⟩
abbrev k_H_putRefusal : Cond := .code y_H_putRefusal b_H_putRefusal 5 none
theorem ki_H_putRefusal : k_H_putRefusal ∈ lw_tg := in_t 1570 (by decide +kernel)
theorem ks_H_putRefusal : Cond.instanceMethod y_H_putRefusal ∈ lw_tg := in_t 1569 (by decide +kernel)
theorem kx_H_putRefusal : Cond.selects R_H y_H_putRefusal y_H_putRefusal ∈ lw_tg := List.mem_filter.mpr ⟨List.mem_append_left _ (List.mem_of_getElem? (i := 62) (by decide +kernel)), rfl⟩
theorem kl_H_H_putRefusal : Cond.methodLink R_H 245 y_H_putRefusal ∈ lw_tg := in_t 1567 (by decide +kernel)
theorem hd_H_putRefusal : y_H_putRefusal.cls = R_H ∧ y_H_putRefusal.cls ≠ "java/lang/invoke/MethodHandle" ∧ y_H_putRefusal.cls ≠ "java/lang/invoke/VarHandle" ∧ (parseMethodDescriptor y_H_putRefusal.desc).map (fun d => d.parameters.length) = some 2 := by decide +kernel
theorem d_H_putRefusal_0 : decode b_H_putRefusal 0 = .ok (.aload_n 0, 1) := by decide +kernel
theorem d_H_putRefusal_1 : decode b_H_putRefusal 1 = .ok (.getfield 25, 3) := by decide +kernel
theorem d_H_putRefusal_4 : decode b_H_putRefusal 4 = .ok (.bipush 126, 2) := by decide +kernel
theorem d_H_putRefusal_6 : decode b_H_putRefusal 6 = .ok (.invokevirtual 330, 3) := by decide +kernel
theorem d_H_putRefusal_9 : decode b_H_putRefusal 9 = .ok (.istore_n 3, 1) := by decide +kernel
theorem d_H_putRefusal_10 : decode b_H_putRefusal 10 = .ok (.aload_n 0, 1) := by decide +kernel
theorem d_H_putRefusal_11 : decode b_H_putRefusal 11 = .ok (.getfield 25, 3) := by decide +kernel
theorem d_H_putRefusal_14 : decode b_H_putRefusal 14 = .ok (.bipush 48, 2) := by decide +kernel
theorem d_H_putRefusal_16 : decode b_H_putRefusal 16 = .ok (.invokevirtual 330, 3) := by decide +kernel
theorem d_H_putRefusal_19 : decode b_H_putRefusal 19 = .ok (.istore 4, 2) := by decide +kernel
theorem d_H_putRefusal_21 : decode b_H_putRefusal 21 = .ok (.aload_n 0, 1) := by decide +kernel
theorem d_H_putRefusal_22 : decode b_H_putRefusal 22 = .ok (.getfield 25, 3) := by decide +kernel
theorem d_H_putRefusal_25 : decode b_H_putRefusal 25 = .ok (.aload_n 0, 1) := by decide +kernel
theorem d_H_putRefusal_26 : decode b_H_putRefusal 26 = .ok (.getfield 12, 3) := by decide +kernel
theorem d_H_putRefusal_29 : decode b_H_putRefusal 29 = .ok (.getfield 110, 3) := by decide +kernel
theorem d_H_putRefusal_32 : decode b_H_putRefusal 32 = .ok (.iload_n 2, 1) := by decide +kernel
theorem d_H_putRefusal_33 : decode b_H_putRefusal 33 = .ok (.invokevirtual 333, 3) := by decide +kernel
theorem d_H_putRefusal_36 : decode b_H_putRefusal 36 = .ok (.aload_n 0, 1) := by decide +kernel
theorem d_H_putRefusal_37 : decode b_H_putRefusal 37 = .ok (.getfield 25, 3) := by decide +kernel
theorem d_H_putRefusal_40 : decode b_H_putRefusal 40 = .ok (.bipush 9, 2) := by decide +kernel
theorem d_H_putRefusal_42 : decode b_H_putRefusal 42 = .ok (.invokevirtual 337, 3) := by decide +kernel
theorem d_H_putRefusal_45 : decode b_H_putRefusal 45 = .ok (.aload_n 0, 1) := by decide +kernel
theorem d_H_putRefusal_46 : decode b_H_putRefusal 46 = .ok (.getfield 25, 3) := by decide +kernel
theorem d_H_putRefusal_49 : decode b_H_putRefusal 49 = .ok (.bipush 10, 2) := by decide +kernel
theorem d_H_putRefusal_51 : decode b_H_putRefusal 51 = .ok (.iconst 2, 1) := by decide +kernel
theorem d_H_putRefusal_52 : decode b_H_putRefusal 52 = .ok (.aload_n 1, 1) := by decide +kernel
theorem d_H_putRefusal_53 : decode b_H_putRefusal 53 = .ok (.getfield 340, 3) := by decide +kernel
theorem d_H_putRefusal_56 : decode b_H_putRefusal 56 = .ok (.invokevirtual 343, 3) := by decide +kernel
theorem d_H_putRefusal_59 : decode b_H_putRefusal 59 = .ok (.aload_n 0, 1) := by decide +kernel
theorem d_H_putRefusal_60 : decode b_H_putRefusal 60 = .ok (.getfield 25, 3) := by decide +kernel
theorem d_H_putRefusal_63 : decode b_H_putRefusal 63 = .ok (.iload 4, 2) := by decide +kernel
theorem d_H_putRefusal_65 : decode b_H_putRefusal 65 = .ok (.invokevirtual 347, 3) := by decide +kernel
theorem d_H_putRefusal_68 : decode b_H_putRefusal 68 = .ok (.aload_n 0, 1) := by decide +kernel
theorem d_H_putRefusal_69 : decode b_H_putRefusal 69 = .ok (.getfield 25, 3) := by decide +kernel
theorem d_H_putRefusal_72 : decode b_H_putRefusal 72 = .ok (.iload_n 3, 1) := by decide +kernel
theorem d_H_putRefusal_73 : decode b_H_putRefusal 73 = .ok (.invokevirtual 347, 3) := by decide +kernel
theorem d_H_putRefusal_76 : decode b_H_putRefusal 76 = .ok (.return_, 1) := by decide +kernel
