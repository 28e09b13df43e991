abbrev b_Ae_init : ByteArray := prog_2_method_1_code
def y_Ae_init : MethodName := ⟨R_Ae, "<init>", "()V"⟩
abbrev k_Ae_init : Cond := .code y_Ae_init b_Ae_init 2 none
theorem ki_Ae_init : k_Ae_init ∈ lw_tg := in_t 101 (by decide +kernel)
theorem ks_Ae_init : Cond.instanceMethod y_Ae_init ∈ lw_tg := in_t 100 (by decide +kernel)
theorem kl_Va_Ae_init : Cond.methodLink R_Va 37 y_Ae_init ∈ lw_tg := in_t 99 (by decide +kernel)
theorem hd_Ae_init : y_Ae_init.cls = R_Ae ∧ y_Ae_init.cls ≠ "java/lang/invoke/MethodHandle" ∧ y_Ae_init.cls ≠ "java/lang/invoke/VarHandle" ∧ (parseMethodDescriptor y_Ae_init.desc).map (fun d => d.parameters.length) = some 0 := by decide +kernel
theorem d_Ae_init_0 : decode b_Ae_init 0 = .ok (.aload_n 0, 1) := by decide +kernel
theorem d_Ae_init_1 : decode b_Ae_init 1 = .ok (.invokespecial 1, 3) := by decide +kernel
theorem d_Ae_init_4 : decode b_Ae_init 4 = .ok (.aload_n 0, 1) := by decide +kernel
theorem d_Ae_init_5 : decode b_Ae_init 5 = .ok (.sipush 256, 3) := by decide +kernel
theorem d_Ae_init_8 : decode b_Ae_init 8 = .ok (.newarray .int, 2) := by decide +kernel
theorem d_Ae_init_10 : decode b_Ae_init 10 = .ok (.putfield 7, 3) := by decide +kernel
theorem d_Ae_init_13 : decode b_Ae_init 13 = .ok (.aload_n 0, 1) := by decide +kernel
theorem d_Ae_init_14 : decode b_Ae_init 14 = .ok (.sipush 256, 3) := by decide +kernel
theorem d_Ae_init_17 : decode b_Ae_init 17 = .ok (.newarray .int, 2) := by decide +kernel
theorem d_Ae_init_19 : decode b_Ae_init 19 = .ok (.putfield 13, 3) := by decide +kernel
theorem d_Ae_init_22 : decode b_Ae_init 22 = .ok (.aload_n 0, 1) := by decide +kernel
theorem d_Ae_init_23 : decode b_Ae_init 23 = .ok (.sipush 240, 3) := by decide +kernel
theorem d_Ae_init_26 : decode b_Ae_init 26 = .ok (.newarray .int, 2) := by decide +kernel
theorem d_Ae_init_28 : decode b_Ae_init 28 = .ok (.putfield 16, 3) := by decide +kernel
theorem d_Ae_init_31 : decode b_Ae_init 31 = .ok (.aload_n 0, 1) := by decide +kernel
theorem d_Ae_init_32 : decode b_Ae_init 32 = .ok (.bipush 16, 2) := by decide +kernel
theorem d_Ae_init_34 : decode b_Ae_init 34 = .ok (.newarray .int, 2) := by decide +kernel
theorem d_Ae_init_36 : decode b_Ae_init 36 = .ok (.putfield 19, 3) := by decide +kernel
theorem d_Ae_init_39 : decode b_Ae_init 39 = .ok (.aload_n 0, 1) := by decide +kernel
theorem d_Ae_init_40 : decode b_Ae_init 40 = .ok (.bipush 16, 2) := by decide +kernel
theorem d_Ae_init_42 : decode b_Ae_init 42 = .ok (.newarray .int, 2) := by decide +kernel
theorem d_Ae_init_44 : decode b_Ae_init 44 = .ok (.putfield 22, 3) := by decide +kernel
theorem d_Ae_init_47 : decode b_Ae_init 47 = .ok (.aload_n 0, 1) := by decide +kernel
theorem d_Ae_init_48 : decode b_Ae_init 48 = .ok (.bipush 16, 2) := by decide +kernel
theorem d_Ae_init_50 : decode b_Ae_init 50 = .ok (.newarray .byte, 2) := by decide +kernel
theorem d_Ae_init_52 : decode b_Ae_init 52 = .ok (.putfield 25, 3) := by decide +kernel
theorem d_Ae_init_55 : decode b_Ae_init 55 = .ok (.iconst 0, 1) := by decide +kernel
theorem d_Ae_init_56 : decode b_Ae_init 56 = .ok (.istore_n 1, 1) := by decide +kernel
theorem d_Ae_init_57 : decode b_Ae_init 57 = .ok (.iload_n 1, 1) := by decide +kernel
theorem d_Ae_init_58 : decode b_Ae_init 58 = .ok (.sipush 256, 3) := by decide +kernel
theorem d_Ae_init_61 : decode b_Ae_init 61 = .ok (.if_icmp .ge 38, 3) := by decide +kernel
theorem d_Ae_init_64 : decode b_Ae_init 64 = .ok (.aload_n 0, 1) := by decide +kernel
theorem d_Ae_init_65 : decode b_Ae_init 65 = .ok (.getfield 7, 3) := by decide +kernel
theorem d_Ae_init_68 : decode b_Ae_init 68 = .ok (.getstatic 29, 3) := by decide +kernel
theorem d_Ae_init_71 : decode b_Ae_init 71 = .ok (.iload_n 1, 1) := by decide +kernel
theorem d_Ae_init_72 : decode b_Ae_init 72 = .ok (.iaload, 1) := by decide +kernel
theorem d_Ae_init_73 : decode b_Ae_init 73 = .ok (.iload_n 1, 1) := by decide +kernel
theorem d_Ae_init_74 : decode b_Ae_init 74 = .ok (.iastore, 1) := by decide +kernel
theorem d_Ae_init_75 : decode b_Ae_init 75 = .ok (.aload_n 0, 1) := by decide +kernel
theorem d_Ae_init_76 : decode b_Ae_init 76 = .ok (.getfield 13, 3) := by decide +kernel
theorem d_Ae_init_79 : decode b_Ae_init 79 = .ok (.iload_n 1, 1) := by decide +kernel
theorem d_Ae_init_80 : decode b_Ae_init 80 = .ok (.iload_n 1, 1) := by decide +kernel
theorem d_Ae_init_81 : decode b_Ae_init 81 = .ok (.iconst 1, 1) := by decide +kernel
theorem d_Ae_init_82 : decode b_Ae_init 82 = .ok (.ishl, 1) := by decide +kernel
theorem d_Ae_init_83 : decode b_Ae_init 83 = .ok (.iload_n 1, 1) := by decide +kernel
theorem d_Ae_init_84 : decode b_Ae_init 84 = .ok (.bipush 7, 2) := by decide +kernel
theorem d_Ae_init_86 : decode b_Ae_init 86 = .ok (.ishr, 1) := by decide +kernel
theorem d_Ae_init_87 : decode b_Ae_init 87 = .ok (.sipush 283, 3) := by decide +kernel
theorem d_Ae_init_90 : decode b_Ae_init 90 = .ok (.imul, 1) := by decide +kernel
theorem d_Ae_init_91 : decode b_Ae_init 91 = .ok (.ixor, 1) := by decide +kernel
theorem d_Ae_init_92 : decode b_Ae_init 92 = .ok (.iastore, 1) := by decide +kernel
theorem d_Ae_init_93 : decode b_Ae_init 93 = .ok (.iinc 1 1, 3) := by decide +kernel
theorem d_Ae_init_96 : decode b_Ae_init 96 = .ok (.goto (-39), 3) := by decide +kernel
theorem d_Ae_init_99 : decode b_Ae_init 99 = .ok (.return_, 1) := by decide +kernel
abbrev b_Ae_setKey : ByteArray := prog_2_method_2_code
def y_Ae_setKey : MethodName := ⟨R_Ae, "setKey", "([BI)V"⟩
abbrev k_Ae_setKey : Cond := .code y_Ae_setKey b_Ae_setKey 11 none
theorem ki_Ae_setKey : k_Ae_setKey ∈ lw_tg := in_t 637 (by decide +kernel)
theorem ks_Ae_setKey : Cond.instanceMethod y_Ae_setKey ∈ lw_tg := in_t 635 (by decide +kernel)
theorem kx_Ae_setKey : Cond.selects R_Ae y_Ae_setKey y_Ae_setKey ∈ lw_tg := in_t 636 (by decide +kernel)
theorem kl_Va_Ae_setKey : Cond.methodLink R_Va 148 y_Ae_setKey ∈ lw_tg := in_t 634 (by decide +kernel)
theorem hd_Ae_setKey : y_Ae_setKey.cls = R_Ae ∧ y_Ae_setKey.cls ≠ "java/lang/invoke/MethodHandle" ∧ y_Ae_setKey.cls ≠ "java/lang/invoke/VarHandle" ∧ (parseMethodDescriptor y_Ae_setKey.desc).map (fun d => d.parameters.length) = some 2 := by decide +kernel
theorem d_Ae_setKey_0 : decode b_Ae_setKey 0 = .ok (.iload_n 2, 1) := by decide +kernel
theorem d_Ae_setKey_1 : decode b_Ae_setKey 1 = .ok (.bipush 32, 2) := by decide +kernel
theorem d_Ae_setKey_3 : decode b_Ae_setKey 3 = .ok (.if_icmp .ne 15, 3) := by decide +kernel
theorem d_Ae_setKey_6 : decode b_Ae_setKey 6 = .ok (.aload_n 1, 1) := by decide +kernel
theorem d_Ae_setKey_7 : decode b_Ae_setKey 7 = .ok (.arraylength, 1) := by decide +kernel
theorem d_Ae_setKey_8 : decode b_Ae_setKey 8 = .ok (.bipush 32, 2) := by decide +kernel
theorem d_Ae_setKey_10 : decode b_Ae_setKey 10 = .ok (.if_icmp .lt 8, 3) := by decide +kernel
theorem d_Ae_setKey_13 : decode b_Ae_setKey 13 = .ok (.bipush 32, 2) := by decide +kernel
theorem d_Ae_setKey_15 : decode b_Ae_setKey 15 = .ok (.goto 5, 3) := by decide +kernel
theorem d_Ae_setKey_18 : decode b_Ae_setKey 18 = .ok (.bipush 16, 2) := by decide +kernel
theorem d_Ae_setKey_20 : decode b_Ae_setKey 20 = .ok (.istore_n 3, 1) := by decide +kernel
theorem d_Ae_setKey_21 : decode b_Ae_setKey 21 = .ok (.aload_n 0, 1) := by decide +kernel
theorem d_Ae_setKey_22 : decode b_Ae_setKey 22 = .ok (.iload_n 3, 1) := by decide +kernel
theorem d_Ae_setKey_23 : decode b_Ae_setKey 23 = .ok (.iconst 4, 1) := by decide +kernel
theorem d_Ae_setKey_24 : decode b_Ae_setKey 24 = .ok (.idiv, 1) := by decide +kernel
theorem d_Ae_setKey_25 : decode b_Ae_setKey 25 = .ok (.bipush 6, 2) := by decide +kernel
theorem d_Ae_setKey_27 : decode b_Ae_setKey 27 = .ok (.iadd, 1) := by decide +kernel
theorem d_Ae_setKey_28 : decode b_Ae_setKey 28 = .ok (.putfield 32, 3) := by decide +kernel
theorem d_Ae_setKey_31 : decode b_Ae_setKey 31 = .ok (.iconst 0, 1) := by decide +kernel
theorem d_Ae_setKey_32 : decode b_Ae_setKey 32 = .ok (.istore 4, 2) := by decide +kernel
theorem d_Ae_setKey_34 : decode b_Ae_setKey 34 = .ok (.iload 4, 2) := by decide +kernel
theorem d_Ae_setKey_36 : decode b_Ae_setKey 36 = .ok (.iload_n 3, 1) := by decide +kernel
theorem d_Ae_setKey_37 : decode b_Ae_setKey 37 = .ok (.if_icmp .ge 35, 3) := by decide +kernel
theorem d_Ae_setKey_40 : decode b_Ae_setKey 40 = .ok (.aload_n 0, 1) := by decide +kernel
theorem d_Ae_setKey_41 : decode b_Ae_setKey 41 = .ok (.getfield 16, 3) := by decide +kernel
theorem d_Ae_setKey_44 : decode b_Ae_setKey 44 = .ok (.iload 4, 2) := by decide +kernel
theorem d_Ae_setKey_46 : decode b_Ae_setKey 46 = .ok (.iload 4, 2) := by decide +kernel
theorem d_Ae_setKey_48 : decode b_Ae_setKey 48 = .ok (.aload_n 1, 1) := by decide +kernel
theorem d_Ae_setKey_49 : decode b_Ae_setKey 49 = .ok (.arraylength, 1) := by decide +kernel
theorem d_Ae_setKey_50 : decode b_Ae_setKey 50 = .ok (.if_icmp .ge 14, 3) := by decide +kernel
theorem d_Ae_setKey_53 : decode b_Ae_setKey 53 = .ok (.aload_n 1, 1) := by decide +kernel
theorem d_Ae_setKey_54 : decode b_Ae_setKey 54 = .ok (.iload 4, 2) := by decide +kernel
theorem d_Ae_setKey_56 : decode b_Ae_setKey 56 = .ok (.baload, 1) := by decide +kernel
theorem d_Ae_setKey_57 : decode b_Ae_setKey 57 = .ok (.sipush 255, 3) := by decide +kernel
theorem d_Ae_setKey_60 : decode b_Ae_setKey 60 = .ok (.iand, 1) := by decide +kernel
theorem d_Ae_setKey_61 : decode b_Ae_setKey 61 = .ok (.goto 4, 3) := by decide +kernel
theorem d_Ae_setKey_64 : decode b_Ae_setKey 64 = .ok (.iconst 0, 1) := by decide +kernel
theorem d_Ae_setKey_65 : decode b_Ae_setKey 65 = .ok (.iastore, 1) := by decide +kernel
theorem d_Ae_setKey_66 : decode b_Ae_setKey 66 = .ok (.iinc 4 1, 3) := by decide +kernel
theorem d_Ae_setKey_69 : decode b_Ae_setKey 69 = .ok (.goto (-35), 3) := by decide +kernel
theorem d_Ae_setKey_72 : decode b_Ae_setKey 72 = .ok (.iconst 1, 1) := by decide +kernel
theorem d_Ae_setKey_73 : decode b_Ae_setKey 73 = .ok (.istore 4, 2) := by decide +kernel
theorem d_Ae_setKey_75 : decode b_Ae_setKey 75 = .ok (.iload_n 3, 1) := by decide +kernel
theorem d_Ae_setKey_76 : decode b_Ae_setKey 76 = .ok (.istore 5, 2) := by decide +kernel
theorem d_Ae_setKey_78 : decode b_Ae_setKey 78 = .ok (.iload 5, 2) := by decide +kernel
theorem d_Ae_setKey_80 : decode b_Ae_setKey 80 = .ok (.bipush 16, 2) := by decide +kernel
theorem d_Ae_setKey_82 : decode b_Ae_setKey 82 = .ok (.aload_n 0, 1) := by decide +kernel
theorem d_Ae_setKey_83 : decode b_Ae_setKey 83 = .ok (.getfield 32, 3) := by decide +kernel
theorem d_Ae_setKey_86 : decode b_Ae_setKey 86 = .ok (.iconst 1, 1) := by decide +kernel
theorem d_Ae_setKey_87 : decode b_Ae_setKey 87 = .ok (.iadd, 1) := by decide +kernel
theorem d_Ae_setKey_88 : decode b_Ae_setKey 88 = .ok (.imul, 1) := by decide +kernel
theorem d_Ae_setKey_89 : decode b_Ae_setKey 89 = .ok (.if_icmp .ge 246, 3) := by decide +kernel
theorem d_Ae_setKey_92 : decode b_Ae_setKey 92 = .ok (.aload_n 0, 1) := by decide +kernel
theorem d_Ae_setKey_93 : decode b_Ae_setKey 93 = .ok (.getfield 16, 3) := by decide +kernel
theorem d_Ae_setKey_96 : decode b_Ae_setKey 96 = .ok (.iload 5, 2) := by decide +kernel
theorem d_Ae_setKey_98 : decode b_Ae_setKey 98 = .ok (.iconst 4, 1) := by decide +kernel
theorem d_Ae_setKey_99 : decode b_Ae_setKey 99 = .ok (.isub, 1) := by decide +kernel
theorem d_Ae_setKey_100 : decode b_Ae_setKey 100 = .ok (.iaload, 1) := by decide +kernel
theorem d_Ae_setKey_101 : decode b_Ae_setKey 101 = .ok (.istore 6, 2) := by decide +kernel
theorem d_Ae_setKey_103 : decode b_Ae_setKey 103 = .ok (.aload_n 0, 1) := by decide +kernel
theorem d_Ae_setKey_104 : decode b_Ae_setKey 104 = .ok (.getfield 16, 3) := by decide +kernel
theorem d_Ae_setKey_107 : decode b_Ae_setKey 107 = .ok (.iload 5, 2) := by decide +kernel
theorem d_Ae_setKey_109 : decode b_Ae_setKey 109 = .ok (.iconst 3, 1) := by decide +kernel
theorem d_Ae_setKey_110 : decode b_Ae_setKey 110 = .ok (.isub, 1) := by decide +kernel
theorem d_Ae_setKey_111 : decode b_Ae_setKey 111 = .ok (.iaload, 1) := by decide +kernel
theorem d_Ae_setKey_112 : decode b_Ae_setKey 112 = .ok (.istore 7, 2) := by decide +kernel
theorem d_Ae_setKey_114 : decode b_Ae_setKey 114 = .ok (.aload_n 0, 1) := by decide +kernel
theorem d_Ae_setKey_115 : decode b_Ae_setKey 115 = .ok (.getfield 16, 3) := by decide +kernel
theorem d_Ae_setKey_118 : decode b_Ae_setKey 118 = .ok (.iload 5, 2) := by decide +kernel
theorem d_Ae_setKey_120 : decode b_Ae_setKey 120 = .ok (.iconst 2, 1) := by decide +kernel
theorem d_Ae_setKey_121 : decode b_Ae_setKey 121 = .ok (.isub, 1) := by decide +kernel
theorem d_Ae_setKey_122 : decode b_Ae_setKey 122 = .ok (.iaload, 1) := by decide +kernel
theorem d_Ae_setKey_123 : decode b_Ae_setKey 123 = .ok (.istore 8, 2) := by decide +kernel
theorem d_Ae_setKey_125 : decode b_Ae_setKey 125 = .ok (.aload_n 0, 1) := by decide +kernel
theorem d_Ae_setKey_126 : decode b_Ae_setKey 126 = .ok (.getfield 16, 3) := by decide +kernel
theorem d_Ae_setKey_129 : decode b_Ae_setKey 129 = .ok (.iload 5, 2) := by decide +kernel
theorem d_Ae_setKey_131 : decode b_Ae_setKey 131 = .ok (.iconst 1, 1) := by decide +kernel
theorem d_Ae_setKey_132 : decode b_Ae_setKey 132 = .ok (.isub, 1) := by decide +kernel
theorem d_Ae_setKey_133 : decode b_Ae_setKey 133 = .ok (.iaload, 1) := by decide +kernel
theorem d_Ae_setKey_134 : decode b_Ae_setKey 134 = .ok (.istore 9, 2) := by decide +kernel
theorem d_Ae_setKey_136 : decode b_Ae_setKey 136 = .ok (.iload 5, 2) := by decide +kernel
theorem d_Ae_setKey_138 : decode b_Ae_setKey 138 = .ok (.iload_n 3, 1) := by decide +kernel
theorem d_Ae_setKey_139 : decode b_Ae_setKey 139 = .ok (.irem, 1) := by decide +kernel
theorem d_Ae_setKey_140 : decode b_Ae_setKey 140 = .ok (.ifCond .ne 54, 3) := by decide +kernel
theorem d_Ae_setKey_143 : decode b_Ae_setKey 143 = .ok (.iload 6, 2) := by decide +kernel
theorem d_Ae_setKey_145 : decode b_Ae_setKey 145 = .ok (.istore 10, 2) := by decide +kernel
theorem d_Ae_setKey_147 : decode b_Ae_setKey 147 = .ok (.getstatic 29, 3) := by decide +kernel
theorem d_Ae_setKey_150 : decode b_Ae_setKey 150 = .ok (.iload 7, 2) := by decide +kernel
theorem d_Ae_setKey_152 : decode b_Ae_setKey 152 = .ok (.iaload, 1) := by decide +kernel
theorem d_Ae_setKey_153 : decode b_Ae_setKey 153 = .ok (.iload 4, 2) := by decide +kernel
theorem d_Ae_setKey_155 : decode b_Ae_setKey 155 = .ok (.ixor, 1) := by decide +kernel
theorem d_Ae_setKey_156 : decode b_Ae_setKey 156 = .ok (.istore 6, 2) := by decide +kernel
theorem d_Ae_setKey_158 : decode b_Ae_setKey 158 = .ok (.getstatic 29, 3) := by decide +kernel
theorem d_Ae_setKey_161 : decode b_Ae_setKey 161 = .ok (.iload 8, 2) := by decide +kernel
theorem d_Ae_setKey_163 : decode b_Ae_setKey 163 = .ok (.iaload, 1) := by decide +kernel
theorem d_Ae_setKey_164 : decode b_Ae_setKey 164 = .ok (.istore 7, 2) := by decide +kernel
theorem d_Ae_setKey_166 : decode b_Ae_setKey 166 = .ok (.getstatic 29, 3) := by decide +kernel
theorem d_Ae_setKey_169 : decode b_Ae_setKey 169 = .ok (.iload 9, 2) := by decide +kernel
theorem d_Ae_setKey_171 : decode b_Ae_setKey 171 = .ok (.iaload, 1) := by decide +kernel
theorem d_Ae_setKey_172 : decode b_Ae_setKey 172 = .ok (.istore 8, 2) := by decide +kernel
theorem d_Ae_setKey_174 : decode b_Ae_setKey 174 = .ok (.getstatic 29, 3) := by decide +kernel
theorem d_Ae_setKey_177 : decode b_Ae_setKey 177 = .ok (.iload 10, 2) := by decide +kernel
theorem d_Ae_setKey_179 : decode b_Ae_setKey 179 = .ok (.iaload, 1) := by decide +kernel
theorem d_Ae_setKey_180 : decode b_Ae_setKey 180 = .ok (.istore 9, 2) := by decide +kernel
theorem d_Ae_setKey_182 : decode b_Ae_setKey 182 = .ok (.aload_n 0, 1) := by decide +kernel
theorem d_Ae_setKey_183 : decode b_Ae_setKey 183 = .ok (.getfield 13, 3) := by decide +kernel
theorem d_Ae_setKey_186 : decode b_Ae_setKey 186 = .ok (.iload 4, 2) := by decide +kernel
theorem d_Ae_setKey_188 : decode b_Ae_setKey 188 = .ok (.iaload, 1) := by decide +kernel
theorem d_Ae_setKey_189 : decode b_Ae_setKey 189 = .ok (.istore 4, 2) := by decide +kernel
theorem d_Ae_setKey_191 : decode b_Ae_setKey 191 = .ok (.goto 50, 3) := by decide +kernel
theorem d_Ae_setKey_194 : decode b_Ae_setKey 194 = .ok (.iload_n 3, 1) := by decide +kernel
theorem d_Ae_setKey_195 : decode b_Ae_setKey 195 = .ok (.bipush 32, 2) := by decide +kernel
theorem d_Ae_setKey_197 : decode b_Ae_setKey 197 = .ok (.if_icmp .ne 44, 3) := by decide +kernel
theorem d_Ae_setKey_200 : decode b_Ae_setKey 200 = .ok (.iload 5, 2) := by decide +kernel
theorem d_Ae_setKey_202 : decode b_Ae_setKey 202 = .ok (.iload_n 3, 1) := by decide +kernel
theorem d_Ae_setKey_203 : decode b_Ae_setKey 203 = .ok (.irem, 1) := by decide +kernel
theorem d_Ae_setKey_204 : decode b_Ae_setKey 204 = .ok (.bipush 16, 2) := by decide +kernel
theorem d_Ae_setKey_206 : decode b_Ae_setKey 206 = .ok (.if_icmp .ne 35, 3) := by decide +kernel
theorem d_Ae_setKey_209 : decode b_Ae_setKey 209 = .ok (.getstatic 29, 3) := by decide +kernel
theorem d_Ae_setKey_212 : decode b_Ae_setKey 212 = .ok (.iload 6, 2) := by decide +kernel
theorem d_Ae_setKey_214 : decode b_Ae_setKey 214 = .ok (.iaload, 1) := by decide +kernel
theorem d_Ae_setKey_215 : decode b_Ae_setKey 215 = .ok (.istore 6, 2) := by decide +kernel
theorem d_Ae_setKey_217 : decode b_Ae_setKey 217 = .ok (.getstatic 29, 3) := by decide +kernel
theorem d_Ae_setKey_220 : decode b_Ae_setKey 220 = .ok (.iload 7, 2) := by decide +kernel
theorem d_Ae_setKey_222 : decode b_Ae_setKey 222 = .ok (.iaload, 1) := by decide +kernel
theorem d_Ae_setKey_223 : decode b_Ae_setKey 223 = .ok (.istore 7, 2) := by decide +kernel
theorem d_Ae_setKey_225 : decode b_Ae_setKey 225 = .ok (.getstatic 29, 3) := by decide +kernel
theorem d_Ae_setKey_228 : decode b_Ae_setKey 228 = .ok (.iload 8, 2) := by decide +kernel
theorem d_Ae_setKey_230 : decode b_Ae_setKey 230 = .ok (.iaload, 1) := by decide +kernel
theorem d_Ae_setKey_231 : decode b_Ae_setKey 231 = .ok (.istore 8, 2) := by decide +kernel
theorem d_Ae_setKey_233 : decode b_Ae_setKey 233 = .ok (.getstatic 29, 3) := by decide +kernel
theorem d_Ae_setKey_236 : decode b_Ae_setKey 236 = .ok (.iload 9, 2) := by decide +kernel
theorem d_Ae_setKey_238 : decode b_Ae_setKey 238 = .ok (.iaload, 1) := by decide +kernel
theorem d_Ae_setKey_239 : decode b_Ae_setKey 239 = .ok (.istore 9, 2) := by decide +kernel
theorem d_Ae_setKey_241 : decode b_Ae_setKey 241 = .ok (.aload_n 0, 1) := by decide +kernel
theorem d_Ae_setKey_242 : decode b_Ae_setKey 242 = .ok (.getfield 16, 3) := by decide +kernel
theorem d_Ae_setKey_245 : decode b_Ae_setKey 245 = .ok (.iload 5, 2) := by decide +kernel
theorem d_Ae_setKey_247 : decode b_Ae_setKey 247 = .ok (.aload_n 0, 1) := by decide +kernel
theorem d_Ae_setKey_248 : decode b_Ae_setKey 248 = .ok (.getfield 16, 3) := by decide +kernel
theorem d_Ae_setKey_251 : decode b_Ae_setKey 251 = .ok (.iload 5, 2) := by decide +kernel
theorem d_Ae_setKey_253 : decode b_Ae_setKey 253 = .ok (.iload_n 3, 1) := by decide +kernel
theorem d_Ae_setKey_254 : decode b_Ae_setKey 254 = .ok (.isub, 1) := by decide +kernel
theorem d_Ae_setKey_255 : decode b_Ae_setKey 255 = .ok (.iaload, 1) := by decide +kernel
theorem d_Ae_setKey_256 : decode b_Ae_setKey 256 = .ok (.iload 6, 2) := by decide +kernel
theorem d_Ae_setKey_258 : decode b_Ae_setKey 258 = .ok (.ixor, 1) := by decide +kernel
theorem d_Ae_setKey_259 : decode b_Ae_setKey 259 = .ok (.iastore, 1) := by decide +kernel
theorem d_Ae_setKey_260 : decode b_Ae_setKey 260 = .ok (.aload_n 0, 1) := by decide +kernel
theorem d_Ae_setKey_261 : decode b_Ae_setKey 261 = .ok (.getfield 16, 3) := by decide +kernel
theorem d_Ae_setKey_264 : decode b_Ae_setKey 264 = .ok (.iload 5, 2) := by decide +kernel
theorem d_Ae_setKey_266 : decode b_Ae_setKey 266 = .ok (.iconst 1, 1) := by decide +kernel
theorem d_Ae_setKey_267 : decode b_Ae_setKey 267 = .ok (.iadd, 1) := by decide +kernel
theorem d_Ae_setKey_268 : decode b_Ae_setKey 268 = .ok (.aload_n 0, 1) := by decide +kernel
theorem d_Ae_setKey_269 : decode b_Ae_setKey 269 = .ok (.getfield 16, 3) := by decide +kernel
theorem d_Ae_setKey_272 : decode b_Ae_setKey 272 = .ok (.iload 5, 2) := by decide +kernel
theorem d_Ae_setKey_274 : decode b_Ae_setKey 274 = .ok (.iconst 1, 1) := by decide +kernel
theorem d_Ae_setKey_275 : decode b_Ae_setKey 275 = .ok (.iadd, 1) := by decide +kernel
theorem d_Ae_setKey_276 : decode b_Ae_setKey 276 = .ok (.iload_n 3, 1) := by decide +kernel
theorem d_Ae_setKey_277 : decode b_Ae_setKey 277 = .ok (.isub, 1) := by decide +kernel
theorem d_Ae_setKey_278 : decode b_Ae_setKey 278 = .ok (.iaload, 1) := by decide +kernel
theorem d_Ae_setKey_279 : decode b_Ae_setKey 279 = .ok (.iload 7, 2) := by decide +kernel
theorem d_Ae_setKey_281 : decode b_Ae_setKey 281 = .ok (.ixor, 1) := by decide +kernel
theorem d_Ae_setKey_282 : decode b_Ae_setKey 282 = .ok (.iastore, 1) := by decide +kernel
theorem d_Ae_setKey_283 : decode b_Ae_setKey 283 = .ok (.aload_n 0, 1) := by decide +kernel
theorem d_Ae_setKey_284 : decode b_Ae_setKey 284 = .ok (.getfield 16, 3) := by decide +kernel
theorem d_Ae_setKey_287 : decode b_Ae_setKey 287 = .ok (.iload 5, 2) := by decide +kernel
theorem d_Ae_setKey_289 : decode b_Ae_setKey 289 = .ok (.iconst 2, 1) := by decide +kernel
theorem d_Ae_setKey_290 : decode b_Ae_setKey 290 = .ok (.iadd, 1) := by decide +kernel
theorem d_Ae_setKey_291 : decode b_Ae_setKey 291 = .ok (.aload_n 0, 1) := by decide +kernel
theorem d_Ae_setKey_292 : decode b_Ae_setKey 292 = .ok (.getfield 16, 3) := by decide +kernel
theorem d_Ae_setKey_295 : decode b_Ae_setKey 295 = .ok (.iload 5, 2) := by decide +kernel
theorem d_Ae_setKey_297 : decode b_Ae_setKey 297 = .ok (.iconst 2, 1) := by decide +kernel
theorem d_Ae_setKey_298 : decode b_Ae_setKey 298 = .ok (.iadd, 1) := by decide +kernel
theorem d_Ae_setKey_299 : decode b_Ae_setKey 299 = .ok (.iload_n 3, 1) := by decide +kernel
theorem d_Ae_setKey_300 : decode b_Ae_setKey 300 = .ok (.isub, 1) := by decide +kernel
theorem d_Ae_setKey_301 : decode b_Ae_setKey 301 = .ok (.iaload, 1) := by decide +kernel
theorem d_Ae_setKey_302 : decode b_Ae_setKey 302 = .ok (.iload 8, 2) := by decide +kernel
theorem d_Ae_setKey_304 : decode b_Ae_setKey 304 = .ok (.ixor, 1) := by decide +kernel
theorem d_Ae_setKey_305 : decode b_Ae_setKey 305 = .ok (.iastore, 1) := by decide +kernel
theorem d_Ae_setKey_306 : decode b_Ae_setKey 306 = .ok (.aload_n 0, 1) := by decide +kernel
theorem d_Ae_setKey_307 : decode b_Ae_setKey 307 = .ok (.getfield 16, 3) := by decide +kernel
theorem d_Ae_setKey_310 : decode b_Ae_setKey 310 = .ok (.iload 5, 2) := by decide +kernel
theorem d_Ae_setKey_312 : decode b_Ae_setKey 312 = .ok (.iconst 3, 1) := by decide +kernel
theorem d_Ae_setKey_313 : decode b_Ae_setKey 313 = .ok (.iadd, 1) := by decide +kernel
theorem d_Ae_setKey_314 : decode b_Ae_setKey 314 = .ok (.aload_n 0, 1) := by decide +kernel
theorem d_Ae_setKey_315 : decode b_Ae_setKey 315 = .ok (.getfield 16, 3) := by decide +kernel
theorem d_Ae_setKey_318 : decode b_Ae_setKey 318 = .ok (.iload 5, 2) := by decide +kernel
theorem d_Ae_setKey_320 : decode b_Ae_setKey 320 = .ok (.iconst 3, 1) := by decide +kernel
theorem d_Ae_setKey_321 : decode b_Ae_setKey 321 = .ok (.iadd, 1) := by decide +kernel
theorem d_Ae_setKey_322 : decode b_Ae_setKey 322 = .ok (.iload_n 3, 1) := by decide +kernel
theorem d_Ae_setKey_323 : decode b_Ae_setKey 323 = .ok (.isub, 1) := by decide +kernel
theorem d_Ae_setKey_324 : decode b_Ae_setKey 324 = .ok (.iaload, 1) := by decide +kernel
theorem d_Ae_setKey_325 : decode b_Ae_setKey 325 = .ok (.iload 9, 2) := by decide +kernel
theorem d_Ae_setKey_327 : decode b_Ae_setKey 327 = .ok (.ixor, 1) := by decide +kernel
theorem d_Ae_setKey_328 : decode b_Ae_setKey 328 = .ok (.iastore, 1) := by decide +kernel
theorem d_Ae_setKey_329 : decode b_Ae_setKey 329 = .ok (.iinc 5 4, 3) := by decide +kernel
theorem d_Ae_setKey_332 : decode b_Ae_setKey 332 = .ok (.goto (-254), 3) := by decide +kernel
theorem d_Ae_setKey_335 : decode b_Ae_setKey 335 = .ok (.return_, 1) := by decide +kernel
abbrev b_Ae_encrypt : ByteArray := prog_2_method_3_code
def y_Ae_encrypt : MethodName := ⟨R_Ae, "encrypt", "([BI)V"⟩
abbrev k_Ae_encrypt : Cond := .code y_Ae_encrypt b_Ae_encrypt 5 none
theorem ki_Ae_encrypt : k_Ae_encrypt ∈ lw_tg := in_t 647 (by decide +kernel)
theorem ks_Ae_encrypt : Cond.instanceMethod y_Ae_encrypt ∈ lw_tg := in_t 645 (by decide +kernel)
theorem kx_Ae_encrypt : Cond.selects R_Ae y_Ae_encrypt y_Ae_encrypt ∈ lw_tg := in_t 646 (by decide +kernel)
theorem kl_Va_Ae_encrypt : Cond.methodLink R_Va 157 y_Ae_encrypt ∈ lw_tg := in_t 644 (by decide +kernel)
theorem kl_Ae_Ae_encrypt : Cond.methodLink R_Ae 48 y_Ae_encrypt ∈ lw_tg := in_t 1332 (by decide +kernel)
theorem hd_Ae_encrypt : y_Ae_encrypt.cls = R_Ae ∧ y_Ae_encrypt.cls ≠ "java/lang/invoke/MethodHandle" ∧ y_Ae_encrypt.cls ≠ "java/lang/invoke/VarHandle" ∧ (parseMethodDescriptor y_Ae_encrypt.desc).map (fun d => d.parameters.length) = some 2 := by decide +kernel
theorem d_Ae_encrypt_0 : decode b_Ae_encrypt 0 = .ok (.iload_n 2, 1) := by decide +kernel
theorem d_Ae_encrypt_1 : decode b_Ae_encrypt 1 = .ok (.ifCond .lt 12, 3) := by decide +kernel
theorem d_Ae_encrypt_4 : decode b_Ae_encrypt 4 = .ok (.iload_n 2, 1) := by decide +kernel
theorem d_Ae_encrypt_5 : decode b_Ae_encrypt 5 = .ok (.aload_n 1, 1) := by decide +kernel
theorem d_Ae_encrypt_6 : decode b_Ae_encrypt 6 = .ok (.arraylength, 1) := by decide +kernel
theorem d_Ae_encrypt_7 : decode b_Ae_encrypt 7 = .ok (.bipush 16, 2) := by decide +kernel
theorem d_Ae_encrypt_9 : decode b_Ae_encrypt 9 = .ok (.isub, 1) := by decide +kernel
theorem d_Ae_encrypt_10 : decode b_Ae_encrypt 10 = .ok (.if_icmp .le 4, 3) := by decide +kernel
theorem d_Ae_encrypt_13 : decode b_Ae_encrypt 13 = .ok (.return_, 1) := by decide +kernel
theorem d_Ae_encrypt_14 : decode b_Ae_encrypt 14 = .ok (.iconst 0, 1) := by decide +kernel
theorem d_Ae_encrypt_15 : decode b_Ae_encrypt 15 = .ok (.istore_n 3, 1) := by decide +kernel
theorem d_Ae_encrypt_16 : decode b_Ae_encrypt 16 = .ok (.iload_n 3, 1) := by decide +kernel
theorem d_Ae_encrypt_17 : decode b_Ae_encrypt 17 = .ok (.bipush 16, 2) := by decide +kernel
theorem d_Ae_encrypt_19 : decode b_Ae_encrypt 19 = .ok (.if_icmp .ge 31, 3) := by decide +kernel
theorem d_Ae_encrypt_22 : decode b_Ae_encrypt 22 = .ok (.aload_n 0, 1) := by decide +kernel
theorem d_Ae_encrypt_23 : decode b_Ae_encrypt 23 = .ok (.getfield 19, 3) := by decide +kernel
theorem d_Ae_encrypt_26 : decode b_Ae_encrypt 26 = .ok (.iload_n 3, 1) := by decide +kernel
theorem d_Ae_encrypt_27 : decode b_Ae_encrypt 27 = .ok (.aload_n 1, 1) := by decide +kernel
theorem d_Ae_encrypt_28 : decode b_Ae_encrypt 28 = .ok (.iload_n 2, 1) := by decide +kernel
theorem d_Ae_encrypt_29 : decode b_Ae_encrypt 29 = .ok (.iload_n 3, 1) := by decide +kernel
theorem d_Ae_encrypt_30 : decode b_Ae_encrypt 30 = .ok (.iadd, 1) := by decide +kernel
theorem d_Ae_encrypt_31 : decode b_Ae_encrypt 31 = .ok (.baload, 1) := by decide +kernel
theorem d_Ae_encrypt_32 : decode b_Ae_encrypt 32 = .ok (.sipush 255, 3) := by decide +kernel
theorem d_Ae_encrypt_35 : decode b_Ae_encrypt 35 = .ok (.iand, 1) := by decide +kernel
theorem d_Ae_encrypt_36 : decode b_Ae_encrypt 36 = .ok (.aload_n 0, 1) := by decide +kernel
theorem d_Ae_encrypt_37 : decode b_Ae_encrypt 37 = .ok (.getfield 16, 3) := by decide +kernel
theorem d_Ae_encrypt_40 : decode b_Ae_encrypt 40 = .ok (.iload_n 3, 1) := by decide +kernel
theorem d_Ae_encrypt_41 : decode b_Ae_encrypt 41 = .ok (.iaload, 1) := by decide +kernel
theorem d_Ae_encrypt_42 : decode b_Ae_encrypt 42 = .ok (.ixor, 1) := by decide +kernel
theorem d_Ae_encrypt_43 : decode b_Ae_encrypt 43 = .ok (.iastore, 1) := by decide +kernel
theorem d_Ae_encrypt_44 : decode b_Ae_encrypt 44 = .ok (.iinc 3 1, 3) := by decide +kernel
theorem d_Ae_encrypt_47 : decode b_Ae_encrypt 47 = .ok (.goto (-31), 3) := by decide +kernel
theorem d_Ae_encrypt_50 : decode b_Ae_encrypt 50 = .ok (.iconst 1, 1) := by decide +kernel
theorem d_Ae_encrypt_51 : decode b_Ae_encrypt 51 = .ok (.istore_n 3, 1) := by decide +kernel
theorem d_Ae_encrypt_52 : decode b_Ae_encrypt 52 = .ok (.iload_n 3, 1) := by decide +kernel
theorem d_Ae_encrypt_53 : decode b_Ae_encrypt 53 = .ok (.aload_n 0, 1) := by decide +kernel
theorem d_Ae_encrypt_54 : decode b_Ae_encrypt 54 = .ok (.getfield 32, 3) := by decide +kernel
theorem d_Ae_encrypt_57 : decode b_Ae_encrypt 57 = .ok (.if_icmp .gt 108, 3) := by decide +kernel
theorem d_Ae_encrypt_60 : decode b_Ae_encrypt 60 = .ok (.iconst 0, 1) := by decide +kernel
theorem d_Ae_encrypt_61 : decode b_Ae_encrypt 61 = .ok (.istore 4, 2) := by decide +kernel
theorem d_Ae_encrypt_63 : decode b_Ae_encrypt 63 = .ok (.iload 4, 2) := by decide +kernel
theorem d_Ae_encrypt_65 : decode b_Ae_encrypt 65 = .ok (.bipush 16, 2) := by decide +kernel
theorem d_Ae_encrypt_67 : decode b_Ae_encrypt 67 = .ok (.if_icmp .ge 37, 3) := by decide +kernel
theorem d_Ae_encrypt_70 : decode b_Ae_encrypt 70 = .ok (.aload_n 0, 1) := by decide +kernel
theorem d_Ae_encrypt_71 : decode b_Ae_encrypt 71 = .ok (.getfield 22, 3) := by decide +kernel
theorem d_Ae_encrypt_74 : decode b_Ae_encrypt 74 = .ok (.iload 4, 2) := by decide +kernel
theorem d_Ae_encrypt_76 : decode b_Ae_encrypt 76 = .ok (.getstatic 29, 3) := by decide +kernel
theorem d_Ae_encrypt_79 : decode b_Ae_encrypt 79 = .ok (.aload_n 0, 1) := by decide +kernel
theorem d_Ae_encrypt_80 : decode b_Ae_encrypt 80 = .ok (.getfield 19, 3) := by decide +kernel
theorem d_Ae_encrypt_83 : decode b_Ae_encrypt 83 = .ok (.iload 4, 2) := by decide +kernel
theorem d_Ae_encrypt_85 : decode b_Ae_encrypt 85 = .ok (.iconst 4, 1) := by decide +kernel
theorem d_Ae_encrypt_86 : decode b_Ae_encrypt 86 = .ok (.iload 4, 2) := by decide +kernel
theorem d_Ae_encrypt_88 : decode b_Ae_encrypt 88 = .ok (.iconst 3, 1) := by decide +kernel
theorem d_Ae_encrypt_89 : decode b_Ae_encrypt 89 = .ok (.iand, 1) := by decide +kernel
theorem d_Ae_encrypt_90 : decode b_Ae_encrypt 90 = .ok (.imul, 1) := by decide +kernel
theorem d_Ae_encrypt_91 : decode b_Ae_encrypt 91 = .ok (.iadd, 1) := by decide +kernel
theorem d_Ae_encrypt_92 : decode b_Ae_encrypt 92 = .ok (.bipush 15, 2) := by decide +kernel
theorem d_Ae_encrypt_94 : decode b_Ae_encrypt 94 = .ok (.iand, 1) := by decide +kernel
theorem d_Ae_encrypt_95 : decode b_Ae_encrypt 95 = .ok (.iaload, 1) := by decide +kernel
theorem d_Ae_encrypt_96 : decode b_Ae_encrypt 96 = .ok (.iaload, 1) := by decide +kernel
theorem d_Ae_encrypt_97 : decode b_Ae_encrypt 97 = .ok (.iastore, 1) := by decide +kernel
theorem d_Ae_encrypt_98 : decode b_Ae_encrypt 98 = .ok (.iinc 4 1, 3) := by decide +kernel
theorem d_Ae_encrypt_101 : decode b_Ae_encrypt 101 = .ok (.goto (-38), 3) := by decide +kernel
theorem d_Ae_encrypt_104 : decode b_Ae_encrypt 104 = .ok (.iload_n 3, 1) := by decide +kernel
theorem d_Ae_encrypt_105 : decode b_Ae_encrypt 105 = .ok (.aload_n 0, 1) := by decide +kernel
theorem d_Ae_encrypt_106 : decode b_Ae_encrypt 106 = .ok (.getfield 32, 3) := by decide +kernel
theorem d_Ae_encrypt_109 : decode b_Ae_encrypt 109 = .ok (.if_icmp .ge 7, 3) := by decide +kernel
theorem d_Ae_encrypt_112 : decode b_Ae_encrypt 112 = .ok (.aload_n 0, 1) := by decide +kernel
theorem d_Ae_encrypt_113 : decode b_Ae_encrypt 113 = .ok (.invokevirtual 36, 3) := by decide +kernel
theorem d_Ae_encrypt_116 : decode b_Ae_encrypt 116 = .ok (.iconst 0, 1) := by decide +kernel
theorem d_Ae_encrypt_117 : decode b_Ae_encrypt 117 = .ok (.istore 4, 2) := by decide +kernel
theorem d_Ae_encrypt_119 : decode b_Ae_encrypt 119 = .ok (.iload 4, 2) := by decide +kernel
theorem d_Ae_encrypt_121 : decode b_Ae_encrypt 121 = .ok (.bipush 16, 2) := by decide +kernel
theorem d_Ae_encrypt_123 : decode b_Ae_encrypt 123 = .ok (.if_icmp .ge 36, 3) := by decide +kernel
theorem d_Ae_encrypt_126 : decode b_Ae_encrypt 126 = .ok (.aload_n 0, 1) := by decide +kernel
theorem d_Ae_encrypt_127 : decode b_Ae_encrypt 127 = .ok (.getfield 19, 3) := by decide +kernel
theorem d_Ae_encrypt_130 : decode b_Ae_encrypt 130 = .ok (.iload 4, 2) := by decide +kernel
theorem d_Ae_encrypt_132 : decode b_Ae_encrypt 132 = .ok (.aload_n 0, 1) := by decide +kernel
theorem d_Ae_encrypt_133 : decode b_Ae_encrypt 133 = .ok (.getfield 22, 3) := by decide +kernel
theorem d_Ae_encrypt_136 : decode b_Ae_encrypt 136 = .ok (.iload 4, 2) := by decide +kernel
theorem d_Ae_encrypt_138 : decode b_Ae_encrypt 138 = .ok (.iaload, 1) := by decide +kernel
theorem d_Ae_encrypt_139 : decode b_Ae_encrypt 139 = .ok (.aload_n 0, 1) := by decide +kernel
theorem d_Ae_encrypt_140 : decode b_Ae_encrypt 140 = .ok (.getfield 16, 3) := by decide +kernel
theorem d_Ae_encrypt_143 : decode b_Ae_encrypt 143 = .ok (.bipush 16, 2) := by decide +kernel
theorem d_Ae_encrypt_145 : decode b_Ae_encrypt 145 = .ok (.iload_n 3, 1) := by decide +kernel
theorem d_Ae_encrypt_146 : decode b_Ae_encrypt 146 = .ok (.imul, 1) := by decide +kernel
theorem d_Ae_encrypt_147 : decode b_Ae_encrypt 147 = .ok (.iload 4, 2) := by decide +kernel
theorem d_Ae_encrypt_149 : decode b_Ae_encrypt 149 = .ok (.iadd, 1) := by decide +kernel
theorem d_Ae_encrypt_150 : decode b_Ae_encrypt 150 = .ok (.iaload, 1) := by decide +kernel
theorem d_Ae_encrypt_151 : decode b_Ae_encrypt 151 = .ok (.ixor, 1) := by decide +kernel
theorem d_Ae_encrypt_152 : decode b_Ae_encrypt 152 = .ok (.iastore, 1) := by decide +kernel
theorem d_Ae_encrypt_153 : decode b_Ae_encrypt 153 = .ok (.iinc 4 1, 3) := by decide +kernel
theorem d_Ae_encrypt_156 : decode b_Ae_encrypt 156 = .ok (.goto (-37), 3) := by decide +kernel
theorem d_Ae_encrypt_159 : decode b_Ae_encrypt 159 = .ok (.iinc 3 1, 3) := by decide +kernel
theorem d_Ae_encrypt_162 : decode b_Ae_encrypt 162 = .ok (.goto (-110), 3) := by decide +kernel
theorem d_Ae_encrypt_165 : decode b_Ae_encrypt 165 = .ok (.iconst 0, 1) := by decide +kernel
theorem d_Ae_encrypt_166 : decode b_Ae_encrypt 166 = .ok (.istore_n 3, 1) := by decide +kernel
theorem d_Ae_encrypt_167 : decode b_Ae_encrypt 167 = .ok (.iload_n 3, 1) := by decide +kernel
theorem d_Ae_encrypt_168 : decode b_Ae_encrypt 168 = .ok (.bipush 16, 2) := by decide +kernel
theorem d_Ae_encrypt_170 : decode b_Ae_encrypt 170 = .ok (.if_icmp .ge 21, 3) := by decide +kernel
theorem d_Ae_encrypt_173 : decode b_Ae_encrypt 173 = .ok (.aload_n 1, 1) := by decide +kernel
theorem d_Ae_encrypt_174 : decode b_Ae_encrypt 174 = .ok (.iload_n 2, 1) := by decide +kernel
theorem d_Ae_encrypt_175 : decode b_Ae_encrypt 175 = .ok (.iload_n 3, 1) := by decide +kernel
theorem d_Ae_encrypt_176 : decode b_Ae_encrypt 176 = .ok (.iadd, 1) := by decide +kernel
theorem d_Ae_encrypt_177 : decode b_Ae_encrypt 177 = .ok (.aload_n 0, 1) := by decide +kernel
theorem d_Ae_encrypt_178 : decode b_Ae_encrypt 178 = .ok (.getfield 19, 3) := by decide +kernel
theorem d_Ae_encrypt_181 : decode b_Ae_encrypt 181 = .ok (.iload_n 3, 1) := by decide +kernel
theorem d_Ae_encrypt_182 : decode b_Ae_encrypt 182 = .ok (.iaload, 1) := by decide +kernel
theorem d_Ae_encrypt_183 : decode b_Ae_encrypt 183 = .ok (.i2b, 1) := by decide +kernel
theorem d_Ae_encrypt_184 : decode b_Ae_encrypt 184 = .ok (.bastore, 1) := by decide +kernel
theorem d_Ae_encrypt_185 : decode b_Ae_encrypt 185 = .ok (.iinc 3 1, 3) := by decide +kernel
theorem d_Ae_encrypt_188 : decode b_Ae_encrypt 188 = .ok (.goto (-21), 3) := by decide +kernel
theorem d_Ae_encrypt_191 : decode b_Ae_encrypt 191 = .ok (.return_, 1) := by decide +kernel
abbrev b_Ae_decrypt : ByteArray := prog_2_method_4_code
def y_Ae_decrypt : MethodName := ⟨R_Ae, "decrypt", "([BI)V"⟩
abbrev k_Ae_decrypt : Cond := .code y_Ae_decrypt b_Ae_decrypt 5 none
theorem ki_Ae_decrypt : k_Ae_decrypt ∈ lw_tg := in_t 1024 (by decide +kernel)
theorem ks_Ae_decrypt : Cond.instanceMethod y_Ae_decrypt ∈ lw_tg := in_t 1022 (by decide +kernel)
theorem kx_Ae_decrypt : Cond.selects R_Ae y_Ae_decrypt y_Ae_decrypt ∈ lw_tg := in_t 1023 (by decide +kernel)
theorem kl_Ae_Ae_decrypt : Cond.methodLink R_Ae 56 y_Ae_decrypt ∈ lw_tg := in_t 1021 (by decide +kernel)
theorem hd_Ae_decrypt : y_Ae_decrypt.cls = R_Ae ∧ y_Ae_decrypt.cls ≠ "java/lang/invoke/MethodHandle" ∧ y_Ae_decrypt.cls ≠ "java/lang/invoke/VarHandle" ∧ (parseMethodDescriptor y_Ae_decrypt.desc).map (fun d => d.parameters.length) = some 2 := by decide +kernel
theorem d_Ae_decrypt_0 : decode b_Ae_decrypt 0 = .ok (.iload_n 2, 1) := by decide +kernel
theorem d_Ae_decrypt_1 : decode b_Ae_decrypt 1 = .ok (.ifCond .lt 12, 3) := by decide +kernel
theorem d_Ae_decrypt_4 : decode b_Ae_decrypt 4 = .ok (.iload_n 2, 1) := by decide +kernel
theorem d_Ae_decrypt_5 : decode b_Ae_decrypt 5 = .ok (.aload_n 1, 1) := by decide +kernel
theorem d_Ae_decrypt_6 : decode b_Ae_decrypt 6 = .ok (.arraylength, 1) := by decide +kernel
theorem d_Ae_decrypt_7 : decode b_Ae_decrypt 7 = .ok (.bipush 16, 2) := by decide +kernel
theorem d_Ae_decrypt_9 : decode b_Ae_decrypt 9 = .ok (.isub, 1) := by decide +kernel
theorem d_Ae_decrypt_10 : decode b_Ae_decrypt 10 = .ok (.if_icmp .le 4, 3) := by decide +kernel
theorem d_Ae_decrypt_13 : decode b_Ae_decrypt 13 = .ok (.return_, 1) := by decide +kernel
theorem d_Ae_decrypt_14 : decode b_Ae_decrypt 14 = .ok (.iconst 0, 1) := by decide +kernel
theorem d_Ae_decrypt_15 : decode b_Ae_decrypt 15 = .ok (.istore_n 3, 1) := by decide +kernel
theorem d_Ae_decrypt_16 : decode b_Ae_decrypt 16 = .ok (.iload_n 3, 1) := by decide +kernel
theorem d_Ae_decrypt_17 : decode b_Ae_decrypt 17 = .ok (.bipush 16, 2) := by decide +kernel
theorem d_Ae_decrypt_19 : decode b_Ae_decrypt 19 = .ok (.if_icmp .ge 39, 3) := by decide +kernel
theorem d_Ae_decrypt_22 : decode b_Ae_decrypt 22 = .ok (.aload_n 0, 1) := by decide +kernel
theorem d_Ae_decrypt_23 : decode b_Ae_decrypt 23 = .ok (.getfield 19, 3) := by decide +kernel
theorem d_Ae_decrypt_26 : decode b_Ae_decrypt 26 = .ok (.iload_n 3, 1) := by decide +kernel
theorem d_Ae_decrypt_27 : decode b_Ae_decrypt 27 = .ok (.aload_n 1, 1) := by decide +kernel
theorem d_Ae_decrypt_28 : decode b_Ae_decrypt 28 = .ok (.iload_n 2, 1) := by decide +kernel
theorem d_Ae_decrypt_29 : decode b_Ae_decrypt 29 = .ok (.iload_n 3, 1) := by decide +kernel
theorem d_Ae_decrypt_30 : decode b_Ae_decrypt 30 = .ok (.iadd, 1) := by decide +kernel
theorem d_Ae_decrypt_31 : decode b_Ae_decrypt 31 = .ok (.baload, 1) := by decide +kernel
theorem d_Ae_decrypt_32 : decode b_Ae_decrypt 32 = .ok (.sipush 255, 3) := by decide +kernel
theorem d_Ae_decrypt_35 : decode b_Ae_decrypt 35 = .ok (.iand, 1) := by decide +kernel
theorem d_Ae_decrypt_36 : decode b_Ae_decrypt 36 = .ok (.aload_n 0, 1) := by decide +kernel
theorem d_Ae_decrypt_37 : decode b_Ae_decrypt 37 = .ok (.getfield 16, 3) := by decide +kernel
theorem d_Ae_decrypt_40 : decode b_Ae_decrypt 40 = .ok (.bipush 16, 2) := by decide +kernel
theorem d_Ae_decrypt_42 : decode b_Ae_decrypt 42 = .ok (.aload_n 0, 1) := by decide +kernel
theorem d_Ae_decrypt_43 : decode b_Ae_decrypt 43 = .ok (.getfield 32, 3) := by decide +kernel
theorem d_Ae_decrypt_46 : decode b_Ae_decrypt 46 = .ok (.imul, 1) := by decide +kernel
theorem d_Ae_decrypt_47 : decode b_Ae_decrypt 47 = .ok (.iload_n 3, 1) := by decide +kernel
theorem d_Ae_decrypt_48 : decode b_Ae_decrypt 48 = .ok (.iadd, 1) := by decide +kernel
theorem d_Ae_decrypt_49 : decode b_Ae_decrypt 49 = .ok (.iaload, 1) := by decide +kernel
theorem d_Ae_decrypt_50 : decode b_Ae_decrypt 50 = .ok (.ixor, 1) := by decide +kernel
theorem d_Ae_decrypt_51 : decode b_Ae_decrypt 51 = .ok (.iastore, 1) := by decide +kernel
theorem d_Ae_decrypt_52 : decode b_Ae_decrypt 52 = .ok (.iinc 3 1, 3) := by decide +kernel
theorem d_Ae_decrypt_55 : decode b_Ae_decrypt 55 = .ok (.goto (-39), 3) := by decide +kernel
theorem d_Ae_decrypt_58 : decode b_Ae_decrypt 58 = .ok (.aload_n 0, 1) := by decide +kernel
theorem d_Ae_decrypt_59 : decode b_Ae_decrypt 59 = .ok (.getfield 32, 3) := by decide +kernel
theorem d_Ae_decrypt_62 : decode b_Ae_decrypt 62 = .ok (.iconst 1, 1) := by decide +kernel
theorem d_Ae_decrypt_63 : decode b_Ae_decrypt 63 = .ok (.isub, 1) := by decide +kernel
theorem d_Ae_decrypt_64 : decode b_Ae_decrypt 64 = .ok (.istore_n 3, 1) := by decide +kernel
theorem d_Ae_decrypt_65 : decode b_Ae_decrypt 65 = .ok (.iload_n 3, 1) := by decide +kernel
theorem d_Ae_decrypt_66 : decode b_Ae_decrypt 66 = .ok (.ifCond .lt 94, 3) := by decide +kernel
theorem d_Ae_decrypt_69 : decode b_Ae_decrypt 69 = .ok (.iconst 0, 1) := by decide +kernel
theorem d_Ae_decrypt_70 : decode b_Ae_decrypt 70 = .ok (.istore 4, 2) := by decide +kernel
theorem d_Ae_decrypt_72 : decode b_Ae_decrypt 72 = .ok (.iload 4, 2) := by decide +kernel
theorem d_Ae_decrypt_74 : decode b_Ae_decrypt 74 = .ok (.bipush 16, 2) := by decide +kernel
theorem d_Ae_decrypt_76 : decode b_Ae_decrypt 76 = .ok (.if_icmp .ge 51, 3) := by decide +kernel
theorem d_Ae_decrypt_79 : decode b_Ae_decrypt 79 = .ok (.aload_n 0, 1) := by decide +kernel
theorem d_Ae_decrypt_80 : decode b_Ae_decrypt 80 = .ok (.getfield 22, 3) := by decide +kernel
theorem d_Ae_decrypt_83 : decode b_Ae_decrypt 83 = .ok (.iload 4, 2) := by decide +kernel
theorem d_Ae_decrypt_85 : decode b_Ae_decrypt 85 = .ok (.aload_n 0, 1) := by decide +kernel
theorem d_Ae_decrypt_86 : decode b_Ae_decrypt 86 = .ok (.getfield 7, 3) := by decide +kernel
theorem d_Ae_decrypt_89 : decode b_Ae_decrypt 89 = .ok (.aload_n 0, 1) := by decide +kernel
theorem d_Ae_decrypt_90 : decode b_Ae_decrypt 90 = .ok (.getfield 19, 3) := by decide +kernel
theorem d_Ae_decrypt_93 : decode b_Ae_decrypt 93 = .ok (.iload 4, 2) := by decide +kernel
theorem d_Ae_decrypt_95 : decode b_Ae_decrypt 95 = .ok (.iconst 4, 1) := by decide +kernel
theorem d_Ae_decrypt_96 : decode b_Ae_decrypt 96 = .ok (.iload 4, 2) := by decide +kernel
theorem d_Ae_decrypt_98 : decode b_Ae_decrypt 98 = .ok (.iconst 3, 1) := by decide +kernel
theorem d_Ae_decrypt_99 : decode b_Ae_decrypt 99 = .ok (.iand, 1) := by decide +kernel
theorem d_Ae_decrypt_100 : decode b_Ae_decrypt 100 = .ok (.imul, 1) := by decide +kernel
theorem d_Ae_decrypt_101 : decode b_Ae_decrypt 101 = .ok (.isub, 1) := by decide +kernel
theorem d_Ae_decrypt_102 : decode b_Ae_decrypt 102 = .ok (.bipush 15, 2) := by decide +kernel
theorem d_Ae_decrypt_104 : decode b_Ae_decrypt 104 = .ok (.iand, 1) := by decide +kernel
theorem d_Ae_decrypt_105 : decode b_Ae_decrypt 105 = .ok (.iaload, 1) := by decide +kernel
theorem d_Ae_decrypt_106 : decode b_Ae_decrypt 106 = .ok (.iaload, 1) := by decide +kernel
theorem d_Ae_decrypt_107 : decode b_Ae_decrypt 107 = .ok (.aload_n 0, 1) := by decide +kernel
theorem d_Ae_decrypt_108 : decode b_Ae_decrypt 108 = .ok (.getfield 16, 3) := by decide +kernel
theorem d_Ae_decrypt_111 : decode b_Ae_decrypt 111 = .ok (.bipush 16, 2) := by decide +kernel
theorem d_Ae_decrypt_113 : decode b_Ae_decrypt 113 = .ok (.iload_n 3, 1) := by decide +kernel
theorem d_Ae_decrypt_114 : decode b_Ae_decrypt 114 = .ok (.imul, 1) := by decide +kernel
theorem d_Ae_decrypt_115 : decode b_Ae_decrypt 115 = .ok (.iload 4, 2) := by decide +kernel
theorem d_Ae_decrypt_117 : decode b_Ae_decrypt 117 = .ok (.iadd, 1) := by decide +kernel
theorem d_Ae_decrypt_118 : decode b_Ae_decrypt 118 = .ok (.iaload, 1) := by decide +kernel
theorem d_Ae_decrypt_119 : decode b_Ae_decrypt 119 = .ok (.ixor, 1) := by decide +kernel
theorem d_Ae_decrypt_120 : decode b_Ae_decrypt 120 = .ok (.iastore, 1) := by decide +kernel
theorem d_Ae_decrypt_121 : decode b_Ae_decrypt 121 = .ok (.iinc 4 1, 3) := by decide +kernel
theorem d_Ae_decrypt_124 : decode b_Ae_decrypt 124 = .ok (.goto (-52), 3) := by decide +kernel
theorem d_Ae_decrypt_127 : decode b_Ae_decrypt 127 = .ok (.iload_n 3, 1) := by decide +kernel
theorem d_Ae_decrypt_128 : decode b_Ae_decrypt 128 = .ok (.ifCond .le 11, 3) := by decide +kernel
theorem d_Ae_decrypt_131 : decode b_Ae_decrypt 131 = .ok (.aload_n 0, 1) := by decide +kernel
theorem d_Ae_decrypt_132 : decode b_Ae_decrypt 132 = .ok (.invokevirtual 39, 3) := by decide +kernel
theorem d_Ae_decrypt_135 : decode b_Ae_decrypt 135 = .ok (.aload_n 0, 1) := by decide +kernel
theorem d_Ae_decrypt_136 : decode b_Ae_decrypt 136 = .ok (.invokevirtual 36, 3) := by decide +kernel
theorem d_Ae_decrypt_139 : decode b_Ae_decrypt 139 = .ok (.aload_n 0, 1) := by decide +kernel
theorem d_Ae_decrypt_140 : decode b_Ae_decrypt 140 = .ok (.getfield 22, 3) := by decide +kernel
theorem d_Ae_decrypt_143 : decode b_Ae_decrypt 143 = .ok (.iconst 0, 1) := by decide +kernel
theorem d_Ae_decrypt_144 : decode b_Ae_decrypt 144 = .ok (.aload_n 0, 1) := by decide +kernel
theorem d_Ae_decrypt_145 : decode b_Ae_decrypt 145 = .ok (.getfield 19, 3) := by decide +kernel
theorem d_Ae_decrypt_148 : decode b_Ae_decrypt 148 = .ok (.iconst 0, 1) := by decide +kernel
theorem d_Ae_decrypt_149 : decode b_Ae_decrypt 149 = .ok (.bipush 16, 2) := by decide +kernel
theorem d_Ae_decrypt_151 : decode b_Ae_decrypt 151 = .ok (.invokestatic 42, 3) := by decide +kernel
theorem d_Ae_decrypt_154 : decode b_Ae_decrypt 154 = .ok (.iinc 3 (-1), 3) := by decide +kernel
theorem d_Ae_decrypt_157 : decode b_Ae_decrypt 157 = .ok (.goto (-92), 3) := by decide +kernel
theorem d_Ae_decrypt_160 : decode b_Ae_decrypt 160 = .ok (.iconst 0, 1) := by decide +kernel
theorem d_Ae_decrypt_161 : decode b_Ae_decrypt 161 = .ok (.istore_n 3, 1) := by decide +kernel
theorem d_Ae_decrypt_162 : decode b_Ae_decrypt 162 = .ok (.iload_n 3, 1) := by decide +kernel
theorem d_Ae_decrypt_163 : decode b_Ae_decrypt 163 = .ok (.bipush 16, 2) := by decide +kernel
theorem d_Ae_decrypt_165 : decode b_Ae_decrypt 165 = .ok (.if_icmp .ge 21, 3) := by decide +kernel
theorem d_Ae_decrypt_168 : decode b_Ae_decrypt 168 = .ok (.aload_n 1, 1) := by decide +kernel
theorem d_Ae_decrypt_169 : decode b_Ae_decrypt 169 = .ok (.iload_n 2, 1) := by decide +kernel
theorem d_Ae_decrypt_170 : decode b_Ae_decrypt 170 = .ok (.iload_n 3, 1) := by decide +kernel
theorem d_Ae_decrypt_171 : decode b_Ae_decrypt 171 = .ok (.iadd, 1) := by decide +kernel
theorem d_Ae_decrypt_172 : decode b_Ae_decrypt 172 = .ok (.aload_n 0, 1) := by decide +kernel
theorem d_Ae_decrypt_173 : decode b_Ae_decrypt 173 = .ok (.getfield 19, 3) := by decide +kernel
theorem d_Ae_decrypt_176 : decode b_Ae_decrypt 176 = .ok (.iload_n 3, 1) := by decide +kernel
theorem d_Ae_decrypt_177 : decode b_Ae_decrypt 177 = .ok (.iaload, 1) := by decide +kernel
theorem d_Ae_decrypt_178 : decode b_Ae_decrypt 178 = .ok (.i2b, 1) := by decide +kernel
theorem d_Ae_decrypt_179 : decode b_Ae_decrypt 179 = .ok (.bastore, 1) := by decide +kernel
theorem d_Ae_decrypt_180 : decode b_Ae_decrypt 180 = .ok (.iinc 3 1, 3) := by decide +kernel
theorem d_Ae_decrypt_183 : decode b_Ae_decrypt 183 = .ok (.goto (-21), 3) := by decide +kernel
theorem d_Ae_decrypt_186 : decode b_Ae_decrypt 186 = .ok (.return_, 1) := by decide +kernel
abbrev b_Ae_mix : ByteArray := prog_2_method_5_code
def y_Ae_mix : MethodName := ⟨R_Ae, "mix", "()V"⟩
abbrev k_Ae_mix : Cond := .code y_Ae_mix b_Ae_mix 7 none
theorem ki_Ae_mix : k_Ae_mix ∈ lw_tg := in_t 651 (by decide +kernel)
theorem ks_Ae_mix : Cond.instanceMethod y_Ae_mix ∈ lw_tg := in_t 650 (by decide +kernel)
theorem kx_Ae_mix : Cond.selects R_Ae y_Ae_mix y_Ae_mix ∈ lw_tg := List.mem_filter.mpr ⟨List.mem_append_left _ (List.mem_of_getElem? (i := 5) (by decide +kernel)), rfl⟩
theorem kl_Ae_Ae_mix : Cond.methodLink R_Ae 36 y_Ae_mix ∈ lw_tg := in_t 648 (by decide +kernel)
theorem hd_Ae_mix : y_Ae_mix.cls = R_Ae ∧ y_Ae_mix.cls ≠ "java/lang/invoke/MethodHandle" ∧ y_Ae_mix.cls ≠ "java/lang/invoke/VarHandle" ∧ (parseMethodDescriptor y_Ae_mix.desc).map (fun d => d.parameters.length) = some 0 := by decide +kernel
theorem d_Ae_mix_0 : decode b_Ae_mix 0 = .ok (.iconst 0, 1) := by decide +kernel
theorem d_Ae_mix_1 : decode b_Ae_mix 1 = .ok (.istore_n 1, 1) := by decide +kernel
theorem d_Ae_mix_2 : decode b_Ae_mix 2 = .ok (.iload_n 1, 1) := by decide +kernel
theorem d_Ae_mix_3 : decode b_Ae_mix 3 = .ok (.bipush 16, 2) := by decide +kernel
theorem d_Ae_mix_5 : decode b_Ae_mix 5 = .ok (.if_icmp .ge 144, 3) := by decide +kernel
theorem d_Ae_mix_8 : decode b_Ae_mix 8 = .ok (.aload_n 0, 1) := by decide +kernel
theorem d_Ae_mix_9 : decode b_Ae_mix 9 = .ok (.getfield 22, 3) := by decide +kernel
theorem d_Ae_mix_12 : decode b_Ae_mix 12 = .ok (.iload_n 1, 1) := by decide +kernel
theorem d_Ae_mix_13 : decode b_Ae_mix 13 = .ok (.iaload, 1) := by decide +kernel
theorem d_Ae_mix_14 : decode b_Ae_mix 14 = .ok (.istore_n 2, 1) := by decide +kernel
theorem d_Ae_mix_15 : decode b_Ae_mix 15 = .ok (.aload_n 0, 1) := by decide +kernel
theorem d_Ae_mix_16 : decode b_Ae_mix 16 = .ok (.getfield 22, 3) := by decide +kernel
theorem d_Ae_mix_19 : decode b_Ae_mix 19 = .ok (.iload_n 1, 1) := by decide +kernel
theorem d_Ae_mix_20 : decode b_Ae_mix 20 = .ok (.iconst 1, 1) := by decide +kernel
theorem d_Ae_mix_21 : decode b_Ae_mix 21 = .ok (.iadd, 1) := by decide +kernel
theorem d_Ae_mix_22 : decode b_Ae_mix 22 = .ok (.iaload, 1) := by decide +kernel
theorem d_Ae_mix_23 : decode b_Ae_mix 23 = .ok (.istore_n 3, 1) := by decide +kernel
theorem d_Ae_mix_24 : decode b_Ae_mix 24 = .ok (.aload_n 0, 1) := by decide +kernel
theorem d_Ae_mix_25 : decode b_Ae_mix 25 = .ok (.getfield 22, 3) := by decide +kernel
theorem d_Ae_mix_28 : decode b_Ae_mix 28 = .ok (.iload_n 1, 1) := by decide +kernel
theorem d_Ae_mix_29 : decode b_Ae_mix 29 = .ok (.iconst 2, 1) := by decide +kernel
theorem d_Ae_mix_30 : decode b_Ae_mix 30 = .ok (.iadd, 1) := by decide +kernel
theorem d_Ae_mix_31 : decode b_Ae_mix 31 = .ok (.iaload, 1) := by decide +kernel
theorem d_Ae_mix_32 : decode b_Ae_mix 32 = .ok (.istore 4, 2) := by decide +kernel
theorem d_Ae_mix_34 : decode b_Ae_mix 34 = .ok (.aload_n 0, 1) := by decide +kernel
theorem d_Ae_mix_35 : decode b_Ae_mix 35 = .ok (.getfield 22, 3) := by decide +kernel
theorem d_Ae_mix_38 : decode b_Ae_mix 38 = .ok (.iload_n 1, 1) := by decide +kernel
theorem d_Ae_mix_39 : decode b_Ae_mix 39 = .ok (.iconst 3, 1) := by decide +kernel
theorem d_Ae_mix_40 : decode b_Ae_mix 40 = .ok (.iadd, 1) := by decide +kernel
theorem d_Ae_mix_41 : decode b_Ae_mix 41 = .ok (.iaload, 1) := by decide +kernel
theorem d_Ae_mix_42 : decode b_Ae_mix 42 = .ok (.istore 5, 2) := by decide +kernel
theorem d_Ae_mix_44 : decode b_Ae_mix 44 = .ok (.iload_n 2, 1) := by decide +kernel
theorem d_Ae_mix_45 : decode b_Ae_mix 45 = .ok (.iload_n 3, 1) := by decide +kernel
theorem d_Ae_mix_46 : decode b_Ae_mix 46 = .ok (.ixor, 1) := by decide +kernel
theorem d_Ae_mix_47 : decode b_Ae_mix 47 = .ok (.iload 4, 2) := by decide +kernel
theorem d_Ae_mix_49 : decode b_Ae_mix 49 = .ok (.ixor, 1) := by decide +kernel
theorem d_Ae_mix_50 : decode b_Ae_mix 50 = .ok (.iload 5, 2) := by decide +kernel
theorem d_Ae_mix_52 : decode b_Ae_mix 52 = .ok (.ixor, 1) := by decide +kernel
theorem d_Ae_mix_53 : decode b_Ae_mix 53 = .ok (.istore 6, 2) := by decide +kernel
theorem d_Ae_mix_55 : decode b_Ae_mix 55 = .ok (.aload_n 0, 1) := by decide +kernel
theorem d_Ae_mix_56 : decode b_Ae_mix 56 = .ok (.getfield 22, 3) := by decide +kernel
theorem d_Ae_mix_59 : decode b_Ae_mix 59 = .ok (.iload_n 1, 1) := by decide +kernel
theorem d_Ae_mix_60 : decode b_Ae_mix 60 = .ok (.iload_n 2, 1) := by decide +kernel
theorem d_Ae_mix_61 : decode b_Ae_mix 61 = .ok (.iload 6, 2) := by decide +kernel
theorem d_Ae_mix_63 : decode b_Ae_mix 63 = .ok (.ixor, 1) := by decide +kernel
theorem d_Ae_mix_64 : decode b_Ae_mix 64 = .ok (.aload_n 0, 1) := by decide +kernel
theorem d_Ae_mix_65 : decode b_Ae_mix 65 = .ok (.getfield 13, 3) := by decide +kernel
theorem d_Ae_mix_68 : decode b_Ae_mix 68 = .ok (.iload_n 2, 1) := by decide +kernel
theorem d_Ae_mix_69 : decode b_Ae_mix 69 = .ok (.iload_n 3, 1) := by decide +kernel
theorem d_Ae_mix_70 : decode b_Ae_mix 70 = .ok (.ixor, 1) := by decide +kernel
theorem d_Ae_mix_71 : decode b_Ae_mix 71 = .ok (.iaload, 1) := by decide +kernel
theorem d_Ae_mix_72 : decode b_Ae_mix 72 = .ok (.ixor, 1) := by decide +kernel
theorem d_Ae_mix_73 : decode b_Ae_mix 73 = .ok (.iastore, 1) := by decide +kernel
theorem d_Ae_mix_74 : decode b_Ae_mix 74 = .ok (.aload_n 0, 1) := by decide +kernel
theorem d_Ae_mix_75 : decode b_Ae_mix 75 = .ok (.getfield 22, 3) := by decide +kernel
theorem d_Ae_mix_78 : decode b_Ae_mix 78 = .ok (.iload_n 1, 1) := by decide +kernel
theorem d_Ae_mix_79 : decode b_Ae_mix 79 = .ok (.iconst 1, 1) := by decide +kernel
theorem d_Ae_mix_80 : decode b_Ae_mix 80 = .ok (.iadd, 1) := by decide +kernel
theorem d_Ae_mix_81 : decode b_Ae_mix 81 = .ok (.iload_n 3, 1) := by decide +kernel
theorem d_Ae_mix_82 : decode b_Ae_mix 82 = .ok (.iload 6, 2) := by decide +kernel
theorem d_Ae_mix_84 : decode b_Ae_mix 84 = .ok (.ixor, 1) := by decide +kernel
theorem d_Ae_mix_85 : decode b_Ae_mix 85 = .ok (.aload_n 0, 1) := by decide +kernel
theorem d_Ae_mix_86 : decode b_Ae_mix 86 = .ok (.getfield 13, 3) := by decide +kernel
theorem d_Ae_mix_89 : decode b_Ae_mix 89 = .ok (.iload_n 3, 1) := by decide +kernel
theorem d_Ae_mix_90 : decode b_Ae_mix 90 = .ok (.iload 4, 2) := by decide +kernel
theorem d_Ae_mix_92 : decode b_Ae_mix 92 = .ok (.ixor, 1) := by decide +kernel
theorem d_Ae_mix_93 : decode b_Ae_mix 93 = .ok (.iaload, 1) := by decide +kernel
theorem d_Ae_mix_94 : decode b_Ae_mix 94 = .ok (.ixor, 1) := by decide +kernel
theorem d_Ae_mix_95 : decode b_Ae_mix 95 = .ok (.iastore, 1) := by decide +kernel
theorem d_Ae_mix_96 : decode b_Ae_mix 96 = .ok (.aload_n 0, 1) := by decide +kernel
theorem d_Ae_mix_97 : decode b_Ae_mix 97 = .ok (.getfield 22, 3) := by decide +kernel
theorem d_Ae_mix_100 : decode b_Ae_mix 100 = .ok (.iload_n 1, 1) := by decide +kernel
theorem d_Ae_mix_101 : decode b_Ae_mix 101 = .ok (.iconst 2, 1) := by decide +kernel
theorem d_Ae_mix_102 : decode b_Ae_mix 102 = .ok (.iadd, 1) := by decide +kernel
theorem d_Ae_mix_103 : decode b_Ae_mix 103 = .ok (.iload 4, 2) := by decide +kernel
theorem d_Ae_mix_105 : decode b_Ae_mix 105 = .ok (.iload 6, 2) := by decide +kernel
theorem d_Ae_mix_107 : decode b_Ae_mix 107 = .ok (.ixor, 1) := by decide +kernel
theorem d_Ae_mix_108 : decode b_Ae_mix 108 = .ok (.aload_n 0, 1) := by decide +kernel
theorem d_Ae_mix_109 : decode b_Ae_mix 109 = .ok (.getfield 13, 3) := by decide +kernel
theorem d_Ae_mix_112 : decode b_Ae_mix 112 = .ok (.iload 4, 2) := by decide +kernel
theorem d_Ae_mix_114 : decode b_Ae_mix 114 = .ok (.iload 5, 2) := by decide +kernel
theorem d_Ae_mix_116 : decode b_Ae_mix 116 = .ok (.ixor, 1) := by decide +kernel
theorem d_Ae_mix_117 : decode b_Ae_mix 117 = .ok (.iaload, 1) := by decide +kernel
theorem d_Ae_mix_118 : decode b_Ae_mix 118 = .ok (.ixor, 1) := by decide +kernel
theorem d_Ae_mix_119 : decode b_Ae_mix 119 = .ok (.iastore, 1) := by decide +kernel
theorem d_Ae_mix_120 : decode b_Ae_mix 120 = .ok (.aload_n 0, 1) := by decide +kernel
theorem d_Ae_mix_121 : decode b_Ae_mix 121 = .ok (.getfield 22, 3) := by decide +kernel
theorem d_Ae_mix_124 : decode b_Ae_mix 124 = .ok (.iload_n 1, 1) := by decide +kernel
theorem d_Ae_mix_125 : decode b_Ae_mix 125 = .ok (.iconst 3, 1) := by decide +kernel
theorem d_Ae_mix_126 : decode b_Ae_mix 126 = .ok (.iadd, 1) := by decide +kernel
theorem d_Ae_mix_127 : decode b_Ae_mix 127 = .ok (.iload 5, 2) := by decide +kernel
theorem d_Ae_mix_129 : decode b_Ae_mix 129 = .ok (.iload 6, 2) := by decide +kernel
theorem d_Ae_mix_131 : decode b_Ae_mix 131 = .ok (.ixor, 1) := by decide +kernel
theorem d_Ae_mix_132 : decode b_Ae_mix 132 = .ok (.aload_n 0, 1) := by decide +kernel
theorem d_Ae_mix_133 : decode b_Ae_mix 133 = .ok (.getfield 13, 3) := by decide +kernel
theorem d_Ae_mix_136 : decode b_Ae_mix 136 = .ok (.iload 5, 2) := by decide +kernel
theorem d_Ae_mix_138 : decode b_Ae_mix 138 = .ok (.iload_n 2, 1) := by decide +kernel
theorem d_Ae_mix_139 : decode b_Ae_mix 139 = .ok (.ixor, 1) := by decide +kernel
theorem d_Ae_mix_140 : decode b_Ae_mix 140 = .ok (.iaload, 1) := by decide +kernel
theorem d_Ae_mix_141 : decode b_Ae_mix 141 = .ok (.ixor, 1) := by decide +kernel
theorem d_Ae_mix_142 : decode b_Ae_mix 142 = .ok (.iastore, 1) := by decide +kernel
theorem d_Ae_mix_143 : decode b_Ae_mix 143 = .ok (.iinc 1 4, 3) := by decide +kernel
theorem d_Ae_mix_146 : decode b_Ae_mix 146 = .ok (.goto (-144), 3) := by decide +kernel
theorem d_Ae_mix_149 : decode b_Ae_mix 149 = .ok (.return_, 1) := by decide +kernel
abbrev b_Ae_prepare : ByteArray := prog_2_method_6_code
def y_Ae_prepare : MethodName := ⟨R_Ae, "prepare", "()V"⟩
abbrev k_Ae_prepare : Cond := .code y_Ae_prepare b_Ae_prepare 4 none
theorem ki_Ae_prepare : k_Ae_prepare ∈ lw_tg := in_t 1028 (by decide +kernel)
theorem ks_Ae_prepare : Cond.instanceMethod y_Ae_prepare ∈ lw_tg := in_t 1027 (by decide +kernel)
theorem kx_Ae_prepare : Cond.selects R_Ae y_Ae_prepare y_Ae_prepare ∈ lw_tg := List.mem_filter.mpr ⟨List.mem_append_left _ (List.mem_of_getElem? (i := 21) (by decide +kernel)), rfl⟩
theorem kl_Ae_Ae_prepare : Cond.methodLink R_Ae 39 y_Ae_prepare ∈ lw_tg := in_t 1025 (by decide +kernel)
theorem hd_Ae_prepare : y_Ae_prepare.cls = R_Ae ∧ y_Ae_prepare.cls ≠ "java/lang/invoke/MethodHandle" ∧ y_Ae_prepare.cls ≠ "java/lang/invoke/VarHandle" ∧ (parseMethodDescriptor y_Ae_prepare.desc).map (fun d => d.parameters.length) = some 0 := by decide +kernel
theorem d_Ae_prepare_0 : decode b_Ae_prepare 0 = .ok (.iconst 0, 1) := by decide +kernel
theorem d_Ae_prepare_1 : decode b_Ae_prepare 1 = .ok (.istore_n 1, 1) := by decide +kernel
theorem d_Ae_prepare_2 : decode b_Ae_prepare 2 = .ok (.iload_n 1, 1) := by decide +kernel
theorem d_Ae_prepare_3 : decode b_Ae_prepare 3 = .ok (.bipush 16, 2) := by decide +kernel
theorem d_Ae_prepare_5 : decode b_Ae_prepare 5 = .ok (.if_icmp .ge 109, 3) := by decide +kernel
theorem d_Ae_prepare_8 : decode b_Ae_prepare 8 = .ok (.aload_n 0, 1) := by decide +kernel
theorem d_Ae_prepare_9 : decode b_Ae_prepare 9 = .ok (.getfield 13, 3) := by decide +kernel
theorem d_Ae_prepare_12 : decode b_Ae_prepare 12 = .ok (.aload_n 0, 1) := by decide +kernel
theorem d_Ae_prepare_13 : decode b_Ae_prepare 13 = .ok (.getfield 13, 3) := by decide +kernel
theorem d_Ae_prepare_16 : decode b_Ae_prepare 16 = .ok (.aload_n 0, 1) := by decide +kernel
theorem d_Ae_prepare_17 : decode b_Ae_prepare 17 = .ok (.getfield 22, 3) := by decide +kernel
theorem d_Ae_prepare_20 : decode b_Ae_prepare 20 = .ok (.iload_n 1, 1) := by decide +kernel
theorem d_Ae_prepare_21 : decode b_Ae_prepare 21 = .ok (.iaload, 1) := by decide +kernel
theorem d_Ae_prepare_22 : decode b_Ae_prepare 22 = .ok (.aload_n 0, 1) := by decide +kernel
theorem d_Ae_prepare_23 : decode b_Ae_prepare 23 = .ok (.getfield 22, 3) := by decide +kernel
theorem d_Ae_prepare_26 : decode b_Ae_prepare 26 = .ok (.iload_n 1, 1) := by decide +kernel
theorem d_Ae_prepare_27 : decode b_Ae_prepare 27 = .ok (.iconst 2, 1) := by decide +kernel
theorem d_Ae_prepare_28 : decode b_Ae_prepare 28 = .ok (.iadd, 1) := by decide +kernel
theorem d_Ae_prepare_29 : decode b_Ae_prepare 29 = .ok (.iaload, 1) := by decide +kernel
theorem d_Ae_prepare_30 : decode b_Ae_prepare 30 = .ok (.ixor, 1) := by decide +kernel
theorem d_Ae_prepare_31 : decode b_Ae_prepare 31 = .ok (.iaload, 1) := by decide +kernel
theorem d_Ae_prepare_32 : decode b_Ae_prepare 32 = .ok (.iaload, 1) := by decide +kernel
theorem d_Ae_prepare_33 : decode b_Ae_prepare 33 = .ok (.istore_n 2, 1) := by decide +kernel
theorem d_Ae_prepare_34 : decode b_Ae_prepare 34 = .ok (.aload_n 0, 1) := by decide +kernel
theorem d_Ae_prepare_35 : decode b_Ae_prepare 35 = .ok (.getfield 13, 3) := by decide +kernel
theorem d_Ae_prepare_38 : decode b_Ae_prepare 38 = .ok (.aload_n 0, 1) := by decide +kernel
theorem d_Ae_prepare_39 : decode b_Ae_prepare 39 = .ok (.getfield 13, 3) := by decide +kernel
theorem d_Ae_prepare_42 : decode b_Ae_prepare 42 = .ok (.aload_n 0, 1) := by decide +kernel
theorem d_Ae_prepare_43 : decode b_Ae_prepare 43 = .ok (.getfield 22, 3) := by decide +kernel
theorem d_Ae_prepare_46 : decode b_Ae_prepare 46 = .ok (.iload_n 1, 1) := by decide +kernel
theorem d_Ae_prepare_47 : decode b_Ae_prepare 47 = .ok (.iconst 1, 1) := by decide +kernel
theorem d_Ae_prepare_48 : decode b_Ae_prepare 48 = .ok (.iadd, 1) := by decide +kernel
theorem d_Ae_prepare_49 : decode b_Ae_prepare 49 = .ok (.iaload, 1) := by decide +kernel
theorem d_Ae_prepare_50 : decode b_Ae_prepare 50 = .ok (.aload_n 0, 1) := by decide +kernel
theorem d_Ae_prepare_51 : decode b_Ae_prepare 51 = .ok (.getfield 22, 3) := by decide +kernel
theorem d_Ae_prepare_54 : decode b_Ae_prepare 54 = .ok (.iload_n 1, 1) := by decide +kernel
theorem d_Ae_prepare_55 : decode b_Ae_prepare 55 = .ok (.iconst 3, 1) := by decide +kernel
theorem d_Ae_prepare_56 : decode b_Ae_prepare 56 = .ok (.iadd, 1) := by decide +kernel
theorem d_Ae_prepare_57 : decode b_Ae_prepare 57 = .ok (.iaload, 1) := by decide +kernel
theorem d_Ae_prepare_58 : decode b_Ae_prepare 58 = .ok (.ixor, 1) := by decide +kernel
theorem d_Ae_prepare_59 : decode b_Ae_prepare 59 = .ok (.iaload, 1) := by decide +kernel
theorem d_Ae_prepare_60 : decode b_Ae_prepare 60 = .ok (.iaload, 1) := by decide +kernel
theorem d_Ae_prepare_61 : decode b_Ae_prepare 61 = .ok (.istore_n 3, 1) := by decide +kernel
theorem d_Ae_prepare_62 : decode b_Ae_prepare 62 = .ok (.aload_n 0, 1) := by decide +kernel
theorem d_Ae_prepare_63 : decode b_Ae_prepare 63 = .ok (.getfield 22, 3) := by decide +kernel
theorem d_Ae_prepare_66 : decode b_Ae_prepare 66 = .ok (.iload_n 1, 1) := by decide +kernel
theorem d_Ae_prepare_67 : decode b_Ae_prepare 67 = .ok (.dup2, 1) := by decide +kernel
theorem d_Ae_prepare_68 : decode b_Ae_prepare 68 = .ok (.iaload, 1) := by decide +kernel
theorem d_Ae_prepare_69 : decode b_Ae_prepare 69 = .ok (.iload_n 2, 1) := by decide +kernel
theorem d_Ae_prepare_70 : decode b_Ae_prepare 70 = .ok (.ixor, 1) := by decide +kernel
theorem d_Ae_prepare_71 : decode b_Ae_prepare 71 = .ok (.iastore, 1) := by decide +kernel
theorem d_Ae_prepare_72 : decode b_Ae_prepare 72 = .ok (.aload_n 0, 1) := by decide +kernel
theorem d_Ae_prepare_73 : decode b_Ae_prepare 73 = .ok (.getfield 22, 3) := by decide +kernel
theorem d_Ae_prepare_76 : decode b_Ae_prepare 76 = .ok (.iload_n 1, 1) := by decide +kernel
theorem d_Ae_prepare_77 : decode b_Ae_prepare 77 = .ok (.iconst 1, 1) := by decide +kernel
theorem d_Ae_prepare_78 : decode b_Ae_prepare 78 = .ok (.iadd, 1) := by decide +kernel
theorem d_Ae_prepare_79 : decode b_Ae_prepare 79 = .ok (.dup2, 1) := by decide +kernel
theorem d_Ae_prepare_80 : decode b_Ae_prepare 80 = .ok (.iaload, 1) := by decide +kernel
theorem d_Ae_prepare_81 : decode b_Ae_prepare 81 = .ok (.iload_n 3, 1) := by decide +kernel
theorem d_Ae_prepare_82 : decode b_Ae_prepare 82 = .ok (.ixor, 1) := by decide +kernel
theorem d_Ae_prepare_83 : decode b_Ae_prepare 83 = .ok (.iastore, 1) := by decide +kernel
theorem d_Ae_prepare_84 : decode b_Ae_prepare 84 = .ok (.aload_n 0, 1) := by decide +kernel
theorem d_Ae_prepare_85 : decode b_Ae_prepare 85 = .ok (.getfield 22, 3) := by decide +kernel
theorem d_Ae_prepare_88 : decode b_Ae_prepare 88 = .ok (.iload_n 1, 1) := by decide +kernel
theorem d_Ae_prepare_89 : decode b_Ae_prepare 89 = .ok (.iconst 2, 1) := by decide +kernel
theorem d_Ae_prepare_90 : decode b_Ae_prepare 90 = .ok (.iadd, 1) := by decide +kernel
theorem d_Ae_prepare_91 : decode b_Ae_prepare 91 = .ok (.dup2, 1) := by decide +kernel
theorem d_Ae_prepare_92 : decode b_Ae_prepare 92 = .ok (.iaload, 1) := by decide +kernel
theorem d_Ae_prepare_93 : decode b_Ae_prepare 93 = .ok (.iload_n 2, 1) := by decide +kernel
theorem d_Ae_prepare_94 : decode b_Ae_prepare 94 = .ok (.ixor, 1) := by decide +kernel
theorem d_Ae_prepare_95 : decode b_Ae_prepare 95 = .ok (.iastore, 1) := by decide +kernel
theorem d_Ae_prepare_96 : decode b_Ae_prepare 96 = .ok (.aload_n 0, 1) := by decide +kernel
theorem d_Ae_prepare_97 : decode b_Ae_prepare 97 = .ok (.getfield 22, 3) := by decide +kernel
theorem d_Ae_prepare_100 : decode b_Ae_prepare 100 = .ok (.iload_n 1, 1) := by decide +kernel
theorem d_Ae_prepare_101 : decode b_Ae_prepare 101 = .ok (.iconst 3, 1) := by decide +kernel
theorem d_Ae_prepare_102 : decode b_Ae_prepare 102 = .ok (.iadd, 1) := by decide +kernel
theorem d_Ae_prepare_103 : decode b_Ae_prepare 103 = .ok (.dup2, 1) := by decide +kernel
theorem d_Ae_prepare_104 : decode b_Ae_prepare 104 = .ok (.iaload, 1) := by decide +kernel
theorem d_Ae_prepare_105 : decode b_Ae_prepare 105 = .ok (.iload_n 3, 1) := by decide +kernel
theorem d_Ae_prepare_106 : decode b_Ae_prepare 106 = .ok (.ixor, 1) := by decide +kernel
theorem d_Ae_prepare_107 : decode b_Ae_prepare 107 = .ok (.iastore, 1) := by decide +kernel
theorem d_Ae_prepare_108 : decode b_Ae_prepare 108 = .ok (.iinc 1 4, 3) := by decide +kernel
theorem d_Ae_prepare_111 : decode b_Ae_prepare 111 = .ok (.goto (-109), 3) := by decide +kernel
theorem d_Ae_prepare_114 : decode b_Ae_prepare 114 = .ok (.return_, 1) := by decide +kernel
abbrev b_Ae_lock : ByteArray := prog_2_method_7_code
def y_Ae_lock : MethodName := ⟨R_Ae, "lock", "([BII)V"⟩
abbrev k_Ae_lock : Cond := .code y_Ae_lock b_Ae_lock 6 none
theorem ki_Ae_lock : k_Ae_lock ∈ lw_tg := in_t 1331 (by decide +kernel)
theorem ks_Ae_lock : Cond.instanceMethod y_Ae_lock ∈ lw_tg := in_t 1329 (by decide +kernel)
theorem kx_Ae_lock : Cond.selects R_Ae y_Ae_lock y_Ae_lock ∈ lw_tg := in_t 1330 (by decide +kernel)
theorem kl_Va_Ae_lock : Cond.methodLink R_Va 190 y_Ae_lock ∈ lw_tg := in_t 1328 (by decide +kernel)
theorem hd_Ae_lock : y_Ae_lock.cls = R_Ae ∧ y_Ae_lock.cls ≠ "java/lang/invoke/MethodHandle" ∧ y_Ae_lock.cls ≠ "java/lang/invoke/VarHandle" ∧ (parseMethodDescriptor y_Ae_lock.desc).map (fun d => d.parameters.length) = some 3 := by decide +kernel
theorem d_Ae_lock_0 : decode b_Ae_lock 0 = .ok (.iload_n 3, 1) := by decide +kernel
theorem d_Ae_lock_1 : decode b_Ae_lock 1 = .ok (.bipush 15, 2) := by decide +kernel
theorem d_Ae_lock_3 : decode b_Ae_lock 3 = .ok (.iadd, 1) := by decide +kernel
theorem d_Ae_lock_4 : decode b_Ae_lock 4 = .ok (.bipush 16, 2) := by decide +kernel
theorem d_Ae_lock_6 : decode b_Ae_lock 6 = .ok (.idiv, 1) := by decide +kernel
theorem d_Ae_lock_7 : decode b_Ae_lock 7 = .ok (.istore 4, 2) := by decide +kernel
theorem d_Ae_lock_9 : decode b_Ae_lock 9 = .ok (.iload_n 2, 1) := by decide +kernel
theorem d_Ae_lock_10 : decode b_Ae_lock 10 = .ok (.ifCond .lt 21, 3) := by decide +kernel
theorem d_Ae_lock_13 : decode b_Ae_lock 13 = .ok (.iload_n 3, 1) := by decide +kernel
theorem d_Ae_lock_14 : decode b_Ae_lock 14 = .ok (.bipush 16, 2) := by decide +kernel
theorem d_Ae_lock_16 : decode b_Ae_lock 16 = .ok (.if_icmp .lt 15, 3) := by decide +kernel
theorem d_Ae_lock_19 : decode b_Ae_lock 19 = .ok (.bipush 16, 2) := by decide +kernel
theorem d_Ae_lock_21 : decode b_Ae_lock 21 = .ok (.iload 4, 2) := by decide +kernel
theorem d_Ae_lock_23 : decode b_Ae_lock 23 = .ok (.imul, 1) := by decide +kernel
theorem d_Ae_lock_24 : decode b_Ae_lock 24 = .ok (.aload_n 1, 1) := by decide +kernel
theorem d_Ae_lock_25 : decode b_Ae_lock 25 = .ok (.arraylength, 1) := by decide +kernel
theorem d_Ae_lock_26 : decode b_Ae_lock 26 = .ok (.iload_n 2, 1) := by decide +kernel
theorem d_Ae_lock_27 : decode b_Ae_lock 27 = .ok (.isub, 1) := by decide +kernel
theorem d_Ae_lock_28 : decode b_Ae_lock 28 = .ok (.if_icmp .le 4, 3) := by decide +kernel
theorem d_Ae_lock_31 : decode b_Ae_lock 31 = .ok (.return_, 1) := by decide +kernel
theorem d_Ae_lock_32 : decode b_Ae_lock 32 = .ok (.iload_n 2, 1) := by decide +kernel
theorem d_Ae_lock_33 : decode b_Ae_lock 33 = .ok (.iload_n 3, 1) := by decide +kernel
theorem d_Ae_lock_34 : decode b_Ae_lock 34 = .ok (.iadd, 1) := by decide +kernel
theorem d_Ae_lock_35 : decode b_Ae_lock 35 = .ok (.istore 5, 2) := by decide +kernel
theorem d_Ae_lock_37 : decode b_Ae_lock 37 = .ok (.iload 5, 2) := by decide +kernel
theorem d_Ae_lock_39 : decode b_Ae_lock 39 = .ok (.iload_n 2, 1) := by decide +kernel
theorem d_Ae_lock_40 : decode b_Ae_lock 40 = .ok (.bipush 16, 2) := by decide +kernel
theorem d_Ae_lock_42 : decode b_Ae_lock 42 = .ok (.iload 4, 2) := by decide +kernel
theorem d_Ae_lock_44 : decode b_Ae_lock 44 = .ok (.imul, 1) := by decide +kernel
theorem d_Ae_lock_45 : decode b_Ae_lock 45 = .ok (.iadd, 1) := by decide +kernel
theorem d_Ae_lock_46 : decode b_Ae_lock 46 = .ok (.if_icmp .ge 14, 3) := by decide +kernel
theorem d_Ae_lock_49 : decode b_Ae_lock 49 = .ok (.aload_n 1, 1) := by decide +kernel
theorem d_Ae_lock_50 : decode b_Ae_lock 50 = .ok (.iload 5, 2) := by decide +kernel
theorem d_Ae_lock_52 : decode b_Ae_lock 52 = .ok (.iconst 0, 1) := by decide +kernel
theorem d_Ae_lock_53 : decode b_Ae_lock 53 = .ok (.bastore, 1) := by decide +kernel
theorem d_Ae_lock_54 : decode b_Ae_lock 54 = .ok (.iinc 5 1, 3) := by decide +kernel
theorem d_Ae_lock_57 : decode b_Ae_lock 57 = .ok (.goto (-20), 3) := by decide +kernel
theorem d_Ae_lock_60 : decode b_Ae_lock 60 = .ok (.aload_n 0, 1) := by decide +kernel
theorem d_Ae_lock_61 : decode b_Ae_lock 61 = .ok (.aload_n 1, 1) := by decide +kernel
theorem d_Ae_lock_62 : decode b_Ae_lock 62 = .ok (.iload_n 2, 1) := by decide +kernel
theorem d_Ae_lock_63 : decode b_Ae_lock 63 = .ok (.invokevirtual 48, 3) := by decide +kernel
theorem d_Ae_lock_66 : decode b_Ae_lock 66 = .ok (.iload_n 2, 1) := by decide +kernel
theorem d_Ae_lock_67 : decode b_Ae_lock 67 = .ok (.bipush 16, 2) := by decide +kernel
theorem d_Ae_lock_69 : decode b_Ae_lock 69 = .ok (.iadd, 1) := by decide +kernel
theorem d_Ae_lock_70 : decode b_Ae_lock 70 = .ok (.istore 5, 2) := by decide +kernel
theorem d_Ae_lock_72 : decode b_Ae_lock 72 = .ok (.iload 5, 2) := by decide +kernel
theorem d_Ae_lock_74 : decode b_Ae_lock 74 = .ok (.iload_n 2, 1) := by decide +kernel
theorem d_Ae_lock_75 : decode b_Ae_lock 75 = .ok (.bipush 16, 2) := by decide +kernel
theorem d_Ae_lock_77 : decode b_Ae_lock 77 = .ok (.iload 4, 2) := by decide +kernel
theorem d_Ae_lock_79 : decode b_Ae_lock 79 = .ok (.imul, 1) := by decide +kernel
theorem d_Ae_lock_80 : decode b_Ae_lock 80 = .ok (.iadd, 1) := by decide +kernel
theorem d_Ae_lock_81 : decode b_Ae_lock 81 = .ok (.if_icmp .ge 24, 3) := by decide +kernel
theorem d_Ae_lock_84 : decode b_Ae_lock 84 = .ok (.aload_n 1, 1) := by decide +kernel
theorem d_Ae_lock_85 : decode b_Ae_lock 85 = .ok (.iload 5, 2) := by decide +kernel
theorem d_Ae_lock_87 : decode b_Ae_lock 87 = .ok (.bipush 16, 2) := by decide +kernel
theorem d_Ae_lock_89 : decode b_Ae_lock 89 = .ok (.invokestatic 52, 3) := by decide +kernel
theorem d_Ae_lock_92 : decode b_Ae_lock 92 = .ok (.aload_n 0, 1) := by decide +kernel
theorem d_Ae_lock_93 : decode b_Ae_lock 93 = .ok (.aload_n 1, 1) := by decide +kernel
theorem d_Ae_lock_94 : decode b_Ae_lock 94 = .ok (.iload 5, 2) := by decide +kernel
theorem d_Ae_lock_96 : decode b_Ae_lock 96 = .ok (.invokevirtual 48, 3) := by decide +kernel
theorem d_Ae_lock_99 : decode b_Ae_lock 99 = .ok (.iinc 5 16, 3) := by decide +kernel
theorem d_Ae_lock_102 : decode b_Ae_lock 102 = .ok (.goto (-30), 3) := by decide +kernel
theorem d_Ae_lock_105 : decode b_Ae_lock 105 = .ok (.iload 4, 2) := by decide +kernel
theorem d_Ae_lock_107 : decode b_Ae_lock 107 = .ok (.iconst 1, 1) := by decide +kernel
theorem d_Ae_lock_108 : decode b_Ae_lock 108 = .ok (.if_icmp .le 57, 3) := by decide +kernel
theorem d_Ae_lock_111 : decode b_Ae_lock 111 = .ok (.iload_n 2, 1) := by decide +kernel
theorem d_Ae_lock_112 : decode b_Ae_lock 112 = .ok (.bipush 16, 2) := by decide +kernel
theorem d_Ae_lock_114 : decode b_Ae_lock 114 = .ok (.iload 4, 2) := by decide +kernel
theorem d_Ae_lock_116 : decode b_Ae_lock 116 = .ok (.iconst 1, 1) := by decide +kernel
theorem d_Ae_lock_117 : decode b_Ae_lock 117 = .ok (.isub, 1) := by decide +kernel
theorem d_Ae_lock_118 : decode b_Ae_lock 118 = .ok (.imul, 1) := by decide +kernel
theorem d_Ae_lock_119 : decode b_Ae_lock 119 = .ok (.iadd, 1) := by decide +kernel
theorem d_Ae_lock_120 : decode b_Ae_lock 120 = .ok (.istore 5, 2) := by decide +kernel
theorem d_Ae_lock_122 : decode b_Ae_lock 122 = .ok (.aload_n 1, 1) := by decide +kernel
theorem d_Ae_lock_123 : decode b_Ae_lock 123 = .ok (.iload 5, 2) := by decide +kernel
theorem d_Ae_lock_125 : decode b_Ae_lock 125 = .ok (.bipush 16, 2) := by decide +kernel
theorem d_Ae_lock_127 : decode b_Ae_lock 127 = .ok (.isub, 1) := by decide +kernel
theorem d_Ae_lock_128 : decode b_Ae_lock 128 = .ok (.aload_n 0, 1) := by decide +kernel
theorem d_Ae_lock_129 : decode b_Ae_lock 129 = .ok (.getfield 25, 3) := by decide +kernel
theorem d_Ae_lock_132 : decode b_Ae_lock 132 = .ok (.iconst 0, 1) := by decide +kernel
theorem d_Ae_lock_133 : decode b_Ae_lock 133 = .ok (.bipush 16, 2) := by decide +kernel
theorem d_Ae_lock_135 : decode b_Ae_lock 135 = .ok (.invokestatic 42, 3) := by decide +kernel
theorem d_Ae_lock_138 : decode b_Ae_lock 138 = .ok (.aload_n 1, 1) := by decide +kernel
theorem d_Ae_lock_139 : decode b_Ae_lock 139 = .ok (.iload 5, 2) := by decide +kernel
theorem d_Ae_lock_141 : decode b_Ae_lock 141 = .ok (.aload_n 1, 1) := by decide +kernel
theorem d_Ae_lock_142 : decode b_Ae_lock 142 = .ok (.iload 5, 2) := by decide +kernel
theorem d_Ae_lock_144 : decode b_Ae_lock 144 = .ok (.bipush 16, 2) := by decide +kernel
theorem d_Ae_lock_146 : decode b_Ae_lock 146 = .ok (.isub, 1) := by decide +kernel
theorem d_Ae_lock_147 : decode b_Ae_lock 147 = .ok (.bipush 16, 2) := by decide +kernel
theorem d_Ae_lock_149 : decode b_Ae_lock 149 = .ok (.invokestatic 42, 3) := by decide +kernel
theorem d_Ae_lock_152 : decode b_Ae_lock 152 = .ok (.aload_n 0, 1) := by decide +kernel
theorem d_Ae_lock_153 : decode b_Ae_lock 153 = .ok (.getfield 25, 3) := by decide +kernel
theorem d_Ae_lock_156 : decode b_Ae_lock 156 = .ok (.iconst 0, 1) := by decide +kernel
theorem d_Ae_lock_157 : decode b_Ae_lock 157 = .ok (.aload_n 1, 1) := by decide +kernel
theorem d_Ae_lock_158 : decode b_Ae_lock 158 = .ok (.iload 5, 2) := by decide +kernel
theorem d_Ae_lock_160 : decode b_Ae_lock 160 = .ok (.bipush 16, 2) := by decide +kernel
theorem d_Ae_lock_162 : decode b_Ae_lock 162 = .ok (.invokestatic 42, 3) := by decide +kernel
theorem d_Ae_lock_165 : decode b_Ae_lock 165 = .ok (.return_, 1) := by decide +kernel
abbrev b_Ae_unlock : ByteArray := prog_2_method_8_code
def y_Ae_unlock : MethodName := ⟨R_Ae, "unlock", "([BII)V"⟩
abbrev k_Ae_unlock : Cond := .code y_Ae_unlock b_Ae_unlock 7 none
theorem ki_Ae_unlock : k_Ae_unlock ∈ lw_tg := in_t 1020 (by decide +kernel)
theorem ks_Ae_unlock : Cond.instanceMethod y_Ae_unlock ∈ lw_tg := in_t 1018 (by decide +kernel)
theorem kx_Ae_unlock : Cond.selects R_Ae y_Ae_unlock y_Ae_unlock ∈ lw_tg := in_t 1019 (by decide +kernel)
theorem kl_Va_Ae_unlock : Cond.methodLink R_Va 196 y_Ae_unlock ∈ lw_tg := in_t 1017 (by decide +kernel)
theorem hd_Ae_unlock : y_Ae_unlock.cls = R_Ae ∧ y_Ae_unlock.cls ≠ "java/lang/invoke/MethodHandle" ∧ y_Ae_unlock.cls ≠ "java/lang/invoke/VarHandle" ∧ (parseMethodDescriptor y_Ae_unlock.desc).map (fun d => d.parameters.length) = some 3 := by decide +kernel
theorem d_Ae_unlock_0 : decode b_Ae_unlock 0 = .ok (.iload_n 3, 1) := by decide +kernel
theorem d_Ae_unlock_1 : decode b_Ae_unlock 1 = .ok (.bipush 15, 2) := by decide +kernel
theorem d_Ae_unlock_3 : decode b_Ae_unlock 3 = .ok (.iadd, 1) := by decide +kernel
theorem d_Ae_unlock_4 : decode b_Ae_unlock 4 = .ok (.bipush 16, 2) := by decide +kernel
theorem d_Ae_unlock_6 : decode b_Ae_unlock 6 = .ok (.idiv, 1) := by decide +kernel
theorem d_Ae_unlock_7 : decode b_Ae_unlock 7 = .ok (.istore 4, 2) := by decide +kernel
theorem d_Ae_unlock_9 : decode b_Ae_unlock 9 = .ok (.iload_n 2, 1) := by decide +kernel
theorem d_Ae_unlock_10 : decode b_Ae_unlock 10 = .ok (.ifCond .lt 21, 3) := by decide +kernel
theorem d_Ae_unlock_13 : decode b_Ae_unlock 13 = .ok (.iload_n 3, 1) := by decide +kernel
theorem d_Ae_unlock_14 : decode b_Ae_unlock 14 = .ok (.bipush 16, 2) := by decide +kernel
theorem d_Ae_unlock_16 : decode b_Ae_unlock 16 = .ok (.if_icmp .lt 15, 3) := by decide +kernel
theorem d_Ae_unlock_19 : decode b_Ae_unlock 19 = .ok (.bipush 16, 2) := by decide +kernel
theorem d_Ae_unlock_21 : decode b_Ae_unlock 21 = .ok (.iload 4, 2) := by decide +kernel
theorem d_Ae_unlock_23 : decode b_Ae_unlock 23 = .ok (.imul, 1) := by decide +kernel
theorem d_Ae_unlock_24 : decode b_Ae_unlock 24 = .ok (.aload_n 1, 1) := by decide +kernel
theorem d_Ae_unlock_25 : decode b_Ae_unlock 25 = .ok (.arraylength, 1) := by decide +kernel
theorem d_Ae_unlock_26 : decode b_Ae_unlock 26 = .ok (.iload_n 2, 1) := by decide +kernel
theorem d_Ae_unlock_27 : decode b_Ae_unlock 27 = .ok (.isub, 1) := by decide +kernel
theorem d_Ae_unlock_28 : decode b_Ae_unlock 28 = .ok (.if_icmp .le 4, 3) := by decide +kernel
theorem d_Ae_unlock_31 : decode b_Ae_unlock 31 = .ok (.return_, 1) := by decide +kernel
theorem d_Ae_unlock_32 : decode b_Ae_unlock 32 = .ok (.iload_n 2, 1) := by decide +kernel
theorem d_Ae_unlock_33 : decode b_Ae_unlock 33 = .ok (.bipush 16, 2) := by decide +kernel
theorem d_Ae_unlock_35 : decode b_Ae_unlock 35 = .ok (.iload 4, 2) := by decide +kernel
theorem d_Ae_unlock_37 : decode b_Ae_unlock 37 = .ok (.iconst 1, 1) := by decide +kernel
theorem d_Ae_unlock_38 : decode b_Ae_unlock 38 = .ok (.isub, 1) := by decide +kernel
theorem d_Ae_unlock_39 : decode b_Ae_unlock 39 = .ok (.imul, 1) := by decide +kernel
theorem d_Ae_unlock_40 : decode b_Ae_unlock 40 = .ok (.iadd, 1) := by decide +kernel
theorem d_Ae_unlock_41 : decode b_Ae_unlock 41 = .ok (.istore 5, 2) := by decide +kernel
theorem d_Ae_unlock_43 : decode b_Ae_unlock 43 = .ok (.iload 4, 2) := by decide +kernel
theorem d_Ae_unlock_45 : decode b_Ae_unlock 45 = .ok (.iconst 1, 1) := by decide +kernel
theorem d_Ae_unlock_46 : decode b_Ae_unlock 46 = .ok (.if_icmp .le 72, 3) := by decide +kernel
theorem d_Ae_unlock_49 : decode b_Ae_unlock 49 = .ok (.iload_n 2, 1) := by decide +kernel
theorem d_Ae_unlock_50 : decode b_Ae_unlock 50 = .ok (.iload_n 3, 1) := by decide +kernel
theorem d_Ae_unlock_51 : decode b_Ae_unlock 51 = .ok (.iadd, 1) := by decide +kernel
theorem d_Ae_unlock_52 : decode b_Ae_unlock 52 = .ok (.iload 5, 2) := by decide +kernel
theorem d_Ae_unlock_54 : decode b_Ae_unlock 54 = .ok (.isub, 1) := by decide +kernel
theorem d_Ae_unlock_55 : decode b_Ae_unlock 55 = .ok (.istore 6, 2) := by decide +kernel
theorem d_Ae_unlock_57 : decode b_Ae_unlock 57 = .ok (.aload_n 0, 1) := by decide +kernel
theorem d_Ae_unlock_58 : decode b_Ae_unlock 58 = .ok (.aload_n 1, 1) := by decide +kernel
theorem d_Ae_unlock_59 : decode b_Ae_unlock 59 = .ok (.iload 5, 2) := by decide +kernel
theorem d_Ae_unlock_61 : decode b_Ae_unlock 61 = .ok (.bipush 16, 2) := by decide +kernel
theorem d_Ae_unlock_63 : decode b_Ae_unlock 63 = .ok (.isub, 1) := by decide +kernel
theorem d_Ae_unlock_64 : decode b_Ae_unlock 64 = .ok (.invokevirtual 56, 3) := by decide +kernel
theorem d_Ae_unlock_67 : decode b_Ae_unlock 67 = .ok (.aload_n 1, 1) := by decide +kernel
theorem d_Ae_unlock_68 : decode b_Ae_unlock 68 = .ok (.iload 5, 2) := by decide +kernel
theorem d_Ae_unlock_70 : decode b_Ae_unlock 70 = .ok (.bipush 16, 2) := by decide +kernel
theorem d_Ae_unlock_72 : decode b_Ae_unlock 72 = .ok (.isub, 1) := by decide +kernel
theorem d_Ae_unlock_73 : decode b_Ae_unlock 73 = .ok (.aload_n 0, 1) := by decide +kernel
theorem d_Ae_unlock_74 : decode b_Ae_unlock 74 = .ok (.getfield 25, 3) := by decide +kernel
theorem d_Ae_unlock_77 : decode b_Ae_unlock 77 = .ok (.iconst 0, 1) := by decide +kernel
theorem d_Ae_unlock_78 : decode b_Ae_unlock 78 = .ok (.bipush 16, 2) := by decide +kernel
theorem d_Ae_unlock_80 : decode b_Ae_unlock 80 = .ok (.invokestatic 42, 3) := by decide +kernel
theorem d_Ae_unlock_83 : decode b_Ae_unlock 83 = .ok (.aload_n 1, 1) := by decide +kernel
theorem d_Ae_unlock_84 : decode b_Ae_unlock 84 = .ok (.iload 5, 2) := by decide +kernel
theorem d_Ae_unlock_86 : decode b_Ae_unlock 86 = .ok (.aload_n 1, 1) := by decide +kernel
theorem d_Ae_unlock_87 : decode b_Ae_unlock 87 = .ok (.iload 5, 2) := by decide +kernel
theorem d_Ae_unlock_89 : decode b_Ae_unlock 89 = .ok (.bipush 16, 2) := by decide +kernel
theorem d_Ae_unlock_91 : decode b_Ae_unlock 91 = .ok (.isub, 1) := by decide +kernel
theorem d_Ae_unlock_92 : decode b_Ae_unlock 92 = .ok (.iload 6, 2) := by decide +kernel
theorem d_Ae_unlock_94 : decode b_Ae_unlock 94 = .ok (.invokestatic 42, 3) := by decide +kernel
theorem d_Ae_unlock_97 : decode b_Ae_unlock 97 = .ok (.aload_n 0, 1) := by decide +kernel
theorem d_Ae_unlock_98 : decode b_Ae_unlock 98 = .ok (.getfield 25, 3) := by decide +kernel
theorem d_Ae_unlock_101 : decode b_Ae_unlock 101 = .ok (.iconst 0, 1) := by decide +kernel
theorem d_Ae_unlock_102 : decode b_Ae_unlock 102 = .ok (.aload_n 1, 1) := by decide +kernel
theorem d_Ae_unlock_103 : decode b_Ae_unlock 103 = .ok (.iload 5, 2) := by decide +kernel
theorem d_Ae_unlock_105 : decode b_Ae_unlock 105 = .ok (.bipush 16, 2) := by decide +kernel
theorem d_Ae_unlock_107 : decode b_Ae_unlock 107 = .ok (.invokestatic 42, 3) := by decide +kernel
theorem d_Ae_unlock_110 : decode b_Ae_unlock 110 = .ok (.aload_n 1, 1) := by decide +kernel
theorem d_Ae_unlock_111 : decode b_Ae_unlock 111 = .ok (.iload 5, 2) := by decide +kernel
theorem d_Ae_unlock_113 : decode b_Ae_unlock 113 = .ok (.iload 6, 2) := by decide +kernel
theorem d_Ae_unlock_115 : decode b_Ae_unlock 115 = .ok (.invokestatic 52, 3) := by decide +kernel
theorem d_Ae_unlock_118 : decode b_Ae_unlock 118 = .ok (.iload_n 2, 1) := by decide +kernel
theorem d_Ae_unlock_119 : decode b_Ae_unlock 119 = .ok (.iload 5, 2) := by decide +kernel
theorem d_Ae_unlock_121 : decode b_Ae_unlock 121 = .ok (.bipush 16, 2) := by decide +kernel
theorem d_Ae_unlock_123 : decode b_Ae_unlock 123 = .ok (.isub, 1) := by decide +kernel
theorem d_Ae_unlock_124 : decode b_Ae_unlock 124 = .ok (.invokestatic 59, 3) := by decide +kernel
theorem d_Ae_unlock_127 : decode b_Ae_unlock 127 = .ok (.istore 6, 2) := by decide +kernel
theorem d_Ae_unlock_129 : decode b_Ae_unlock 129 = .ok (.iload 6, 2) := by decide +kernel
theorem d_Ae_unlock_131 : decode b_Ae_unlock 131 = .ok (.iload_n 2, 1) := by decide +kernel
theorem d_Ae_unlock_132 : decode b_Ae_unlock 132 = .ok (.if_icmp .le 24, 3) := by decide +kernel
theorem d_Ae_unlock_135 : decode b_Ae_unlock 135 = .ok (.aload_n 0, 1) := by decide +kernel
theorem d_Ae_unlock_136 : decode b_Ae_unlock 136 = .ok (.aload_n 1, 1) := by decide +kernel
theorem d_Ae_unlock_137 : decode b_Ae_unlock 137 = .ok (.iload 6, 2) := by decide +kernel
theorem d_Ae_unlock_139 : decode b_Ae_unlock 139 = .ok (.invokevirtual 56, 3) := by decide +kernel
theorem d_Ae_unlock_142 : decode b_Ae_unlock 142 = .ok (.aload_n 1, 1) := by decide +kernel
theorem d_Ae_unlock_143 : decode b_Ae_unlock 143 = .ok (.iload 6, 2) := by decide +kernel
theorem d_Ae_unlock_145 : decode b_Ae_unlock 145 = .ok (.bipush 16, 2) := by decide +kernel
theorem d_Ae_unlock_147 : decode b_Ae_unlock 147 = .ok (.invokestatic 52, 3) := by decide +kernel
theorem d_Ae_unlock_150 : decode b_Ae_unlock 150 = .ok (.iinc 6 (-16), 3) := by decide +kernel
theorem d_Ae_unlock_153 : decode b_Ae_unlock 153 = .ok (.goto (-24), 3) := by decide +kernel
theorem d_Ae_unlock_156 : decode b_Ae_unlock 156 = .ok (.aload_n 0, 1) := by decide +kernel
theorem d_Ae_unlock_157 : decode b_Ae_unlock 157 = .ok (.aload_n 1, 1) := by decide +kernel
theorem d_Ae_unlock_158 : decode b_Ae_unlock 158 = .ok (.iload_n 2, 1) := by decide +kernel
theorem d_Ae_unlock_159 : decode b_Ae_unlock 159 = .ok (.invokevirtual 56, 3) := by decide +kernel
theorem d_Ae_unlock_162 : decode b_Ae_unlock 162 = .ok (.return_, 1) := by decide +kernel
abbrev b_Ae_mask : ByteArray := prog_2_method_9_code
def y_Ae_mask : MethodName := ⟨R_Ae, "mask", "([BII)V"⟩
abbrev k_Ae_mask : Cond := .code y_Ae_mask b_Ae_mask 4 none
theorem ki_Ae_mask : k_Ae_mask ∈ lw_tg := in_t 1032 (by decide +kernel)
theorem ks_Ae_mask : Cond.static y_Ae_mask ∈ lw_tg := in_t 1031 (by decide +kernel)
theorem kl_Ae_Ae_mask : Cond.methodLink R_Ae 52 y_Ae_mask ∈ lw_tg := in_t 1030 (by decide +kernel)
theorem hd_Ae_mask : y_Ae_mask.cls = R_Ae ∧ y_Ae_mask.cls ≠ "java/lang/invoke/MethodHandle" ∧ y_Ae_mask.cls ≠ "java/lang/invoke/VarHandle" ∧ (parseMethodDescriptor y_Ae_mask.desc).map (fun d => d.parameters.length) = some 3 := by decide +kernel
theorem d_Ae_mask_0 : decode b_Ae_mask 0 = .ok (.iload_n 1, 1) := by decide +kernel
theorem d_Ae_mask_1 : decode b_Ae_mask 1 = .ok (.istore_n 3, 1) := by decide +kernel
theorem d_Ae_mask_2 : decode b_Ae_mask 2 = .ok (.iload_n 3, 1) := by decide +kernel
theorem d_Ae_mask_3 : decode b_Ae_mask 3 = .ok (.iload_n 1, 1) := by decide +kernel
theorem d_Ae_mask_4 : decode b_Ae_mask 4 = .ok (.iload_n 2, 1) := by decide +kernel
theorem d_Ae_mask_5 : decode b_Ae_mask 5 = .ok (.iadd, 1) := by decide +kernel
theorem d_Ae_mask_6 : decode b_Ae_mask 6 = .ok (.if_icmp .ge 22, 3) := by decide +kernel
theorem d_Ae_mask_9 : decode b_Ae_mask 9 = .ok (.aload_n 0, 1) := by decide +kernel
theorem d_Ae_mask_10 : decode b_Ae_mask 10 = .ok (.iload_n 3, 1) := by decide +kernel
theorem d_Ae_mask_11 : decode b_Ae_mask 11 = .ok (.dup2, 1) := by decide +kernel
theorem d_Ae_mask_12 : decode b_Ae_mask 12 = .ok (.baload, 1) := by decide +kernel
theorem d_Ae_mask_13 : decode b_Ae_mask 13 = .ok (.aload_n 0, 1) := by decide +kernel
theorem d_Ae_mask_14 : decode b_Ae_mask 14 = .ok (.iload_n 3, 1) := by decide +kernel
theorem d_Ae_mask_15 : decode b_Ae_mask 15 = .ok (.bipush 16, 2) := by decide +kernel
theorem d_Ae_mask_17 : decode b_Ae_mask 17 = .ok (.isub, 1) := by decide +kernel
theorem d_Ae_mask_18 : decode b_Ae_mask 18 = .ok (.baload, 1) := by decide +kernel
theorem d_Ae_mask_19 : decode b_Ae_mask 19 = .ok (.ixor, 1) := by decide +kernel
theorem d_Ae_mask_20 : decode b_Ae_mask 20 = .ok (.i2b, 1) := by decide +kernel
theorem d_Ae_mask_21 : decode b_Ae_mask 21 = .ok (.bastore, 1) := by decide +kernel
theorem d_Ae_mask_22 : decode b_Ae_mask 22 = .ok (.iinc 3 1, 3) := by decide +kernel
theorem d_Ae_mask_25 : decode b_Ae_mask 25 = .ok (.goto (-23), 3) := by decide +kernel
theorem d_Ae_mask_28 : decode b_Ae_mask 28 = .ok (.return_, 1) := by decide +kernel
