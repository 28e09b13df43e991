/-! Aes. -/
abbrev b_Ae_init : ByteArray := prog_2_method_1_code
def y_Ae_init : MethodName := ⟨R_Ae, "<init>", "()V"⟩
abbrev k_Ae_init : Cond := .code y_Ae_init b_Ae_init 2 none
theorem ki_Ae_init : k_Ae_init ∈ lw_tg := in_t 101 (by decide +kernel)
theorem ks_Ae_init : Cond.instanceMethod y_Ae_init ∈ lw_tg := in_t 100 (by decide +kernel)
theorem kl_Va_Ae_init : Cond.methodLink R_Va 37 y_Ae_init ∈ lw_tg := in_t 99 (by decide +kernel)
theorem hd_Ae_init : y_Ae_init.cls = R_Ae ∧ y_Ae_init.cls ≠ "java/lang/invoke/MethodHandle" ∧ y_Ae_init.cls ≠ "java/lang/invoke/VarHandle" ∧ (parseMethodDescriptor y_Ae_init.desc).map (fun d => d.parameters.length) = some 0 := by decide +kernel
theorem d_Ae_init_0 : decode b_Ae_init 0 = .ok (.aload_n 0, 1) := by decide +kernel
theorem d_Ae_init_1 : decode b_Ae_init 1 = .ok (.invokespecial 1, 3) := by decide +kernel
theorem d_Ae_init_4 : decode b_Ae_init 4 = .ok (.aload_n 0, 1) := by decide +kernel
theorem d_Ae_init_5 : decode b_Ae_init 5 = .ok (.sipush 256, 3) := by decide +kernel
theorem d_Ae_init_8 : decode b_Ae_init 8 = .ok (.newarray .int, 2) := by decide +kernel
theorem d_Ae_init_10 : decode b_Ae_init 10 = .ok (.putfield 7, 3) := by decide +kernel
theorem lk_Ae_7 : Cond.fieldLink R_Ae 7 R_Ae (F_Ae 0).2.1 (F_Ae 0).2.2.1 ∈ lw_tg := in_t 105 (by decide +kernel)
theorem d_Ae_init_13 : decode b_Ae_init 13 = .ok (.aload_n 0, 1) := by decide +kernel
theorem d_Ae_init_14 : decode b_Ae_init 14 = .ok (.sipush 256, 3) := by decide +kernel
theorem d_Ae_init_17 : decode b_Ae_init 17 = .ok (.newarray .int, 2) := by decide +kernel
theorem d_Ae_init_19 : decode b_Ae_init 19 = .ok (.putfield 13, 3) := by decide +kernel
theorem lk_Ae_13 : Cond.fieldLink R_Ae 13 R_Ae (F_Ae 1).2.1 (F_Ae 1).2.2.1 ∈ lw_tg := in_t 106 (by decide +kernel)
theorem d_Ae_init_22 : decode b_Ae_init 22 = .ok (.aload_n 0, 1) := by decide +kernel
theorem d_Ae_init_23 : decode b_Ae_init 23 = .ok (.sipush 240, 3) := by decide +kernel
theorem d_Ae_init_26 : decode b_Ae_init 26 = .ok (.newarray .int, 2) := by decide +kernel
theorem d_Ae_init_28 : decode b_Ae_init 28 = .ok (.putfield 16, 3) := by decide +kernel
theorem lk_Ae_16 : Cond.fieldLink R_Ae 16 R_Ae (F_Ae 2).2.1 (F_Ae 2).2.2.1 ∈ lw_tg := in_t 107 (by decide +kernel)
theorem d_Ae_init_31 : decode b_Ae_init 31 = .ok (.aload_n 0, 1) := by decide +kernel
theorem d_Ae_init_32 : decode b_Ae_init 32 = .ok (.bipush 16, 2) := by decide +kernel
theorem d_Ae_init_34 : decode b_Ae_init 34 = .ok (.newarray .int, 2) := by decide +kernel
theorem d_Ae_init_36 : decode b_Ae_init 36 = .ok (.putfield 19, 3) := by decide +kernel
theorem lk_Ae_19 : Cond.fieldLink R_Ae 19 R_Ae (F_Ae 4).2.1 (F_Ae 4).2.2.1 ∈ lw_tg := in_t 109 (by decide +kernel)
theorem d_Ae_init_39 : decode b_Ae_init 39 = .ok (.aload_n 0, 1) := by decide +kernel
theorem d_Ae_init_40 : decode b_Ae_init 40 = .ok (.bipush 16, 2) := by decide +kernel
theorem d_Ae_init_42 : decode b_Ae_init 42 = .ok (.newarray .int, 2) := by decide +kernel
theorem d_Ae_init_44 : decode b_Ae_init 44 = .ok (.putfield 22, 3) := by decide +kernel
theorem lk_Ae_22 : Cond.fieldLink R_Ae 22 R_Ae (F_Ae 5).2.1 (F_Ae 5).2.2.1 ∈ lw_tg := in_t 110 (by decide +kernel)
theorem d_Ae_init_47 : decode b_Ae_init 47 = .ok (.aload_n 0, 1) := by decide +kernel
theorem d_Ae_init_48 : decode b_Ae_init 48 = .ok (.bipush 16, 2) := by decide +kernel
theorem d_Ae_init_50 : decode b_Ae_init 50 = .ok (.newarray .byte, 2) := by decide +kernel
theorem d_Ae_init_52 : decode b_Ae_init 52 = .ok (.putfield 25, 3) := by decide +kernel
theorem lk_Ae_25 : Cond.fieldLink R_Ae 25 R_Ae (F_Ae 6).2.1 (F_Ae 6).2.2.1 ∈ lw_tg := in_t 111 (by decide +kernel)
theorem d_Ae_init_55 : decode b_Ae_init 55 = .ok (.iconst 0, 1) := by decide +kernel
theorem d_Ae_init_56 : decode b_Ae_init 56 = .ok (.istore_n 1, 1) := by decide +kernel
theorem d_Ae_init_57 : decode b_Ae_init 57 = .ok (.iload_n 1, 1) := by decide +kernel
theorem d_Ae_init_58 : decode b_Ae_init 58 = .ok (.sipush 256, 3) := by decide +kernel
theorem d_Ae_init_61 : decode b_Ae_init 61 = .ok (.if_icmp .ge 38, 3) := by decide +kernel
theorem d_Ae_init_64 : decode b_Ae_init 64 = .ok (.aload_n 0, 1) := by decide +kernel
theorem d_Ae_init_65 : decode b_Ae_init 65 = .ok (.getfield 7, 3) := by decide +kernel
theorem d_Ae_init_68 : decode b_Ae_init 68 = .ok (.getstatic 29, 3) := by decide +kernel
theorem d_Ae_init_71 : decode b_Ae_init 71 = .ok (.iload_n 1, 1) := by decide +kernel
theorem d_Ae_init_72 : decode b_Ae_init 72 = .ok (.iaload, 1) := by decide +kernel
theorem d_Ae_init_73 : decode b_Ae_init 73 = .ok (.iload_n 1, 1) := by decide +kernel
theorem d_Ae_init_74 : decode b_Ae_init 74 = .ok (.iastore, 1) := by decide +kernel
theorem d_Ae_init_75 : decode b_Ae_init 75 = .ok (.aload_n 0, 1) := by decide +kernel
theorem d_Ae_init_76 : decode b_Ae_init 76 = .ok (.getfield 13, 3) := by decide +kernel
theorem d_Ae_init_79 : decode b_Ae_init 79 = .ok (.iload_n 1, 1) := by decide +kernel
theorem d_Ae_init_80 : decode b_Ae_init 80 = .ok (.iload_n 1, 1) := by decide +kernel
theorem d_Ae_init_81 : decode b_Ae_init 81 = .ok (.iconst 1, 1) := by decide +kernel
theorem d_Ae_init_82 : decode b_Ae_init 82 = .ok (.ishl, 1) := by decide +kernel
theorem d_Ae_init_83 : decode b_Ae_init 83 = .ok (.iload_n 1, 1) := by decide +kernel
theorem d_Ae_init_84 : decode b_Ae_init 84 = .ok (.bipush 7, 2) := by decide +kernel
theorem d_Ae_init_86 : decode b_Ae_init 86 = .ok (.ishr, 1) := by decide +kernel
theorem d_Ae_init_87 : decode b_Ae_init 87 = .ok (.sipush 283, 3) := by decide +kernel
theorem d_Ae_init_90 : decode b_Ae_init 90 = .ok (.imul, 1) := by decide +kernel
theorem d_Ae_init_91 : decode b_Ae_init 91 = .ok (.ixor, 1) := by decide +kernel
theorem d_Ae_init_92 : decode b_Ae_init 92 = .ok (.iastore, 1) := by decide +kernel
theorem d_Ae_init_93 : decode b_Ae_init 93 = .ok (.iinc 1 1, 3) := by decide +kernel
theorem d_Ae_init_96 : decode b_Ae_init 96 = .ok (.goto (-39), 3) := by decide +kernel
theorem d_Ae_init_99 : decode b_Ae_init 99 = .ok (.return_, 1) := by decide +kernel
abbrev b_Ae_mix : ByteArray := prog_2_method_5_code
def y_Ae_mix : MethodName := ⟨R_Ae, "mix", "()V"⟩
abbrev k_Ae_mix : Cond := .code y_Ae_mix b_Ae_mix 7 none
theorem ki_Ae_mix : k_Ae_mix ∈ lw_tg := in_t 651 (by decide +kernel)
theorem ks_Ae_mix : Cond.instanceMethod y_Ae_mix ∈ lw_tg := in_t 650 (by decide +kernel)
theorem kx_Ae_mix : Cond.selects R_Ae y_Ae_mix y_Ae_mix ∈ lw_tg := List.mem_filter.mpr ⟨List.mem_append_left _ (List.mem_of_getElem? (i := 5) (by decide +kernel)), rfl⟩
theorem kl_Ae_Ae_mix : Cond.methodLink R_Ae 36 y_Ae_mix ∈ lw_tg := in_t 648 (by decide +kernel)
theorem hd_Ae_mix : y_Ae_mix.cls = R_Ae ∧ y_Ae_mix.cls ≠ "java/lang/invoke/MethodHandle" ∧ y_Ae_mix.cls ≠ "java/lang/invoke/VarHandle" ∧ (parseMethodDescriptor y_Ae_mix.desc).map (fun d => d.parameters.length) = some 0 := by decide +kernel
theorem d_Ae_mix_0 : decode b_Ae_mix 0 = .ok (.iconst 0, 1) := by decide +kernel
theorem d_Ae_mix_1 : decode b_Ae_mix 1 = .ok (.istore_n 1, 1) := by decide +kernel
theorem d_Ae_mix_2 : decode b_Ae_mix 2 = .ok (.iload_n 1, 1) := by decide +kernel
theorem d_Ae_mix_3 : decode b_Ae_mix 3 = .ok (.bipush 16, 2) := by decide +kernel
theorem d_Ae_mix_5 : decode b_Ae_mix 5 = .ok (.if_icmp .ge 144, 3) := by decide +kernel
theorem d_Ae_mix_8 : decode b_Ae_mix 8 = .ok (.aload_n 0, 1) := by decide +kernel
theorem d_Ae_mix_9 : decode b_Ae_mix 9 = .ok (.getfield 22, 3) := by decide +kernel
theorem d_Ae_mix_12 : decode b_Ae_mix 12 = .ok (.iload_n 1, 1) := by decide +kernel
theorem d_Ae_mix_13 : decode b_Ae_mix 13 = .ok (.iaload, 1) := by decide +kernel
theorem d_Ae_mix_14 : decode b_Ae_mix 14 = .ok (.istore_n 2, 1) := by decide +kernel
theorem d_Ae_mix_15 : decode b_Ae_mix 15 = .ok (.aload_n 0, 1) := by decide +kernel
theorem d_Ae_mix_16 : decode b_Ae_mix 16 = .ok (.getfield 22, 3) := by decide +kernel
theorem d_Ae_mix_19 : decode b_Ae_mix 19 = .ok (.iload_n 1, 1) := by decide +kernel
theorem d_Ae_mix_20 : decode b_Ae_mix 20 = .ok (.iconst 1, 1) := by decide +kernel
theorem d_Ae_mix_21 : decode b_Ae_mix 21 = .ok (.iadd, 1) := by decide +kernel
theorem d_Ae_mix_22 : decode b_Ae_mix 22 = .ok (.iaload, 1) := by decide +kernel
theorem d_Ae_mix_23 : decode b_Ae_mix 23 = .ok (.istore_n 3, 1) := by decide +kernel
theorem d_Ae_mix_24 : decode b_Ae_mix 24 = .ok (.aload_n 0, 1) := by decide +kernel
theorem d_Ae_mix_25 : decode b_Ae_mix 25 = .ok (.getfield 22, 3) := by decide +kernel
theorem d_Ae_mix_28 : decode b_Ae_mix 28 = .ok (.iload_n 1, 1) := by decide +kernel
theorem d_Ae_mix_29 : decode b_Ae_mix 29 = .ok (.iconst 2, 1) := by decide +kernel
theorem d_Ae_mix_30 : decode b_Ae_mix 30 = .ok (.iadd, 1) := by decide +kernel
theorem d_Ae_mix_31 : decode b_Ae_mix 31 = .ok (.iaload, 1) := by decide +kernel
theorem d_Ae_mix_32 : decode b_Ae_mix 32 = .ok (.istore 4, 2) := by decide +kernel
theorem d_Ae_mix_34 : decode b_Ae_mix 34 = .ok (.aload_n 0, 1) := by decide +kernel
theorem d_Ae_mix_35 : decode b_Ae_mix 35 = .ok (.getfield 22, 3) := by decide +kernel
theorem d_Ae_mix_38 : decode b_Ae_mix 38 = .ok (.iload_n 1, 1) := by decide +kernel
theorem d_Ae_mix_39 : decode b_Ae_mix 39 = .ok (.iconst 3, 1) := by decide +kernel
theorem d_Ae_mix_40 : decode b_Ae_mix 40 = .ok (.iadd, 1) := by decide +kernel
theorem d_Ae_mix_41 : decode b_Ae_mix 41 = .ok (.iaload, 1) := by decide +kernel
theorem d_Ae_mix_42 : decode b_Ae_mix 42 = .ok (.istore 5, 2) := by decide +kernel
theorem d_Ae_mix_44 : decode b_Ae_mix 44 = .ok (.iload_n 2, 1) := by decide +kernel
theorem d_Ae_mix_45 : decode b_Ae_mix 45 = .ok (.iload_n 3, 1) := by decide +kernel
theorem d_Ae_mix_46 : decode b_Ae_mix 46 = .ok (.ixor, 1) := by decide +kernel
theorem d_Ae_mix_47 : decode b_Ae_mix 47 = .ok (.iload 4, 2) := by decide +kernel
theorem d_Ae_mix_49 : decode b_Ae_mix 49 = .ok (.ixor, 1) := by decide +kernel
theorem d_Ae_mix_50 : decode b_Ae_mix 50 = .ok (.iload 5, 2) := by decide +kernel
theorem d_Ae_mix_52 : decode b_Ae_mix 52 = .ok (.ixor, 1) := by decide +kernel
theorem d_Ae_mix_53 : decode b_Ae_mix 53 = .ok (.istore 6, 2) := by decide +kernel
theorem d_Ae_mix_55 : decode b_Ae_mix 55 = .ok (.aload_n 0, 1) := by decide +kernel
theorem d_Ae_mix_56 : decode b_Ae_mix 56 = .ok (.getfield 22, 3) := by decide +kernel
theorem d_Ae_mix_59 : decode b_Ae_mix 59 = .ok (.iload_n 1, 1) := by decide +kernel
theorem d_Ae_mix_60 : decode b_Ae_mix 60 = .ok (.iload_n 2, 1) := by decide +kernel
theorem d_Ae_mix_61 : decode b_Ae_mix 61 = .ok (.iload 6, 2) := by decide +kernel
theorem d_Ae_mix_63 : decode b_Ae_mix 63 = .ok (.ixor, 1) := by decide +kernel
theorem d_Ae_mix_64 : decode b_Ae_mix 64 = .ok (.aload_n 0, 1) := by decide +kernel
theorem d_Ae_mix_65 : decode b_Ae_mix 65 = .ok (.getfield 13, 3) := by decide +kernel
theorem d_Ae_mix_68 : decode b_Ae_mix 68 = .ok (.iload_n 2, 1) := by decide +kernel
theorem d_Ae_mix_69 : decode b_Ae_mix 69 = .ok (.iload_n 3, 1) := by decide +kernel
theorem d_Ae_mix_70 : decode b_Ae_mix 70 = .ok (.ixor, 1) := by decide +kernel
theorem d_Ae_mix_71 : decode b_Ae_mix 71 = .ok (.iaload, 1) := by decide +kernel
theorem d_Ae_mix_72 : decode b_Ae_mix 72 = .ok (.ixor, 1) := by decide +kernel
theorem d_Ae_mix_73 : decode b_Ae_mix 73 = .ok (.iastore, 1) := by decide +kernel
theorem d_Ae_mix_74 : decode b_Ae_mix 74 = .ok (.aload_n 0, 1) := by decide +kernel
theorem d_Ae_mix_75 : decode b_Ae_mix 75 = .ok (.getfield 22, 3) := by decide +kernel
theorem d_Ae_mix_78 : decode b_Ae_mix 78 = .ok (.iload_n 1, 1) := by decide +kernel
theorem d_Ae_mix_79 : decode b_Ae_mix 79 = .ok (.iconst 1, 1) := by decide +kernel
theorem d_Ae_mix_80 : decode b_Ae_mix 80 = .ok (.iadd, 1) := by decide +kernel
theorem d_Ae_mix_81 : decode b_Ae_mix 81 = .ok (.iload_n 3, 1) := by decide +kernel
theorem d_Ae_mix_82 : decode b_Ae_mix 82 = .ok (.iload 6, 2) := by decide +kernel
theorem d_Ae_mix_84 : decode b_Ae_mix 84 = .ok (.ixor, 1) := by decide +kernel
theorem d_Ae_mix_85 : decode b_Ae_mix 85 = .ok (.aload_n 0, 1) := by decide +kernel
theorem d_Ae_mix_86 : decode b_Ae_mix 86 = .ok (.getfield 13, 3) := by decide +kernel
theorem d_Ae_mix_89 : decode b_Ae_mix 89 = .ok (.iload_n 3, 1) := by decide +kernel
theorem d_Ae_mix_90 : decode b_Ae_mix 90 = .ok (.iload 4, 2) := by decide +kernel
theorem d_Ae_mix_92 : decode b_Ae_mix 92 = .ok (.ixor, 1) := by decide +kernel
theorem d_Ae_mix_93 : decode b_Ae_mix 93 = .ok (.iaload, 1) := by decide +kernel
theorem d_Ae_mix_94 : decode b_Ae_mix 94 = .ok (.ixor, 1) := by decide +kernel
theorem d_Ae_mix_95 : decode b_Ae_mix 95 = .ok (.iastore, 1) := by decide +kernel
theorem d_Ae_mix_96 : decode b_Ae_mix 96 = .ok (.aload_n 0, 1) := by decide +kernel
theorem d_Ae_mix_97 : decode b_Ae_mix 97 = .ok (.getfield 22, 3) := by decide +kernel
theorem d_Ae_mix_100 : decode b_Ae_mix 100 = .ok (.iload_n 1, 1) := by decide +kernel
theorem d_Ae_mix_101 : decode b_Ae_mix 101 = .ok (.iconst 2, 1) := by decide +kernel
theorem d_Ae_mix_102 : decode b_Ae_mix 102 = .ok (.iadd, 1) := by decide +kernel
theorem d_Ae_mix_103 : decode b_Ae_mix 103 = .ok (.iload 4, 2) := by decide +kernel
theorem d_Ae_mix_105 : decode b_Ae_mix 105 = .ok (.iload 6, 2) := by decide +kernel
theorem d_Ae_mix_107 : decode b_Ae_mix 107 = .ok (.ixor, 1) := by decide +kernel
theorem d_Ae_mix_108 : decode b_Ae_mix 108 = .ok (.aload_n 0, 1) := by decide +kernel
theorem d_Ae_mix_109 : decode b_Ae_mix 109 = .ok (.getfield 13, 3) := by decide +kernel
theorem d_Ae_mix_112 : decode b_Ae_mix 112 = .ok (.iload 4, 2) := by decide +kernel
theorem d_Ae_mix_114 : decode b_Ae_mix 114 = .ok (.iload 5, 2) := by decide +kernel
theorem d_Ae_mix_116 : decode b_Ae_mix 116 = .ok (.ixor, 1) := by decide +kernel
theorem d_Ae_mix_117 : decode b_Ae_mix 117 = .ok (.iaload, 1) := by decide +kernel
theorem d_Ae_mix_118 : decode b_Ae_mix 118 = .ok (.ixor, 1) := by decide +kernel
theorem d_Ae_mix_119 : decode b_Ae_mix 119 = .ok (.iastore, 1) := by decide +kernel
theorem d_Ae_mix_120 : decode b_Ae_mix 120 = .ok (.aload_n 0, 1) := by decide +kernel
theorem d_Ae_mix_121 : decode b_Ae_mix 121 = .ok (.getfield 22, 3) := by decide +kernel
theorem d_Ae_mix_124 : decode b_Ae_mix 124 = .ok (.iload_n 1, 1) := by decide +kernel
theorem d_Ae_mix_125 : decode b_Ae_mix 125 = .ok (.iconst 3, 1) := by decide +kernel
theorem d_Ae_mix_126 : decode b_Ae_mix 126 = .ok (.iadd, 1) := by decide +kernel
theorem d_Ae_mix_127 : decode b_Ae_mix 127 = .ok (.iload 5, 2) := by decide +kernel
theorem d_Ae_mix_129 : decode b_Ae_mix 129 = .ok (.iload 6, 2) := by decide +kernel
theorem d_Ae_mix_131 : decode b_Ae_mix 131 = .ok (.ixor, 1) := by decide +kernel
theorem d_Ae_mix_132 : decode b_Ae_mix 132 = .ok (.aload_n 0, 1) := by decide +kernel
theorem d_Ae_mix_133 : decode b_Ae_mix 133 = .ok (.getfield 13, 3) := by decide +kernel
theorem d_Ae_mix_136 : decode b_Ae_mix 136 = .ok (.iload 5, 2) := by decide +kernel
theorem d_Ae_mix_138 : decode b_Ae_mix 138 = .ok (.iload_n 2, 1) := by decide +kernel
theorem d_Ae_mix_139 : decode b_Ae_mix 139 = .ok (.ixor, 1) := by decide +kernel
theorem d_Ae_mix_140 : decode b_Ae_mix 140 = .ok (.iaload, 1) := by decide +kernel
theorem d_Ae_mix_141 : decode b_Ae_mix 141 = .ok (.ixor, 1) := by decide +kernel
theorem d_Ae_mix_142 : decode b_Ae_mix 142 = .ok (.iastore, 1) := by decide +kernel
theorem d_Ae_mix_143 : decode b_Ae_mix 143 = .ok (.iinc 1 4, 3) := by decide +kernel
theorem d_Ae_mix_146 : decode b_Ae_mix 146 = .ok (.goto (-144), 3) := by decide +kernel
theorem d_Ae_mix_149 : decode b_Ae_mix 149 = .ok (.return_, 1) := by decide +kernel
abbrev b_Ae_setKey : ByteArray := prog_2_method_2_code
def y_Ae_setKey : MethodName := ⟨R_Ae, "setKey", "([BI)V"⟩
abbrev k_Ae_setKey : Cond := .code y_Ae_setKey b_Ae_setKey 11 none
theorem ki_Ae_setKey : k_Ae_setKey ∈ lw_tg := in_t 637 (by decide +kernel)
theorem ks_Ae_setKey : Cond.instanceMethod y_Ae_setKey ∈ lw_tg := in_t 635 (by decide +kernel)
theorem kx_Ae_setKey : Cond.selects R_Ae y_Ae_setKey y_Ae_setKey ∈ lw_tg := in_t 636 (by decide +kernel)
theorem kl_Va_Ae_setKey : Cond.methodLink R_Va 148 y_Ae_setKey ∈ lw_tg := in_t 634 (by decide +kernel)
theorem hd_Ae_setKey : y_Ae_setKey.cls = R_Ae ∧ y_Ae_setKey.cls ≠ "java/lang/invoke/MethodHandle" ∧ y_Ae_setKey.cls ≠ "java/lang/invoke/VarHandle" ∧ (parseMethodDescriptor y_Ae_setKey.desc).map (fun d => d.parameters.length) = some 2 := by decide +kernel
theorem d_Ae_setKey_0 : decode b_Ae_setKey 0 = .ok (.iload_n 2, 1) := by decide +kernel
theorem d_Ae_setKey_1 : decode b_Ae_setKey 1 = .ok (.bipush 32, 2) := by decide +kernel
theorem d_Ae_setKey_3 : decode b_Ae_setKey 3 = .ok (.if_icmp .ne 15, 3) := by decide +kernel
theorem d_Ae_setKey_6 : decode b_Ae_setKey 6 = .ok (.aload_n 1, 1) := by decide +kernel
theorem d_Ae_setKey_7 : decode b_Ae_setKey 7 = .ok (.arraylength, 1) := by decide +kernel
theorem d_Ae_setKey_8 : decode b_Ae_setKey 8 = .ok (.bipush 32, 2) := by decide +kernel
theorem d_Ae_setKey_10 : decode b_Ae_setKey 10 = .ok (.if_icmp .lt 8, 3) := by decide +kernel
theorem d_Ae_setKey_13 : decode b_Ae_setKey 13 = .ok (.bipush 32, 2) := by decide +kernel
theorem d_Ae_setKey_15 : decode b_Ae_setKey 15 = .ok (.goto 5, 3) := by decide +kernel
theorem d_Ae_setKey_18 : decode b_Ae_setKey 18 = .ok (.bipush 16, 2) := by decide +kernel
theorem d_Ae_setKey_20 : decode b_Ae_setKey 20 = .ok (.istore_n 3, 1) := by decide +kernel
theorem d_Ae_setKey_21 : decode b_Ae_setKey 21 = .ok (.aload_n 0, 1) := by decide +kernel
theorem d_Ae_setKey_22 : decode b_Ae_setKey 22 = .ok (.iload_n 3, 1) := by decide +kernel
theorem d_Ae_setKey_23 : decode b_Ae_setKey 23 = .ok (.iconst 4, 1) := by decide +kernel
theorem d_Ae_setKey_24 : decode b_Ae_setKey 24 = .ok (.idiv, 1) := by decide +kernel
theorem d_Ae_setKey_25 : decode b_Ae_setKey 25 = .ok (.bipush 6, 2) := by decide +kernel
theorem d_Ae_setKey_27 : decode b_Ae_setKey 27 = .ok (.iadd, 1) := by decide +kernel
theorem d_Ae_setKey_28 : decode b_Ae_setKey 28 = .ok (.putfield 32, 3) := by decide +kernel
theorem lk_Ae_32 : Cond.fieldLink R_Ae 32 R_Ae (F_Ae 3).2.1 (F_Ae 3).2.2.1 ∈ lw_tg := in_t 108 (by decide +kernel)
theorem d_Ae_setKey_31 : decode b_Ae_setKey 31 = .ok (.iconst 0, 1) := by decide +kernel
theorem d_Ae_setKey_32 : decode b_Ae_setKey 32 = .ok (.istore 4, 2) := by decide +kernel
theorem d_Ae_setKey_34 : decode b_Ae_setKey 34 = .ok (.iload 4, 2) := by decide +kernel
theorem d_Ae_setKey_36 : decode b_Ae_setKey 36 = .ok (.iload_n 3, 1) := by decide +kernel
theorem d_Ae_setKey_37 : decode b_Ae_setKey 37 = .ok (.if_icmp .ge 35, 3) := by decide +kernel
theorem d_Ae_setKey_40 : decode b_Ae_setKey 40 = .ok (.aload_n 0, 1) := by decide +kernel
theorem d_Ae_setKey_41 : decode b_Ae_setKey 41 = .ok (.getfield 16, 3) := by decide +kernel
theorem d_Ae_setKey_44 : decode b_Ae_setKey 44 = .ok (.iload 4, 2) := by decide +kernel
theorem d_Ae_setKey_46 : decode b_Ae_setKey 46 = .ok (.iload 4, 2) := by decide +kernel
theorem d_Ae_setKey_48 : decode b_Ae_setKey 48 = .ok (.aload_n 1, 1) := by decide +kernel
theorem d_Ae_setKey_49 : decode b_Ae_setKey 49 = .ok (.arraylength, 1) := by decide +kernel
theorem d_Ae_setKey_50 : decode b_Ae_setKey 50 = .ok (.if_icmp .ge 14, 3) := by decide +kernel
theorem d_Ae_setKey_53 : decode b_Ae_setKey 53 = .ok (.aload_n 1, 1) := by decide +kernel
theorem d_Ae_setKey_54 : decode b_Ae_setKey 54 = .ok (.iload 4, 2) := by decide +kernel
theorem d_Ae_setKey_56 : decode b_Ae_setKey 56 = .ok (.baload, 1) := by decide +kernel
theorem d_Ae_setKey_57 : decode b_Ae_setKey 57 = .ok (.sipush 255, 3) := by decide +kernel
theorem d_Ae_setKey_60 : decode b_Ae_setKey 60 = .ok (.iand, 1) := by decide +kernel
theorem d_Ae_setKey_61 : decode b_Ae_setKey 61 = .ok (.goto 4, 3) := by decide +kernel
theorem d_Ae_setKey_64 : decode b_Ae_setKey 64 = .ok (.iconst 0, 1) := by decide +kernel
theorem d_Ae_setKey_65 : decode b_Ae_setKey 65 = .ok (.iastore, 1) := by decide +kernel
theorem d_Ae_setKey_66 : decode b_Ae_setKey 66 = .ok (.iinc 4 1, 3) := by decide +kernel
theorem d_Ae_setKey_69 : decode b_Ae_setKey 69 = .ok (.goto (-35), 3) := by decide +kernel
theorem d_Ae_setKey_72 : decode b_Ae_setKey 72 = .ok (.iconst 1, 1) := by decide +kernel
theorem d_Ae_setKey_73 : decode b_Ae_setKey 73 = .ok (.istore 4, 2) := by decide +kernel
theorem d_Ae_setKey_75 : decode b_Ae_setKey 75 = .ok (.iload_n 3, 1) := by decide +kernel
theorem d_Ae_setKey_76 : decode b_Ae_setKey 76 = .ok (.istore 5, 2) := by decide +kernel
theorem d_Ae_setKey_78 : decode b_Ae_setKey 78 = .ok (.iload 5, 2) := by decide +kernel
theorem d_Ae_setKey_80 : decode b_Ae_setKey 80 = .ok (.bipush 16, 2) := by decide +kernel
theorem d_Ae_setKey_82 : decode b_Ae_setKey 82 = .ok (.aload_n 0, 1) := by decide +kernel
theorem d_Ae_setKey_83 : decode b_Ae_setKey 83 = .ok (.getfield 32, 3) := by decide +kernel
theorem d_Ae_setKey_86 : decode b_Ae_setKey 86 = .ok (.iconst 1, 1) := by decide +kernel
theorem d_Ae_setKey_87 : decode b_Ae_setKey 87 = .ok (.iadd, 1) := by decide +kernel
theorem d_Ae_setKey_88 : decode b_Ae_setKey 88 = .ok (.imul, 1) := by decide +kernel
theorem d_Ae_setKey_89 : decode b_Ae_setKey 89 = .ok (.if_icmp .ge 246, 3) := by decide +kernel
theorem d_Ae_setKey_92 : decode b_Ae_setKey 92 = .ok (.aload_n 0, 1) := by decide +kernel
theorem d_Ae_setKey_93 : decode b_Ae_setKey 93 = .ok (.getfield 16, 3) := by decide +kernel
theorem d_Ae_setKey_96 : decode b_Ae_setKey 96 = .ok (.iload 5, 2) := by decide +kernel
theorem d_Ae_setKey_98 : decode b_Ae_setKey 98 = .ok (.iconst 4, 1) := by decide +kernel
theorem d_Ae_setKey_99 : decode b_Ae_setKey 99 = .ok (.isub, 1) := by decide +kernel
theorem d_Ae_setKey_100 : decode b_Ae_setKey 100 = .ok (.iaload, 1) := by decide +kernel
theorem d_Ae_setKey_101 : decode b_Ae_setKey 101 = .ok (.istore 6, 2) := by decide +kernel
theorem d_Ae_setKey_103 : decode b_Ae_setKey 103 = .ok (.aload_n 0, 1) := by decide +kernel
theorem d_Ae_setKey_104 : decode b_Ae_setKey 104 = .ok (.getfield 16, 3) := by decide +kernel
theorem d_Ae_setKey_107 : decode b_Ae_setKey 107 = .ok (.iload 5, 2) := by decide +kernel
theorem d_Ae_setKey_109 : decode b_Ae_setKey 109 = .ok (.iconst 3, 1) := by decide +kernel
theorem d_Ae_setKey_110 : decode b_Ae_setKey 110 = .ok (.isub, 1) := by decide +kernel
theorem d_Ae_setKey_111 : decode b_Ae_setKey 111 = .ok (.iaload, 1) := by decide +kernel
theorem d_Ae_setKey_112 : decode b_Ae_setKey 112 = .ok (.istore 7, 2) := by decide +kernel
theorem d_Ae_setKey_114 : decode b_Ae_setKey 114 = .ok (.aload_n 0, 1) := by decide +kernel
theorem d_Ae_setKey_115 : decode b_Ae_setKey 115 = .ok (.getfield 16, 3) := by decide +kernel
theorem d_Ae_setKey_118 : decode b_Ae_setKey 118 = .ok (.iload 5, 2) := by decide +kernel
theorem d_Ae_setKey_120 : decode b_Ae_setKey 120 = .ok (.iconst 2, 1) := by decide +kernel
theorem d_Ae_setKey_121 : decode b_Ae_setKey 121 = .ok (.isub, 1) := by decide +kernel
theorem d_Ae_setKey_122 : decode b_Ae_setKey 122 = .ok (.iaload, 1) := by decide +kernel
theorem d_Ae_setKey_123 : decode b_Ae_setKey 123 = .ok (.istore 8, 2) := by decide +kernel
theorem d_Ae_setKey_125 : decode b_Ae_setKey 125 = .ok (.aload_n 0, 1) := by decide +kernel
theorem d_Ae_setKey_126 : decode b_Ae_setKey 126 = .ok (.getfield 16, 3) := by decide +kernel
theorem d_Ae_setKey_129 : decode b_Ae_setKey 129 = .ok (.iload 5, 2) := by decide +kernel
theorem d_Ae_setKey_131 : decode b_Ae_setKey 131 = .ok (.iconst 1, 1) := by decide +kernel
theorem d_Ae_setKey_132 : decode b_Ae_setKey 132 = .ok (.isub, 1) := by decide +kernel
theorem d_Ae_setKey_133 : decode b_Ae_setKey 133 = .ok (.iaload, 1) := by decide +kernel
theorem d_Ae_setKey_134 : decode b_Ae_setKey 134 = .ok (.istore 9, 2) := by decide +kernel
theorem d_Ae_setKey_136 : decode b_Ae_setKey 136 = .ok (.iload 5, 2) := by decide +kernel
theorem d_Ae_setKey_138 : decode b_Ae_setKey 138 = .ok (.iload_n 3, 1) := by decide +kernel
theorem d_Ae_setKey_139 : decode b_Ae_setKey 139 = .ok (.irem, 1) := by decide +kernel
theorem d_Ae_setKey_140 : decode b_Ae_setKey 140 = .ok (.ifCond .ne 54, 3) := by decide +kernel
theorem d_Ae_setKey_143 : decode b_Ae_setKey 143 = .ok (.iload 6, 2) := by decide +kernel
theorem d_Ae_setKey_145 : decode b_Ae_setKey 145 = .ok (.istore 10, 2) := by decide +kernel
theorem d_Ae_setKey_147 : decode b_Ae_setKey 147 = .ok (.getstatic 29, 3) := by decide +kernel
theorem d_Ae_setKey_150 : decode b_Ae_setKey 150 = .ok (.iload 7, 2) := by decide +kernel
theorem d_Ae_setKey_152 : decode b_Ae_setKey 152 = .ok (.iaload, 1) := by decide +kernel
theorem d_Ae_setKey_153 : decode b_Ae_setKey 153 = .ok (.iload 4, 2) := by decide +kernel
theorem d_Ae_setKey_155 : decode b_Ae_setKey 155 = .ok (.ixor, 1) := by decide +kernel
theorem d_Ae_setKey_156 : decode b_Ae_setKey 156 = .ok (.istore 6, 2) := by decide +kernel
theorem d_Ae_setKey_158 : decode b_Ae_setKey 158 = .ok (.getstatic 29, 3) := by decide +kernel
theorem d_Ae_setKey_161 : decode b_Ae_setKey 161 = .ok (.iload 8, 2) := by decide +kernel
theorem d_Ae_setKey_163 : decode b_Ae_setKey 163 = .ok (.iaload, 1) := by decide +kernel
theorem d_Ae_setKey_164 : decode b_Ae_setKey 164 = .ok (.istore 7, 2) := by decide +kernel
theorem d_Ae_setKey_166 : decode b_Ae_setKey 166 = .ok (.getstatic 29, 3) := by decide +kernel
theorem d_Ae_setKey_169 : decode b_Ae_setKey 169 = .ok (.iload 9, 2) := by decide +kernel
theorem d_Ae_setKey_171 : decode b_Ae_setKey 171 = .ok (.iaload, 1) := by decide +kernel
theorem d_Ae_setKey_172 : decode b_Ae_setKey 172 = .ok (.istore 8, 2) := by decide +kernel
theorem d_Ae_setKey_174 : decode b_Ae_setKey 174 = .ok (.getstatic 29, 3) := by decide +kernel
theorem d_Ae_setKey_177 : decode b_Ae_setKey 177 = .ok (.iload 10, 2) := by decide +kernel
theorem d_Ae_setKey_179 : decode b_Ae_setKey 179 = .ok (.iaload, 1) := by decide +kernel
theorem d_Ae_setKey_180 : decode b_Ae_setKey 180 = .ok (.istore 9, 2) := by decide +kernel
theorem d_Ae_setKey_182 : decode b_Ae_setKey 182 = .ok (.aload_n 0, 1) := by decide +kernel
theorem d_Ae_setKey_183 : decode b_Ae_setKey 183 = .ok (.getfield 13, 3) := by decide +kernel
theorem d_Ae_setKey_186 : decode b_Ae_setKey 186 = .ok (.iload 4, 2) := by decide +kernel
theorem d_Ae_setKey_188 : decode b_Ae_setKey 188 = .ok (.iaload, 1) := by decide +kernel
theorem d_Ae_setKey_189 : decode b_Ae_setKey 189 = .ok (.istore 4, 2) := by decide +kernel
theorem d_Ae_setKey_191 : decode b_Ae_setKey 191 = .ok (.goto 50, 3) := by decide +kernel
theorem d_Ae_setKey_194 : decode b_Ae_setKey 194 = .ok (.iload_n 3, 1) := by decide +kernel
theorem d_Ae_setKey_195 : decode b_Ae_setKey 195 = .ok (.bipush 32, 2) := by decide +kernel
theorem d_Ae_setKey_197 : decode b_Ae_setKey 197 = .ok (.if_icmp .ne 44, 3) := by decide +kernel
theorem d_Ae_setKey_200 : decode b_Ae_setKey 200 = .ok (.iload 5, 2) := by decide +kernel
theorem d_Ae_setKey_202 : decode b_Ae_setKey 202 = .ok (.iload_n 3, 1) := by decide +kernel
theorem d_Ae_setKey_203 : decode b_Ae_setKey 203 = .ok (.irem, 1) := by decide +kernel
theorem d_Ae_setKey_204 : decode b_Ae_setKey 204 = .ok (.bipush 16, 2) := by decide +kernel
theorem d_Ae_setKey_206 : decode b_Ae_setKey 206 = .ok (.if_icmp .ne 35, 3) := by decide +kernel
theorem d_Ae_setKey_209 : decode b_Ae_setKey 209 = .ok (.getstatic 29, 3) := by decide +kernel
theorem d_Ae_setKey_212 : decode b_Ae_setKey 212 = .ok (.iload 6, 2) := by decide +kernel
theorem d_Ae_setKey_214 : decode b_Ae_setKey 214 = .ok (.iaload, 1) := by decide +kernel
theorem d_Ae_setKey_215 : decode b_Ae_setKey 215 = .ok (.istore 6, 2) := by decide +kernel
theorem d_Ae_setKey_217 : decode b_Ae_setKey 217 = .ok (.getstatic 29, 3) := by decide +kernel
theorem d_Ae_setKey_220 : decode b_Ae_setKey 220 = .ok (.iload 7, 2) := by decide +kernel
theorem d_Ae_setKey_222 : decode b_Ae_setKey 222 = .ok (.iaload, 1) := by decide +kernel
theorem d_Ae_setKey_223 : decode b_Ae_setKey 223 = .ok (.istore 7, 2) := by decide +kernel
theorem d_Ae_setKey_225 : decode b_Ae_setKey 225 = .ok (.getstatic 29, 3) := by decide +kernel
theorem d_Ae_setKey_228 : decode b_Ae_setKey 228 = .ok (.iload 8, 2) := by decide +kernel
theorem d_Ae_setKey_230 : decode b_Ae_setKey 230 = .ok (.iaload, 1) := by decide +kernel
theorem d_Ae_setKey_231 : decode b_Ae_setKey 231 = .ok (.istore 8, 2) := by decide +kernel
theorem d_Ae_setKey_233 : decode b_Ae_setKey 233 = .ok (.getstatic 29, 3) := by decide +kernel
theorem d_Ae_setKey_236 : decode b_Ae_setKey 236 = .ok (.iload 9, 2) := by decide +kernel
theorem d_Ae_setKey_238 : decode b_Ae_setKey 238 = .ok (.iaload, 1) := by decide +kernel
theorem d_Ae_setKey_239 : decode b_Ae_setKey 239 = .ok (.istore 9, 2) := by decide +kernel
theorem d_Ae_setKey_241 : decode b_Ae_setKey 241 = .ok (.aload_n 0, 1) := by decide +kernel
theorem d_Ae_setKey_242 : decode b_Ae_setKey 242 = .ok (.getfield 16, 3) := by decide +kernel
theorem d_Ae_setKey_245 : decode b_Ae_setKey 245 = .ok (.iload 5, 2) := by decide +kernel
theorem d_Ae_setKey_247 : decode b_Ae_setKey 247 = .ok (.aload_n 0, 1) := by decide +kernel
theorem d_Ae_setKey_248 : decode b_Ae_setKey 248 = .ok (.getfield 16, 3) := by decide +kernel
theorem d_Ae_setKey_251 : decode b_Ae_setKey 251 = .ok (.iload 5, 2) := by decide +kernel
theorem d_Ae_setKey_253 : decode b_Ae_setKey 253 = .ok (.iload_n 3, 1) := by decide +kernel
theorem d_Ae_setKey_254 : decode b_Ae_setKey 254 = .ok (.isub, 1) := by decide +kernel
theorem d_Ae_setKey_255 : decode b_Ae_setKey 255 = .ok (.iaload, 1) := by decide +kernel
theorem d_Ae_setKey_256 : decode b_Ae_setKey 256 = .ok (.iload 6, 2) := by decide +kernel
theorem d_Ae_setKey_258 : decode b_Ae_setKey 258 = .ok (.ixor, 1) := by decide +kernel
theorem d_Ae_setKey_259 : decode b_Ae_setKey 259 = .ok (.iastore, 1) := by decide +kernel
theorem d_Ae_setKey_260 : decode b_Ae_setKey 260 = .ok (.aload_n 0, 1) := by decide +kernel
theorem d_Ae_setKey_261 : decode b_Ae_setKey 261 = .ok (.getfield 16, 3) := by decide +kernel
theorem d_Ae_setKey_264 : decode b_Ae_setKey 264 = .ok (.iload 5, 2) := by decide +kernel
theorem d_Ae_setKey_266 : decode b_Ae_setKey 266 = .ok (.iconst 1, 1) := by decide +kernel
theorem d_Ae_setKey_267 : decode b_Ae_setKey 267 = .ok (.iadd, 1) := by decide +kernel
theorem d_Ae_setKey_268 : decode b_Ae_setKey 268 = .ok (.aload_n 0, 1) := by decide +kernel
theorem d_Ae_setKey_269 : decode b_Ae_setKey 269 = .ok (.getfield 16, 3) := by decide +kernel
theorem d_Ae_setKey_272 : decode b_Ae_setKey 272 = .ok (.iload 5, 2) := by decide +kernel
theorem d_Ae_setKey_274 : decode b_Ae_setKey 274 = .ok (.iconst 1, 1) := by decide +kernel
theorem d_Ae_setKey_275 : decode b_Ae_setKey 275 = .ok (.iadd, 1) := by decide +kernel
theorem d_Ae_setKey_276 : decode b_Ae_setKey 276 = .ok (.iload_n 3, 1) := by decide +kernel
theorem d_Ae_setKey_277 : decode b_Ae_setKey 277 = .ok (.isub, 1) := by decide +kernel
theorem d_Ae_setKey_278 : decode b_Ae_setKey 278 = .ok (.iaload, 1) := by decide +kernel
theorem d_Ae_setKey_279 : decode b_Ae_setKey 279 = .ok (.iload 7, 2) := by decide +kernel
theorem d_Ae_setKey_281 : decode b_Ae_setKey 281 = .ok (.ixor, 1) := by decide +kernel
theorem d_Ae_setKey_282 : decode b_Ae_setKey 282 = .ok (.iastore, 1) := by decide +kernel
theorem d_Ae_setKey_283 : decode b_Ae_setKey 283 = .ok (.aload_n 0, 1) := by decide +kernel
theorem d_Ae_setKey_284 : decode b_Ae_setKey 284 = .ok (.getfield 16, 3) := by decide +kernel
theorem d_Ae_setKey_287 : decode b_Ae_setKey 287 = .ok (.iload 5, 2) := by decide +kernel
theorem d_Ae_setKey_289 : decode b_Ae_setKey 289 = .ok (.iconst 2, 1) := by decide +kernel
theorem d_Ae_setKey_290 : decode b_Ae_setKey 290 = .ok (.iadd, 1) := by decide +kernel
theorem d_Ae_setKey_291 : decode b_Ae_setKey 291 = .ok (.aload_n 0, 1) := by decide +kernel
theorem d_Ae_setKey_292 : decode b_Ae_setKey 292 = .ok (.getfield 16, 3) := by decide +kernel
theorem d_Ae_setKey_295 : decode b_Ae_setKey 295 = .ok (.iload 5, 2) := by decide +kernel
theorem d_Ae_setKey_297 : decode b_Ae_setKey 297 = .ok (.iconst 2, 1) := by decide +kernel
theorem d_Ae_setKey_298 : decode b_Ae_setKey 298 = .ok (.iadd, 1) := by decide +kernel
theorem d_Ae_setKey_299 : decode b_Ae_setKey 299 = .ok (.iload_n 3, 1) := by decide +kernel
theorem d_Ae_setKey_300 : decode b_Ae_setKey 300 = .ok (.isub, 1) := by decide +kernel
theorem d_Ae_setKey_301 : decode b_Ae_setKey 301 = .ok (.iaload, 1) := by decide +kernel
theorem d_Ae_setKey_302 : decode b_Ae_setKey 302 = .ok (.iload 8, 2) := by decide +kernel
theorem d_Ae_setKey_304 : decode b_Ae_setKey 304 = .ok (.ixor, 1) := by decide +kernel
theorem d_Ae_setKey_305 : decode b_Ae_setKey 305 = .ok (.iastore, 1) := by decide +kernel
theorem d_Ae_setKey_306 : decode b_Ae_setKey 306 = .ok (.aload_n 0, 1) := by decide +kernel
theorem d_Ae_setKey_307 : decode b_Ae_setKey 307 = .ok (.getfield 16, 3) := by decide +kernel
theorem d_Ae_setKey_310 : decode b_Ae_setKey 310 = .ok (.iload 5, 2) := by decide +kernel
theorem d_Ae_setKey_312 : decode b_Ae_setKey 312 = .ok (.iconst 3, 1) := by decide +kernel
theorem d_Ae_setKey_313 : decode b_Ae_setKey 313 = .ok (.iadd, 1) := by decide +kernel
theorem d_Ae_setKey_314 : decode b_Ae_setKey 314 = .ok (.aload_n 0, 1) := by decide +kernel
theorem d_Ae_setKey_315 : decode b_Ae_setKey 315 = .ok (.getfield 16, 3) := by decide +kernel
theorem d_Ae_setKey_318 : decode b_Ae_setKey 318 = .ok (.iload 5, 2) := by decide +kernel
theorem d_Ae_setKey_320 : decode b_Ae_setKey 320 = .ok (.iconst 3, 1) := by decide +kernel
theorem d_Ae_setKey_321 : decode b_Ae_setKey 321 = .ok (.iadd, 1) := by decide +kernel
theorem d_Ae_setKey_322 : decode b_Ae_setKey 322 = .ok (.iload_n 3, 1) := by decide +kernel
theorem d_Ae_setKey_323 : decode b_Ae_setKey 323 = .ok (.isub, 1) := by decide +kernel
theorem d_Ae_setKey_324 : decode b_Ae_setKey 324 = .ok (.iaload, 1) := by decide +kernel
theorem d_Ae_setKey_325 : decode b_Ae_setKey 325 = .ok (.iload 9, 2) := by decide +kernel
theorem d_Ae_setKey_327 : decode b_Ae_setKey 327 = .ok (.ixor, 1) := by decide +kernel
theorem d_Ae_setKey_328 : decode b_Ae_setKey 328 = .ok (.iastore, 1) := by decide +kernel
theorem d_Ae_setKey_329 : decode b_Ae_setKey 329 = .ok (.iinc 5 4, 3) := by decide +kernel
theorem d_Ae_setKey_332 : decode b_Ae_setKey 332 = .ok (.goto (-254), 3) := by decide +kernel
theorem d_Ae_setKey_335 : decode b_Ae_setKey 335 = .ok (.return_, 1) := by decide +kernel
abbrev b_Ae_encrypt : ByteArray := prog_2_method_3_code
def y_Ae_encrypt : MethodName := ⟨R_Ae, "encrypt", "([BI)V"⟩
abbrev k_Ae_encrypt : Cond := .code y_Ae_encrypt b_Ae_encrypt 5 none
theorem ki_Ae_encrypt : k_Ae_encrypt ∈ lw_tg := in_t 647 (by decide +kernel)
theorem ks_Ae_encrypt : Cond.instanceMethod y_Ae_encrypt ∈ lw_tg := in_t 645 (by decide +kernel)
theorem kx_Ae_encrypt : Cond.selects R_Ae y_Ae_encrypt y_Ae_encrypt ∈ lw_tg := in_t 646 (by decide +kernel)
theorem kl_Va_Ae_encrypt : Cond.methodLink R_Va 157 y_Ae_encrypt ∈ lw_tg := in_t 644 (by decide +kernel)
theorem kl_Ae_Ae_encrypt : Cond.methodLink R_Ae 48 y_Ae_encrypt ∈ lw_tg := in_t 1332 (by decide +kernel)
theorem hd_Ae_encrypt : y_Ae_encrypt.cls = R_Ae ∧ y_Ae_encrypt.cls ≠ "java/lang/invoke/MethodHandle" ∧ y_Ae_encrypt.cls ≠ "java/lang/invoke/VarHandle" ∧ (parseMethodDescriptor y_Ae_encrypt.desc).map (fun d => d.parameters.length) = some 2 := by decide +kernel
theorem d_Ae_encrypt_0 : decode b_Ae_encrypt 0 = .ok (.iload_n 2, 1) := by decide +kernel
theorem d_Ae_encrypt_1 : decode b_Ae_encrypt 1 = .ok (.ifCond .lt 12, 3) := by decide +kernel
theorem d_Ae_encrypt_4 : decode b_Ae_encrypt 4 = .ok (.iload_n 2, 1) := by decide +kernel
theorem d_Ae_encrypt_5 : decode b_Ae_encrypt 5 = .ok (.aload_n 1, 1) := by decide +kernel
theorem d_Ae_encrypt_6 : decode b_Ae_encrypt 6 = .ok (.arraylength, 1) := by decide +kernel
theorem d_Ae_encrypt_7 : decode b_Ae_encrypt 7 = .ok (.bipush 16, 2) := by decide +kernel
theorem d_Ae_encrypt_9 : decode b_Ae_encrypt 9 = .ok (.isub, 1) := by decide +kernel
theorem d_Ae_encrypt_10 : decode b_Ae_encrypt 10 = .ok (.if_icmp .le 4, 3) := by decide +kernel
theorem d_Ae_encrypt_13 : decode b_Ae_encrypt 13 = .ok (.return_, 1) := by decide +kernel
theorem d_Ae_encrypt_14 : decode b_Ae_encrypt 14 = .ok (.iconst 0, 1) := by decide +kernel
theorem d_Ae_encrypt_15 : decode b_Ae_encrypt 15 = .ok (.istore_n 3, 1) := by decide +kernel
theorem d_Ae_encrypt_16 : decode b_Ae_encrypt 16 = .ok (.iload_n 3, 1) := by decide +kernel
theorem d_Ae_encrypt_17 : decode b_Ae_encrypt 17 = .ok (.bipush 16, 2) := by decide +kernel
theorem d_Ae_encrypt_19 : decode b_Ae_encrypt 19 = .ok (.if_icmp .ge 31, 3) := by decide +kernel
theorem d_Ae_encrypt_22 : decode b_Ae_encrypt 22 = .ok (.aload_n 0, 1) := by decide +kernel
theorem d_Ae_encrypt_23 : decode b_Ae_encrypt 23 = .ok (.getfield 19, 3) := by decide +kernel
theorem d_Ae_encrypt_26 : decode b_Ae_encrypt 26 = .ok (.iload_n 3, 1) := by decide +kernel
theorem d_Ae_encrypt_27 : decode b_Ae_encrypt 27 = .ok (.aload_n 1, 1) := by decide +kernel
theorem d_Ae_encrypt_28 : decode b_Ae_encrypt 28 = .ok (.iload_n 2, 1) := by decide +kernel
theorem d_Ae_encrypt_29 : decode b_Ae_encrypt 29 = .ok (.iload_n 3, 1) := by decide +kernel
theorem d_Ae_encrypt_30 : decode b_Ae_encrypt 30 = .ok (.iadd, 1) := by decide +kernel
theorem d_Ae_encrypt_31 : decode b_Ae_encrypt 31 = .ok (.baload, 1) := by decide +kernel
theorem d_Ae_encrypt_32 : decode b_Ae_encrypt 32 = .ok (.sipush 255, 3) := by decide +kernel
theorem d_Ae_encrypt_35 : decode b_Ae_encrypt 35 = .ok (.iand, 1) := by decide +kernel
theorem d_Ae_encrypt_36 : decode b_Ae_encrypt 36 = .ok (.aload_n 0, 1) := by decide +kernel
theorem d_Ae_encrypt_37 : decode b_Ae_encrypt 37 = .ok (.getfield 16, 3) := by decide +kernel
theorem d_Ae_encrypt_40 : decode b_Ae_encrypt 40 = .ok (.iload_n 3, 1) := by decide +kernel
theorem d_Ae_encrypt_41 : decode b_Ae_encrypt 41 = .ok (.iaload, 1) := by decide +kernel
theorem d_Ae_encrypt_42 : decode b_Ae_encrypt 42 = .ok (.ixor, 1) := by decide +kernel
theorem d_Ae_encrypt_43 : decode b_Ae_encrypt 43 = .ok (.iastore, 1) := by decide +kernel
theorem d_Ae_encrypt_44 : decode b_Ae_encrypt 44 = .ok (.iinc 3 1, 3) := by decide +kernel
theorem d_Ae_encrypt_47 : decode b_Ae_encrypt 47 = .ok (.goto (-31), 3) := by decide +kernel
theorem d_Ae_encrypt_50 : decode b_Ae_encrypt 50 = .ok (.iconst 1, 1) := by decide +kernel
theorem d_Ae_encrypt_51 : decode b_Ae_encrypt 51 = .ok (.istore_n 3, 1) := by decide +kernel
theorem d_Ae_encrypt_52 : decode b_Ae_encrypt 52 = .ok (.iload_n 3, 1) := by decide +kernel
theorem d_Ae_encrypt_53 : decode b_Ae_encrypt 53 = .ok (.aload_n 0, 1) := by decide +kernel
theorem d_Ae_encrypt_54 : decode b_Ae_encrypt 54 = .ok (.getfield 32, 3) := by decide +kernel
theorem d_Ae_encrypt_57 : decode b_Ae_encrypt 57 = .ok (.if_icmp .gt 108, 3) := by decide +kernel
theorem d_Ae_encrypt_60 : decode b_Ae_encrypt 60 = .ok (.iconst 0, 1) := by decide +kernel
theorem d_Ae_encrypt_61 : decode b_Ae_encrypt 61 = .ok (.istore 4, 2) := by decide +kernel
theorem d_Ae_encrypt_63 : decode b_Ae_encrypt 63 = .ok (.iload 4, 2) := by decide +kernel
theorem d_Ae_encrypt_65 : decode b_Ae_encrypt 65 = .ok (.bipush 16, 2) := by decide +kernel
theorem d_Ae_encrypt_67 : decode b_Ae_encrypt 67 = .ok (.if_icmp .ge 37, 3) := by decide +kernel
theorem d_Ae_encrypt_70 : decode b_Ae_encrypt 70 = .ok (.aload_n 0, 1) := by decide +kernel
theorem d_Ae_encrypt_71 : decode b_Ae_encrypt 71 = .ok (.getfield 22, 3) := by decide +kernel
theorem d_Ae_encrypt_74 : decode b_Ae_encrypt 74 = .ok (.iload 4, 2) := by decide +kernel
theorem d_Ae_encrypt_76 : decode b_Ae_encrypt 76 = .ok (.getstatic 29, 3) := by decide +kernel
theorem d_Ae_encrypt_79 : decode b_Ae_encrypt 79 = .ok (.aload_n 0, 1) := by decide +kernel
theorem d_Ae_encrypt_80 : decode b_Ae_encrypt 80 = .ok (.getfield 19, 3) := by decide +kernel
theorem d_Ae_encrypt_83 : decode b_Ae_encrypt 83 = .ok (.iload 4, 2) := by decide +kernel
theorem d_Ae_encrypt_85 : decode b_Ae_encrypt 85 = .ok (.iconst 4, 1) := by decide +kernel
theorem d_Ae_encrypt_86 : decode b_Ae_encrypt 86 = .ok (.iload 4, 2) := by decide +kernel
theorem d_Ae_encrypt_88 : decode b_Ae_encrypt 88 = .ok (.iconst 3, 1) := by decide +kernel
theorem d_Ae_encrypt_89 : decode b_Ae_encrypt 89 = .ok (.iand, 1) := by decide +kernel
theorem d_Ae_encrypt_90 : decode b_Ae_encrypt 90 = .ok (.imul, 1) := by decide +kernel
theorem d_Ae_encrypt_91 : decode b_Ae_encrypt 91 = .ok (.iadd, 1) := by decide +kernel
theorem d_Ae_encrypt_92 : decode b_Ae_encrypt 92 = .ok (.bipush 15, 2) := by decide +kernel
theorem d_Ae_encrypt_94 : decode b_Ae_encrypt 94 = .ok (.iand, 1) := by decide +kernel
theorem d_Ae_encrypt_95 : decode b_Ae_encrypt 95 = .ok (.iaload, 1) := by decide +kernel
theorem d_Ae_encrypt_96 : decode b_Ae_encrypt 96 = .ok (.iaload, 1) := by decide +kernel
theorem d_Ae_encrypt_97 : decode b_Ae_encrypt 97 = .ok (.iastore, 1) := by decide +kernel
theorem d_Ae_encrypt_98 : decode b_Ae_encrypt 98 = .ok (.iinc 4 1, 3) := by decide +kernel
theorem d_Ae_encrypt_101 : decode b_Ae_encrypt 101 = .ok (.goto (-38), 3) := by decide +kernel
theorem d_Ae_encrypt_104 : decode b_Ae_encrypt 104 = .ok (.iload_n 3, 1) := by decide +kernel
theorem d_Ae_encrypt_105 : decode b_Ae_encrypt 105 = .ok (.aload_n 0, 1) := by decide +kernel
theorem d_Ae_encrypt_106 : decode b_Ae_encrypt 106 = .ok (.getfield 32, 3) := by decide +kernel
theorem d_Ae_encrypt_109 : decode b_Ae_encrypt 109 = .ok (.if_icmp .ge 7, 3) := by decide +kernel
theorem d_Ae_encrypt_112 : decode b_Ae_encrypt 112 = .ok (.aload_n 0, 1) := by decide +kernel
theorem d_Ae_encrypt_113 : decode b_Ae_encrypt 113 = .ok (.invokevirtual 36, 3) := by decide +kernel
theorem d_Ae_encrypt_116 : decode b_Ae_encrypt 116 = .ok (.iconst 0, 1) := by decide +kernel
theorem d_Ae_encrypt_117 : decode b_Ae_encrypt 117 = .ok (.istore 4, 2) := by decide +kernel
theorem d_Ae_encrypt_119 : decode b_Ae_encrypt 119 = .ok (.iload 4, 2) := by decide +kernel
theorem d_Ae_encrypt_121 : decode b_Ae_encrypt 121 = .ok (.bipush 16, 2) := by decide +kernel
theorem d_Ae_encrypt_123 : decode b_Ae_encrypt 123 = .ok (.if_icmp .ge 36, 3) := by decide +kernel
theorem d_Ae_encrypt_126 : decode b_Ae_encrypt 126 = .ok (.aload_n 0, 1) := by decide +kernel
theorem d_Ae_encrypt_127 : decode b_Ae_encrypt 127 = .ok (.getfield 19, 3) := by decide +kernel
theorem d_Ae_encrypt_130 : decode b_Ae_encrypt 130 = .ok (.iload 4, 2) := by decide +kernel
theorem d_Ae_encrypt_132 : decode b_Ae_encrypt 132 = .ok (.aload_n 0, 1) := by decide +kernel
theorem d_Ae_encrypt_133 : decode b_Ae_encrypt 133 = .ok (.getfield 22, 3) := by decide +kernel
theorem d_Ae_encrypt_136 : decode b_Ae_encrypt 136 = .ok (.iload 4, 2) := by decide +kernel
theorem d_Ae_encrypt_138 : decode b_Ae_encrypt 138 = .ok (.iaload, 1) := by decide +kernel
theorem d_Ae_encrypt_139 : decode b_Ae_encrypt 139 = .ok (.aload_n 0, 1) := by decide +kernel
theorem d_Ae_encrypt_140 : decode b_Ae_encrypt 140 = .ok (.getfield 16, 3) := by decide +kernel
theorem d_Ae_encrypt_143 : decode b_Ae_encrypt 143 = .ok (.bipush 16, 2) := by decide +kernel
theorem d_Ae_encrypt_145 : decode b_Ae_encrypt 145 = .ok (.iload_n 3, 1) := by decide +kernel
theorem d_Ae_encrypt_146 : decode b_Ae_encrypt 146 = .ok (.imul, 1) := by decide +kernel
theorem d_Ae_encrypt_147 : decode b_Ae_encrypt 147 = .ok (.iload 4, 2) := by decide +kernel
theorem d_Ae_encrypt_149 : decode b_Ae_encrypt 149 = .ok (.iadd, 1) := by decide +kernel
theorem d_Ae_encrypt_150 : decode b_Ae_encrypt 150 = .ok (.iaload, 1) := by decide +kernel
theorem d_Ae_encrypt_151 : decode b_Ae_encrypt 151 = .ok (.ixor, 1) := by decide +kernel
theorem d_Ae_encrypt_152 : decode b_Ae_encrypt 152 = .ok (.iastore, 1) := by decide +kernel
theorem d_Ae_encrypt_153 : decode b_Ae_encrypt 153 = .ok (.iinc 4 1, 3) := by decide +kernel
theorem d_Ae_encrypt_156 : decode b_Ae_encrypt 156 = .ok (.goto (-37), 3) := by decide +kernel
theorem d_Ae_encrypt_159 : decode b_Ae_encrypt 159 = .ok (.iinc 3 1, 3) := by decide +kernel
theorem d_Ae_encrypt_162 : decode b_Ae_encrypt 162 = .ok (.goto (-110), 3) := by decide +kernel
theorem d_Ae_encrypt_165 : decode b_Ae_encrypt 165 = .ok (.iconst 0, 1) := by decide +kernel
theorem d_Ae_encrypt_166 : decode b_Ae_encrypt 166 = .ok (.istore_n 3, 1) := by decide +kernel
theorem d_Ae_encrypt_167 : decode b_Ae_encrypt 167 = .ok (.iload_n 3, 1) := by decide +kernel
theorem d_Ae_encrypt_168 : decode b_Ae_encrypt 168 = .ok (.bipush 16, 2) := by decide +kernel
theorem d_Ae_encrypt_170 : decode b_Ae_encrypt 170 = .ok (.if_icmp .ge 21, 3) := by decide +kernel
theorem d_Ae_encrypt_173 : decode b_Ae_encrypt 173 = .ok (.aload_n 1, 1) := by decide +kernel
theorem d_Ae_encrypt_174 : decode b_Ae_encrypt 174 = .ok (.iload_n 2, 1) := by decide +kernel
theorem d_Ae_encrypt_175 : decode b_Ae_encrypt 175 = .ok (.iload_n 3, 1) := by decide +kernel
theorem d_Ae_encrypt_176 : decode b_Ae_encrypt 176 = .ok (.iadd, 1) := by decide +kernel
theorem d_Ae_encrypt_177 : decode b_Ae_encrypt 177 = .ok (.aload_n 0, 1) := by decide +kernel
theorem d_Ae_encrypt_178 : decode b_Ae_encrypt 178 = .ok (.getfield 19, 3) := by decide +kernel
theorem d_Ae_encrypt_181 : decode b_Ae_encrypt 181 = .ok (.iload_n 3, 1) := by decide +kernel
theorem d_Ae_encrypt_182 : decode b_Ae_encrypt 182 = .ok (.iaload, 1) := by decide +kernel
theorem d_Ae_encrypt_183 : decode b_Ae_encrypt 183 = .ok (.i2b, 1) := by decide +kernel
theorem d_Ae_encrypt_184 : decode b_Ae_encrypt 184 = .ok (.bastore, 1) := by decide +kernel
theorem d_Ae_encrypt_185 : decode b_Ae_encrypt 185 = .ok (.iinc 3 1, 3) := by decide +kernel
theorem d_Ae_encrypt_188 : decode b_Ae_encrypt 188 = .ok (.goto (-21), 3) := by decide +kernel
theorem d_Ae_encrypt_191 : decode b_Ae_encrypt 191 = .ok (.return_, 1) := by decide +kernel
theorem ol_Ae : Cond.methodLink R_Ae 1 Lib.objectInit ∈ lw_tg := in_t 102 (by decide +kernel)
theorem sk_Ae_29 : Cond.fieldLink R_Ae 29 (sG 1).1 (sG 1).2.1 (sG 1).2.2.1 ∈ lw_tg := in_t 103 (by decide +kernel)
set_option maxHeartbeats 4000000 in
set_option maxRecDepth 100000 in
theorem c_Ae_init (l : Launch) (D : va_G) (E : cE) (T : cT) (L : List Nat) (f : pF) (sz : Nat) (o : Nat) (m_o : o ∈ L) (e_o : f o = .inr (1, [.null, .null, .null, .int (nI 0), .null, .null, .null])) : Met l y_Ae_init (k_Ae_init :: lw_tg) (kRm 1 20 6 (800)) (va_Pc [.ref o] (kPre D E T L f sz)) (va_Qv (fun (u : cU) => (∀ x, x ∈ L → x ∈ u.1) ∧ (∀ x, x ∈ L → x ≠ o → u.2 x = f x) ∧ ∃ (tw ke sta mo un kp : Nat) (k_tw k_ke k_sta k_mo : Nat → Int32), tw ∈ u.1 ∧ tw ∉ L ∧ ke ∈ u.1 ∧ ke ∉ L ∧ sta ∈ u.1 ∧ sta ∉ L ∧ mo ∈ u.1 ∧ mo ∉ L ∧ tw ≠ ke ∧ tw ≠ sta ∧ tw ≠ mo ∧ ke ≠ sta ∧ ke ≠ mo ∧ sta ≠ mo ∧ by8 k_tw ∧ by8 k_ke ∧ by8 k_sta ∧ by8 k_mo ∧ u.2 o = .inr (1, [.ref un, .ref tw, .ref ke, .int (nI 0), .ref sta, .ref mo, .ref kp]) ∧ u.2 tw = .inl (E.2.1, 256, .inl k_tw) ∧ u.2 ke = .inl (E.2.1, 240, .inl k_ke) ∧ u.2 sta = .inl (E.2.1, 16, .inl k_sta) ∧ u.2 mo = .inl (E.2.1, 16, .inl k_mo)) (cPost D E (pA L sz)) (pA L sz)) 6 (800) (pA L sz) := by
  refine k_enter (own := R_Ae) (by decide) rfl (Nat.le_of_ble_eq_true rfl) (fun p e s m below meth c ls AV QQ H locs hQQ X Y hA hin hr hlk hml hl KS KR => ?_)
  have hl : lv_has ls 2 [(0, .ref o)] := hl
  refine lv_aload_n X.1 X.2.1 d_Ae_init_0 rfl (lv_at hl 0 rfl) ?_
  refine W.objInit X.1 X.2.1 X.2.2.2.1 (X.2.2.1 _ ol_Ae) (X.2.2.1 _ o_inst) (X.2.2.1 _ o_code) rfl (by rw [hml]; exact hl.1) rfl d_Ae_init_1 (Nat.le_of_ble_eq_true rfl) (Nat.le_of_ble_eq_true rfl) ?_
  refine W.eq (g2 := F0 m 4 ls []) rfl ?_
  refine lv_aload_n X.1 X.2.1 d_Ae_init_4 rfl (lv_at hl 0 rfl) ?_
  refine lv_sipush (v := (nI 256)) X.1 X.2.1 d_Ae_init_5 (by decide) ?_
  refine q_newa X.1 X.2.1 (atype := .int) (ty := .int) rfl ra_int (X.2.2.1 _ ar_int) X.2.2.2.2 1 (cE := E.2.1) rfl Y hA (N := (256)) (a0 := (256, .inl (fun _ => 0))) (fun cA => vz_int cA (256)) (nI_pos (by omega)) (nI_clamp (by omega)) (by decide) (show 0 + 1 ≤ 6 by omega) (show 0 + (256) ≤ (800) by omega) d_Ae_init_8 (fun q1 H hqq1 Y => ?_)
  have Y : pH D cCl (pA L sz) s.heap (L ++ [q1]) (va_up f q1 (.inl (E.2.1, 256, .inl (fun _ => 0)))) H locs := Y
  have e8 : (va_up f q1 (.inl (E.2.1, 256, .inl (fun _ => 0)))) q1 = .inl (E.2.1, 256, .inl (fun _ => 0)) := q_up
  have e9 : (va_up f q1 (.inl (E.2.1, 256, .inl (fun _ => 0)))) o = .inr (1, [.null, .null, .null, .int (nI 0), .null, .null, .null]) := (q_ne (ne_mem hqq1 m_o)).trans e_o
  have nl6 : q1 ∉ L := fun h9 => hqq1 h9
  have hF10 : ∀ x, x ∈ L → x ≠ o → (va_up f q1 (.inl (E.2.1, 256, .inl (fun _ => 0)))) x = f x := fun x hx h0 => (q_ne (ne_mem nl6 hx)).trans rfl
  generalize (va_up f q1 (.inl (E.2.1, 256, .inl (fun _ => 0)))) = f7 at Y e8 e9 hF10
  have s4 : ∀ x, x ∈ L → x ∈ L ++ [q1] := fun x hx => List.mem_append_left _ hx
  have m11 : o ∈ L ++ [q1] := List.mem_append_left _ m_o
  have m5 : q1 ∈ L ++ [q1] := List.mem_append_right _ (List.mem_singleton.mpr rfl)
  generalize L ++ [q1] = L2 at Y s4 m11 m5
  refine q_putF X.1 X.2.1 X.2.2.1 i_Ae t_Ae t_Ae_ok n_Ae X.2.2.2.1 X.2.2.2.2 Y m11 e9 rfl 0 (by decide) (X.2.2.1 _ lk_Ae_7) (fun _ h9 => h9) rfl hin rfl (t_Ae_ok 0 (by decide)) rfl rfl (Nat.le_of_ble_eq_true rfl) d_Ae_init_10 (fun H locs Y => ?_)
  have e13 : (va_up f7 o (.inr (1, [.ref q1, .null, .null, .int (nI 0), .null, .null, .null]))) o = .inr (1, [.ref q1, .null, .null, .int (nI 0), .null, .null, .null]) := q_up
  have e14 : (va_up f7 o (.inr (1, [.ref q1, .null, .null, .int (nI 0), .null, .null, .null]))) q1 = .inl (E.2.1, 256, .inl (fun _ => 0)) := (q_ne (q_tag e8 e9 (show (1000 : Nat) ≠ 1 by decide))).trans e8
  have hF15 : ∀ x, x ∈ L → x ≠ o → (va_up f7 o (.inr (1, [.ref q1, .null, .null, .int (nI 0), .null, .null, .null]))) x = f x := fun x hx h0 => (q_ne h0).trans (hF10 x hx h0)
  have Y : pH D cCl (pA L sz) s.heap L2 (va_up f7 o (.inr (1, [.ref q1, .null, .null, .int (nI 0), .null, .null, .null]))) H locs := Y
  generalize (va_up f7 o (.inr (1, [.ref q1, .null, .null, .int (nI 0), .null, .null, .null]))) = f12 at Y e13 e14 hF15
  refine lv_aload_n X.1 X.2.1 d_Ae_init_13 rfl (lv_at hl 0 rfl) ?_
  refine lv_sipush (v := (nI 256)) X.1 X.2.1 d_Ae_init_14 (by decide) ?_
  refine q_newa X.1 X.2.1 (atype := .int) (ty := .int) rfl ra_int (X.2.2.1 _ ar_int) X.2.2.2.2 1 (cE := E.2.1) rfl Y hA (N := (256)) (a0 := (256, .inl (fun _ => 0))) (fun cA => vz_int cA (256)) (nI_pos (by omega)) (nI_clamp (by omega)) (by decide) (show 1 + 1 ≤ 6 by omega) (show 256 + (256) ≤ (800) by omega) d_Ae_init_17 (fun q16 H hqq16 Y => ?_)
  have Y : pH D cCl (pA L sz) s.heap (L2 ++ [q16]) (va_up f12 q16 (.inl (E.2.1, 256, .inl (fun _ => 0)))) H locs := Y
  have e23 : (va_up f12 q16 (.inl (E.2.1, 256, .inl (fun _ => 0)))) q16 = .inl (E.2.1, 256, .inl (fun _ => 0)) := q_up
  have e24 : (va_up f12 q16 (.inl (E.2.1, 256, .inl (fun _ => 0)))) o = .inr (1, [.ref q1, .null, .null, .int (nI 0), .null, .null, .null]) := (q_ne (ne_mem hqq16 m11)).trans e13
  have e25 : (va_up f12 q16 (.inl (E.2.1, 256, .inl (fun _ => 0)))) q1 = .inl (E.2.1, 256, .inl (fun _ => 0)) := (q_ne (ne_mem hqq16 m5)).trans e14
  have nl21 : q16 ∉ L := fun h9 => hqq16 (s4 _ h9)
  have hF26 : ∀ x, x ∈ L → x ≠ o → (va_up f12 q16 (.inl (E.2.1, 256, .inl (fun _ => 0)))) x = f x := fun x hx h0 => (q_ne (ne_mem nl21 hx)).trans (hF15 x hx h0)
  generalize (va_up f12 q16 (.inl (E.2.1, 256, .inl (fun _ => 0)))) = f22 at Y e23 e24 e25 hF26
  have s19 : ∀ x, x ∈ L → x ∈ L2 ++ [q16] := fun x hx => List.mem_append_left _ (s4 x hx)
  have m27 : o ∈ L2 ++ [q16] := List.mem_append_left _ m11
  have m28 : q1 ∈ L2 ++ [q16] := List.mem_append_left _ m5
  have m20 : q16 ∈ L2 ++ [q16] := List.mem_append_right _ (List.mem_singleton.mpr rfl)
  generalize L2 ++ [q16] = L17 at Y s19 m27 m28 m20
  refine q_putF X.1 X.2.1 X.2.2.1 i_Ae t_Ae t_Ae_ok n_Ae X.2.2.2.1 X.2.2.2.2 Y m27 e24 rfl 1 (by decide) (X.2.2.1 _ lk_Ae_13) (fun _ h9 => h9) rfl hin rfl (t_Ae_ok 1 (by decide)) rfl rfl (Nat.le_of_ble_eq_true rfl) d_Ae_init_19 (fun H locs Y => ?_)
  have e30 : (va_up f22 o (.inr (1, [.ref q1, .ref q16, .null, .int (nI 0), .null, .null, .null]))) o = .inr (1, [.ref q1, .ref q16, .null, .int (nI 0), .null, .null, .null]) := q_up
  have e31 : (va_up f22 o (.inr (1, [.ref q1, .ref q16, .null, .int (nI 0), .null, .null, .null]))) q1 = .inl (E.2.1, 256, .inl (fun _ => 0)) := (q_ne (q_tag e25 e24 (show (1000 : Nat) ≠ 1 by decide))).trans e25
  have e32 : (va_up f22 o (.inr (1, [.ref q1, .ref q16, .null, .int (nI 0), .null, .null, .null]))) q16 = .inl (E.2.1, 256, .inl (fun _ => 0)) := (q_ne (q_tag e23 e24 (show (1000 : Nat) ≠ 1 by decide))).trans e23
  have hF33 : ∀ x, x ∈ L → x ≠ o → (va_up f22 o (.inr (1, [.ref q1, .ref q16, .null, .int (nI 0), .null, .null, .null]))) x = f x := fun x hx h0 => (q_ne h0).trans (hF26 x hx h0)
  have Y : pH D cCl (pA L sz) s.heap L17 (va_up f22 o (.inr (1, [.ref q1, .ref q16, .null, .int (nI 0), .null, .null, .null]))) H locs := Y
  generalize (va_up f22 o (.inr (1, [.ref q1, .ref q16, .null, .int (nI 0), .null, .null, .null]))) = f29 at Y e30 e31 e32 hF33
  refine lv_aload_n X.1 X.2.1 d_Ae_init_22 rfl (lv_at hl 0 rfl) ?_
  refine lv_sipush (v := (nI 240)) X.1 X.2.1 d_Ae_init_23 (by decide) ?_
  refine q_newa X.1 X.2.1 (atype := .int) (ty := .int) rfl ra_int (X.2.2.1 _ ar_int) X.2.2.2.2 1 (cE := E.2.1) rfl Y hA (N := (240)) (a0 := (240, .inl (fun _ => 0))) (fun cA => vz_int cA (240)) (nI_pos (by omega)) (nI_clamp (by omega)) (by decide) (show 2 + 1 ≤ 6 by omega) (show 512 + (240) ≤ (800) by omega) d_Ae_init_26 (fun q34 H hqq34 Y => ?_)
  have Y : pH D cCl (pA L sz) s.heap (L17 ++ [q34]) (va_up f29 q34 (.inl (E.2.1, 240, .inl (fun _ => 0)))) H locs := Y
  have e41 : (va_up f29 q34 (.inl (E.2.1, 240, .inl (fun _ => 0)))) q34 = .inl (E.2.1, 240, .inl (fun _ => 0)) := q_up
  have e42 : (va_up f29 q34 (.inl (E.2.1, 240, .inl (fun _ => 0)))) o = .inr (1, [.ref q1, .ref q16, .null, .int (nI 0), .null, .null, .null]) := (q_ne (ne_mem hqq34 m27)).trans e30
  have e43 : (va_up f29 q34 (.inl (E.2.1, 240, .inl (fun _ => 0)))) q1 = .inl (E.2.1, 256, .inl (fun _ => 0)) := (q_ne (ne_mem hqq34 m28)).trans e31
  have e44 : (va_up f29 q34 (.inl (E.2.1, 240, .inl (fun _ => 0)))) q16 = .inl (E.2.1, 256, .inl (fun _ => 0)) := (q_ne (ne_mem hqq34 m20)).trans e32
  have nl39 : q34 ∉ L := fun h9 => hqq34 (s19 _ h9)
  have hF45 : ∀ x, x ∈ L → x ≠ o → (va_up f29 q34 (.inl (E.2.1, 240, .inl (fun _ => 0)))) x = f x := fun x hx h0 => (q_ne (ne_mem nl39 hx)).trans (hF33 x hx h0)
  generalize (va_up f29 q34 (.inl (E.2.1, 240, .inl (fun _ => 0)))) = f40 at Y e41 e42 e43 e44 hF45
  have s37 : ∀ x, x ∈ L → x ∈ L17 ++ [q34] := fun x hx => List.mem_append_left _ (s19 x hx)
  have m46 : o ∈ L17 ++ [q34] := List.mem_append_left _ m27
  have m47 : q1 ∈ L17 ++ [q34] := List.mem_append_left _ m28
  have m48 : q16 ∈ L17 ++ [q34] := List.mem_append_left _ m20
  have m38 : q34 ∈ L17 ++ [q34] := List.mem_append_right _ (List.mem_singleton.mpr rfl)
  generalize L17 ++ [q34] = L35 at Y s37 m46 m47 m48 m38
  refine q_putF X.1 X.2.1 X.2.2.1 i_Ae t_Ae t_Ae_ok n_Ae X.2.2.2.1 X.2.2.2.2 Y m46 e42 rfl 2 (by decide) (X.2.2.1 _ lk_Ae_16) (fun _ h9 => h9) rfl hin rfl (t_Ae_ok 2 (by decide)) rfl rfl (Nat.le_of_ble_eq_true rfl) d_Ae_init_28 (fun H locs Y => ?_)
  have e50 : (va_up f40 o (.inr (1, [.ref q1, .ref q16, .ref q34, .int (nI 0), .null, .null, .null]))) o = .inr (1, [.ref q1, .ref q16, .ref q34, .int (nI 0), .null, .null, .null]) := q_up
  have e51 : (va_up f40 o (.inr (1, [.ref q1, .ref q16, .ref q34, .int (nI 0), .null, .null, .null]))) q1 = .inl (E.2.1, 256, .inl (fun _ => 0)) := (q_ne (q_tag e43 e42 (show (1000 : Nat) ≠ 1 by decide))).trans e43
  have e52 : (va_up f40 o (.inr (1, [.ref q1, .ref q16, .ref q34, .int (nI 0), .null, .null, .null]))) q16 = .inl (E.2.1, 256, .inl (fun _ => 0)) := (q_ne (q_tag e44 e42 (show (1000 : Nat) ≠ 1 by decide))).trans e44
  have e53 : (va_up f40 o (.inr (1, [.ref q1, .ref q16, .ref q34, .int (nI 0), .null, .null, .null]))) q34 = .inl (E.2.1, 240, .inl (fun _ => 0)) := (q_ne (q_tag e41 e42 (show (1000 : Nat) ≠ 1 by decide))).trans e41
  have hF54 : ∀ x, x ∈ L → x ≠ o → (va_up f40 o (.inr (1, [.ref q1, .ref q16, .ref q34, .int (nI 0), .null, .null, .null]))) x = f x := fun x hx h0 => (q_ne h0).trans (hF45 x hx h0)
  have Y : pH D cCl (pA L sz) s.heap L35 (va_up f40 o (.inr (1, [.ref q1, .ref q16, .ref q34, .int (nI 0), .null, .null, .null]))) H locs := Y
  generalize (va_up f40 o (.inr (1, [.ref q1, .ref q16, .ref q34, .int (nI 0), .null, .null, .null]))) = f49 at Y e50 e51 e52 e53 hF54
  refine lv_aload_n X.1 X.2.1 d_Ae_init_31 rfl (lv_at hl 0 rfl) ?_
  refine lv_bipush (v := (nI 16)) X.1 X.2.1 d_Ae_init_32 (by decide) ?_
  refine q_newa X.1 X.2.1 (atype := .int) (ty := .int) rfl ra_int (X.2.2.1 _ ar_int) X.2.2.2.2 1 (cE := E.2.1) rfl Y hA (N := (16)) (a0 := (16, .inl (fun _ => 0))) (fun cA => vz_int cA (16)) (nI_pos (by omega)) (nI_clamp (by omega)) (by decide) (show 3 + 1 ≤ 6 by omega) (show 752 + (16) ≤ (800) by omega) d_Ae_init_34 (fun q55 H hqq55 Y => ?_)
  have Y : pH D cCl (pA L sz) s.heap (L35 ++ [q55]) (va_up f49 q55 (.inl (E.2.1, 16, .inl (fun _ => 0)))) H locs := Y
  have e62 : (va_up f49 q55 (.inl (E.2.1, 16, .inl (fun _ => 0)))) q55 = .inl (E.2.1, 16, .inl (fun _ => 0)) := q_up
  have e63 : (va_up f49 q55 (.inl (E.2.1, 16, .inl (fun _ => 0)))) o = .inr (1, [.ref q1, .ref q16, .ref q34, .int (nI 0), .null, .null, .null]) := (q_ne (ne_mem hqq55 m46)).trans e50
  have e64 : (va_up f49 q55 (.inl (E.2.1, 16, .inl (fun _ => 0)))) q1 = .inl (E.2.1, 256, .inl (fun _ => 0)) := (q_ne (ne_mem hqq55 m47)).trans e51
  have e65 : (va_up f49 q55 (.inl (E.2.1, 16, .inl (fun _ => 0)))) q16 = .inl (E.2.1, 256, .inl (fun _ => 0)) := (q_ne (ne_mem hqq55 m48)).trans e52
  have e66 : (va_up f49 q55 (.inl (E.2.1, 16, .inl (fun _ => 0)))) q34 = .inl (E.2.1, 240, .inl (fun _ => 0)) := (q_ne (ne_mem hqq55 m38)).trans e53
  have nl60 : q55 ∉ L := fun h9 => hqq55 (s37 _ h9)
  have hF67 : ∀ x, x ∈ L → x ≠ o → (va_up f49 q55 (.inl (E.2.1, 16, .inl (fun _ => 0)))) x = f x := fun x hx h0 => (q_ne (ne_mem nl60 hx)).trans (hF54 x hx h0)
  generalize (va_up f49 q55 (.inl (E.2.1, 16, .inl (fun _ => 0)))) = f61 at Y e62 e63 e64 e65 e66 hF67
  have s58 : ∀ x, x ∈ L → x ∈ L35 ++ [q55] := fun x hx => List.mem_append_left _ (s37 x hx)
  have m68 : o ∈ L35 ++ [q55] := List.mem_append_left _ m46
  have m69 : q1 ∈ L35 ++ [q55] := List.mem_append_left _ m47
  have m70 : q16 ∈ L35 ++ [q55] := List.mem_append_left _ m48
  have m71 : q34 ∈ L35 ++ [q55] := List.mem_append_left _ m38
  have m59 : q55 ∈ L35 ++ [q55] := List.mem_append_right _ (List.mem_singleton.mpr rfl)
  generalize L35 ++ [q55] = L56 at Y s58 m68 m69 m70 m71 m59
  refine q_putF X.1 X.2.1 X.2.2.1 i_Ae t_Ae t_Ae_ok n_Ae X.2.2.2.1 X.2.2.2.2 Y m68 e63 rfl 4 (by decide) (X.2.2.1 _ lk_Ae_19) (fun _ h9 => h9) rfl hin rfl (t_Ae_ok 4 (by decide)) rfl rfl (Nat.le_of_ble_eq_true rfl) d_Ae_init_36 (fun H locs Y => ?_)
  have e73 : (va_up f61 o (.inr (1, [.ref q1, .ref q16, .ref q34, .int (nI 0), .ref q55, .null, .null]))) o = .inr (1, [.ref q1, .ref q16, .ref q34, .int (nI 0), .ref q55, .null, .null]) := q_up
  have e74 : (va_up f61 o (.inr (1, [.ref q1, .ref q16, .ref q34, .int (nI 0), .ref q55, .null, .null]))) q1 = .inl (E.2.1, 256, .inl (fun _ => 0)) := (q_ne (q_tag e64 e63 (show (1000 : Nat) ≠ 1 by decide))).trans e64
  have e75 : (va_up f61 o (.inr (1, [.ref q1, .ref q16, .ref q34, .int (nI 0), .ref q55, .null, .null]))) q16 = .inl (E.2.1, 256, .inl (fun _ => 0)) := (q_ne (q_tag e65 e63 (show (1000 : Nat) ≠ 1 by decide))).trans e65
  have e76 : (va_up f61 o (.inr (1, [.ref q1, .ref q16, .ref q34, .int (nI 0), .ref q55, .null, .null]))) q34 = .inl (E.2.1, 240, .inl (fun _ => 0)) := (q_ne (q_tag e66 e63 (show (1000 : Nat) ≠ 1 by decide))).trans e66
  have e77 : (va_up f61 o (.inr (1, [.ref q1, .ref q16, .ref q34, .int (nI 0), .ref q55, .null, .null]))) q55 = .inl (E.2.1, 16, .inl (fun _ => 0)) := (q_ne (q_tag e62 e63 (show (1000 : Nat) ≠ 1 by decide))).trans e62
  have hF78 : ∀ x, x ∈ L → x ≠ o → (va_up f61 o (.inr (1, [.ref q1, .ref q16, .ref q34, .int (nI 0), .ref q55, .null, .null]))) x = f x := fun x hx h0 => (q_ne h0).trans (hF67 x hx h0)
  have Y : pH D cCl (pA L sz) s.heap L56 (va_up f61 o (.inr (1, [.ref q1, .ref q16, .ref q34, .int (nI 0), .ref q55, .null, .null]))) H locs := Y
  generalize (va_up f61 o (.inr (1, [.ref q1, .ref q16, .ref q34, .int (nI 0), .ref q55, .null, .null]))) = f72 at Y e73 e74 e75 e76 e77 hF78
  refine lv_aload_n X.1 X.2.1 d_Ae_init_39 rfl (lv_at hl 0 rfl) ?_
  refine lv_bipush (v := (nI 16)) X.1 X.2.1 d_Ae_init_40 (by decide) ?_
  refine q_newa X.1 X.2.1 (atype := .int) (ty := .int) rfl ra_int (X.2.2.1 _ ar_int) X.2.2.2.2 1 (cE := E.2.1) rfl Y hA (N := (16)) (a0 := (16, .inl (fun _ => 0))) (fun cA => vz_int cA (16)) (nI_pos (by omega)) (nI_clamp (by omega)) (by decide) (show 4 + 1 ≤ 6 by omega) (show 768 + (16) ≤ (800) by omega) d_Ae_init_42 (fun q79 H hqq79 Y => ?_)
  have Y : pH D cCl (pA L sz) s.heap (L56 ++ [q79]) (va_up f72 q79 (.inl (E.2.1, 16, .inl (fun _ => 0)))) H locs := Y
  have e86 : (va_up f72 q79 (.inl (E.2.1, 16, .inl (fun _ => 0)))) q79 = .inl (E.2.1, 16, .inl (fun _ => 0)) := q_up
  have e87 : (va_up f72 q79 (.inl (E.2.1, 16, .inl (fun _ => 0)))) o = .inr (1, [.ref q1, .ref q16, .ref q34, .int (nI 0), .ref q55, .null, .null]) := (q_ne (ne_mem hqq79 m68)).trans e73
  have e88 : (va_up f72 q79 (.inl (E.2.1, 16, .inl (fun _ => 0)))) q1 = .inl (E.2.1, 256, .inl (fun _ => 0)) := (q_ne (ne_mem hqq79 m69)).trans e74
  have e89 : (va_up f72 q79 (.inl (E.2.1, 16, .inl (fun _ => 0)))) q16 = .inl (E.2.1, 256, .inl (fun _ => 0)) := (q_ne (ne_mem hqq79 m70)).trans e75
  have e90 : (va_up f72 q79 (.inl (E.2.1, 16, .inl (fun _ => 0)))) q34 = .inl (E.2.1, 240, .inl (fun _ => 0)) := (q_ne (ne_mem hqq79 m71)).trans e76
  have e91 : (va_up f72 q79 (.inl (E.2.1, 16, .inl (fun _ => 0)))) q55 = .inl (E.2.1, 16, .inl (fun _ => 0)) := (q_ne (ne_mem hqq79 m59)).trans e77
  have nl84 : q79 ∉ L := fun h9 => hqq79 (s58 _ h9)
  have hF92 : ∀ x, x ∈ L → x ≠ o → (va_up f72 q79 (.inl (E.2.1, 16, .inl (fun _ => 0)))) x = f x := fun x hx h0 => (q_ne (ne_mem nl84 hx)).trans (hF78 x hx h0)
  generalize (va_up f72 q79 (.inl (E.2.1, 16, .inl (fun _ => 0)))) = f85 at Y e86 e87 e88 e89 e90 e91 hF92
  have s82 : ∀ x, x ∈ L → x ∈ L56 ++ [q79] := fun x hx => List.mem_append_left _ (s58 x hx)
  have m93 : o ∈ L56 ++ [q79] := List.mem_append_left _ m68
  have m94 : q1 ∈ L56 ++ [q79] := List.mem_append_left _ m69
  have m95 : q16 ∈ L56 ++ [q79] := List.mem_append_left _ m70
  have m96 : q34 ∈ L56 ++ [q79] := List.mem_append_left _ m71
  have m97 : q55 ∈ L56 ++ [q79] := List.mem_append_left _ m59
  have m83 : q79 ∈ L56 ++ [q79] := List.mem_append_right _ (List.mem_singleton.mpr rfl)
  generalize L56 ++ [q79] = L80 at Y s82 m93 m94 m95 m96 m97 m83
  refine q_putF X.1 X.2.1 X.2.2.1 i_Ae t_Ae t_Ae_ok n_Ae X.2.2.2.1 X.2.2.2.2 Y m93 e87 rfl 5 (by decide) (X.2.2.1 _ lk_Ae_22) (fun _ h9 => h9) rfl hin rfl (t_Ae_ok 5 (by decide)) rfl rfl (Nat.le_of_ble_eq_true rfl) d_Ae_init_44 (fun H locs Y => ?_)
  have e99 : (va_up f85 o (.inr (1, [.ref q1, .ref q16, .ref q34, .int (nI 0), .ref q55, .ref q79, .null]))) o = .inr (1, [.ref q1, .ref q16, .ref q34, .int (nI 0), .ref q55, .ref q79, .null]) := q_up
  have e100 : (va_up f85 o (.inr (1, [.ref q1, .ref q16, .ref q34, .int (nI 0), .ref q55, .ref q79, .null]))) q1 = .inl (E.2.1, 256, .inl (fun _ => 0)) := (q_ne (q_tag e88 e87 (show (1000 : Nat) ≠ 1 by decide))).trans e88
  have e101 : (va_up f85 o (.inr (1, [.ref q1, .ref q16, .ref q34, .int (nI 0), .ref q55, .ref q79, .null]))) q16 = .inl (E.2.1, 256, .inl (fun _ => 0)) := (q_ne (q_tag e89 e87 (show (1000 : Nat) ≠ 1 by decide))).trans e89
  have e102 : (va_up f85 o (.inr (1, [.ref q1, .ref q16, .ref q34, .int (nI 0), .ref q55, .ref q79, .null]))) q34 = .inl (E.2.1, 240, .inl (fun _ => 0)) := (q_ne (q_tag e90 e87 (show (1000 : Nat) ≠ 1 by decide))).trans e90
  have e103 : (va_up f85 o (.inr (1, [.ref q1, .ref q16, .ref q34, .int (nI 0), .ref q55, .ref q79, .null]))) q55 = .inl (E.2.1, 16, .inl (fun _ => 0)) := (q_ne (q_tag e91 e87 (show (1000 : Nat) ≠ 1 by decide))).trans e91
  have e104 : (va_up f85 o (.inr (1, [.ref q1, .ref q16, .ref q34, .int (nI 0), .ref q55, .ref q79, .null]))) q79 = .inl (E.2.1, 16, .inl (fun _ => 0)) := (q_ne (q_tag e86 e87 (show (1000 : Nat) ≠ 1 by decide))).trans e86
  have hF105 : ∀ x, x ∈ L → x ≠ o → (va_up f85 o (.inr (1, [.ref q1, .ref q16, .ref q34, .int (nI 0), .ref q55, .ref q79, .null]))) x = f x := fun x hx h0 => (q_ne h0).trans (hF92 x hx h0)
  have Y : pH D cCl (pA L sz) s.heap L80 (va_up f85 o (.inr (1, [.ref q1, .ref q16, .ref q34, .int (nI 0), .ref q55, .ref q79, .null]))) H locs := Y
  generalize (va_up f85 o (.inr (1, [.ref q1, .ref q16, .ref q34, .int (nI 0), .ref q55, .ref q79, .null]))) = f98 at Y e99 e100 e101 e102 e103 e104 hF105
  refine lv_aload_n X.1 X.2.1 d_Ae_init_47 rfl (lv_at hl 0 rfl) ?_
  refine lv_bipush (v := (nI 16)) X.1 X.2.1 d_Ae_init_48 (by decide) ?_
  refine q_newa X.1 X.2.1 (atype := .byte) (ty := .byte) rfl ra_byte (X.2.2.1 _ ar_byte) X.2.2.2.2 0 (cE := E.1) rfl Y hA (N := (16)) (a0 := (16, .inl (fun _ => 0))) (fun cA => vz_byte cA (16)) (nI_pos (by omega)) (nI_clamp (by omega)) (by decide) (show 5 + 1 ≤ 6 by omega) (show 784 + (16) ≤ (800) by omega) d_Ae_init_50 (fun q106 H hqq106 Y => ?_)
  have Y : pH D cCl (pA L sz) s.heap (L80 ++ [q106]) (va_up f98 q106 (.inl (E.1, 16, .inl (fun _ => 0)))) H locs := Y
  have e113 : (va_up f98 q106 (.inl (E.1, 16, .inl (fun _ => 0)))) q106 = .inl (E.1, 16, .inl (fun _ => 0)) := q_up
  have e114 : (va_up f98 q106 (.inl (E.1, 16, .inl (fun _ => 0)))) o = .inr (1, [.ref q1, .ref q16, .ref q34, .int (nI 0), .ref q55, .ref q79, .null]) := (q_ne (ne_mem hqq106 m93)).trans e99
  have e115 : (va_up f98 q106 (.inl (E.1, 16, .inl (fun _ => 0)))) q1 = .inl (E.2.1, 256, .inl (fun _ => 0)) := (q_ne (ne_mem hqq106 m94)).trans e100
  have e116 : (va_up f98 q106 (.inl (E.1, 16, .inl (fun _ => 0)))) q16 = .inl (E.2.1, 256, .inl (fun _ => 0)) := (q_ne (ne_mem hqq106 m95)).trans e101
  have e117 : (va_up f98 q106 (.inl (E.1, 16, .inl (fun _ => 0)))) q34 = .inl (E.2.1, 240, .inl (fun _ => 0)) := (q_ne (ne_mem hqq106 m96)).trans e102
  have e118 : (va_up f98 q106 (.inl (E.1, 16, .inl (fun _ => 0)))) q55 = .inl (E.2.1, 16, .inl (fun _ => 0)) := (q_ne (ne_mem hqq106 m97)).trans e103
  have e119 : (va_up f98 q106 (.inl (E.1, 16, .inl (fun _ => 0)))) q79 = .inl (E.2.1, 16, .inl (fun _ => 0)) := (q_ne (ne_mem hqq106 m83)).trans e104
  have nl111 : q106 ∉ L := fun h9 => hqq106 (s82 _ h9)
  have hF120 : ∀ x, x ∈ L → x ≠ o → (va_up f98 q106 (.inl (E.1, 16, .inl (fun _ => 0)))) x = f x := fun x hx h0 => (q_ne (ne_mem nl111 hx)).trans (hF105 x hx h0)
  generalize (va_up f98 q106 (.inl (E.1, 16, .inl (fun _ => 0)))) = f112 at Y e113 e114 e115 e116 e117 e118 e119 hF120
  have s109 : ∀ x, x ∈ L → x ∈ L80 ++ [q106] := fun x hx => List.mem_append_left _ (s82 x hx)
  have m121 : o ∈ L80 ++ [q106] := List.mem_append_left _ m93
  have m122 : q1 ∈ L80 ++ [q106] := List.mem_append_left _ m94
  have m123 : q16 ∈ L80 ++ [q106] := List.mem_append_left _ m95
  have m124 : q34 ∈ L80 ++ [q106] := List.mem_append_left _ m96
  have m125 : q55 ∈ L80 ++ [q106] := List.mem_append_left _ m97
  have m126 : q79 ∈ L80 ++ [q106] := List.mem_append_left _ m83
  have m110 : q106 ∈ L80 ++ [q106] := List.mem_append_right _ (List.mem_singleton.mpr rfl)
  generalize L80 ++ [q106] = L107 at Y s109 m121 m122 m123 m124 m125 m126 m110
  refine q_putF X.1 X.2.1 X.2.2.1 i_Ae t_Ae t_Ae_ok n_Ae X.2.2.2.1 X.2.2.2.2 Y m121 e114 rfl 6 (by decide) (X.2.2.1 _ lk_Ae_25) (fun _ h9 => h9) rfl hin rfl (t_Ae_ok 6 (by decide)) rfl rfl (Nat.le_of_ble_eq_true rfl) d_Ae_init_52 (fun H locs Y => ?_)
  have e128 : (va_up f112 o (.inr (1, [.ref q1, .ref q16, .ref q34, .int (nI 0), .ref q55, .ref q79, .ref q106]))) o = .inr (1, [.ref q1, .ref q16, .ref q34, .int (nI 0), .ref q55, .ref q79, .ref q106]) := q_up
  have e129 : (va_up f112 o (.inr (1, [.ref q1, .ref q16, .ref q34, .int (nI 0), .ref q55, .ref q79, .ref q106]))) q1 = .inl (E.2.1, 256, .inl (fun _ => 0)) := (q_ne (q_tag e115 e114 (show (1000 : Nat) ≠ 1 by decide))).trans e115
  have e130 : (va_up f112 o (.inr (1, [.ref q1, .ref q16, .ref q34, .int (nI 0), .ref q55, .ref q79, .ref q106]))) q16 = .inl (E.2.1, 256, .inl (fun _ => 0)) := (q_ne (q_tag e116 e114 (show (1000 : Nat) ≠ 1 by decide))).trans e116
  have e131 : (va_up f112 o (.inr (1, [.ref q1, .ref q16, .ref q34, .int (nI 0), .ref q55, .ref q79, .ref q106]))) q34 = .inl (E.2.1, 240, .inl (fun _ => 0)) := (q_ne (q_tag e117 e114 (show (1000 : Nat) ≠ 1 by decide))).trans e117
  have e132 : (va_up f112 o (.inr (1, [.ref q1, .ref q16, .ref q34, .int (nI 0), .ref q55, .ref q79, .ref q106]))) q55 = .inl (E.2.1, 16, .inl (fun _ => 0)) := (q_ne (q_tag e118 e114 (show (1000 : Nat) ≠ 1 by decide))).trans e118
  have e133 : (va_up f112 o (.inr (1, [.ref q1, .ref q16, .ref q34, .int (nI 0), .ref q55, .ref q79, .ref q106]))) q79 = .inl (E.2.1, 16, .inl (fun _ => 0)) := (q_ne (q_tag e119 e114 (show (1000 : Nat) ≠ 1 by decide))).trans e119
  have e134 : (va_up f112 o (.inr (1, [.ref q1, .ref q16, .ref q34, .int (nI 0), .ref q55, .ref q79, .ref q106]))) q106 = .inl (E.1, 16, .inl (fun _ => 0)) := (q_ne (q_tag e113 e114 (show (1000 : Nat) ≠ 1 by decide))).trans e113
  have hF135 : ∀ x, x ∈ L → x ≠ o → (va_up f112 o (.inr (1, [.ref q1, .ref q16, .ref q34, .int (nI 0), .ref q55, .ref q79, .ref q106]))) x = f x := fun x hx h0 => (q_ne h0).trans (hF120 x hx h0)
  have Y : pH D cCl (pA L sz) s.heap L107 (va_up f112 o (.inr (1, [.ref q1, .ref q16, .ref q34, .int (nI 0), .ref q55, .ref q79, .ref q106]))) H locs := Y
  generalize (va_up f112 o (.inr (1, [.ref q1, .ref q16, .ref q34, .int (nI 0), .ref q55, .ref q79, .ref q106]))) = f127 at Y e128 e129 e130 e131 e132 e133 e134 hF135
  refine lv_iconst (v := (nI 0)) X.1 X.2.1 d_Ae_init_55 (by decide) ?_
  refine lv_istore_n (lv' := [(1, .int (nI 0)), (0, .ref o)]) X.1 X.2.1 d_Ae_init_56 rfl hl (by decide) rfl (fun ls hl => ?_)
  have lp136 : ∀ (n137 i : Nat) (g143 : Nat → Int32) (g145 : Nat → Int32) (f139 : pF) (H : Heap) (locs : List Loc) (ls : Array Slot), 256 - i = n137 → (i ≤ 256) → by8 g145 → f139 o = .inr (1, [.ref q1, .ref q16, .ref q34, .int (nI 0), .ref q55, .ref q79, .ref q106]) → f139 q1 = .inl (E.2.1, 256, .inl g143) → f139 q16 = .inl (E.2.1, 256, .inl g145) → f139 q34 = .inl (E.2.1, 240, .inl (fun _ => 0)) → f139 q55 = .inl (E.2.1, 16, .inl (fun _ => 0)) → f139 q79 = .inl (E.2.1, 16, .inl (fun _ => 0)) → f139 q106 = .inl (E.1, 16, .inl (fun _ => 0)) → (∀ x, x ∈ L → x ≠ o → f139 x = f x) → pH D cCl (pA L sz) s.heap L107 f139 H locs → lv_has ls 2 [(1, .int (nI i)), (0, .ref o)] → W p l e (kRm 1 20 6 (800)) s m AV below meth c H locs 6 800 QQ (F0 m 57 ls []) := by
    intro n137
    induction n137 with
    | zero =>
      intro i g143 g145 f139 H locs ls hm152 hc151 hg146 e141 e142 e144 e147 e148 e149 e150 hF140 Y hl
      refine lv_iload_n X.1 X.2.1 d_Ae_init_57 rfl (lv_at hl 0 rfl) ?_
      refine lv_sipush (v := (nI 256)) X.1 X.2.1 d_Ae_init_58 (by decide) ?_
      refine lv_icmp_ge (tgt := 99) X.1 X.2.1 d_Ae_init_61 (by decide) (fun c153 => ?_) (fun c153 => absurd ?_ c153)
      rotate_left
      · (rw [nI_leI (by omega) (by omega)] <;> omega)
      rw [nI_leI (by omega) (by omega)] at c153
      refine W.cs (cells' := 6) (slots' := 800) (by omega) (by omega) ?_
      exact c_retv hQQ X Y hr hlk ⟨s109, hF140, q16, q34, q55, q79, q1, q106, g145, (fun _ => 0), (fun _ => 0), (fun _ => 0), m123, nl21, m124, nl39, m125, nl60, m126, nl84, (ne_mem hqq34 m20), (ne_mem hqq55 m48), (ne_mem hqq79 m70), (ne_mem hqq55 m38), (ne_mem hqq79 m71), (ne_mem hqq79 m59), hg146, by8_0, by8_0, by8_0, e141, e144, e147, e148, e149⟩ d_Ae_init_99
    | succ n137 ih138 =>
      intro i g143 g145 f139 H locs ls hm152 hc151 hg146 e141 e142 e144 e147 e148 e149 e150 hF140 Y hl
      refine lv_iload_n X.1 X.2.1 d_Ae_init_57 rfl (lv_at hl 0 rfl) ?_
      refine lv_sipush (v := (nI 256)) X.1 X.2.1 d_Ae_init_58 (by decide) ?_
      refine lv_icmp_ge (tgt := 99) X.1 X.2.1 d_Ae_init_61 (by decide) (fun c154 => absurd c154 ?_) (fun c154 => ?_)
      · (rw [nI_leI (by omega) (by omega)] <;> omega)
      rw [nI_leI (by omega) (by omega)] at c154
      refine lv_aload_n X.1 X.2.1 d_Ae_init_64 rfl (lv_at hl 1 rfl) ?_
      refine q_get X.1 X.2.1 X.2.2.1 i_Ae X.2.2.2.1 X.2.2.2.2 Y m121 e141 rfl 0 (by decide) (X.2.2.1 _ lk_Ae_7) (fun _ h9 => h9) rfl d_Ae_init_65 ?_
      refine k_gets 1 (by decide) X Y KS sk_Ae_29 d_Ae_init_68 ?_
      refine lv_iload_n X.1 X.2.1 d_Ae_init_71 rfl (lv_at hl 0 rfl) ?_
      refine k_iald 1 (by decide) rfl X Y KS (vp_in_nI (show i < sL 1 by first | decide | exact (by omega : i < 256)) (by decide)) d_Ae_init_72 ?_
      obtain ⟨j155, hj155, ej155⟩ := sBOX_lt ((nI i)).toNatClampNeg
      refine t_eq ej155 ?_
      refine lv_iload_n X.1 X.2.1 d_Ae_init_73 rfl (lv_at hl 0 rfl) ?_
      refine q_iast X.1 X.2.1 X.2.2.2.2 Y 1 m122 e142 rfl (vp_in_nI (by omega) (by omega)) d_Ae_init_74 (fun H locs Y => ?_)
      generalize (upd g143 ((nI j155)).toNatClampNeg (nI i)) = g156 at Y
      have e159 : (va_up f139 q1 (.inl (E.2.1, 256, .inl g156))) q1 = .inl (E.2.1, 256, .inl g156) := q_up
      have e160 : (va_up f139 q1 (.inl (E.2.1, 256, .inl g156))) o = .inr (1, [.ref q1, .ref q16, .ref q34, .int (nI 0), .ref q55, .ref q79, .ref q106]) := (q_ne (q_tag e141 e142 (show (1 : Nat) ≠ 1000 by decide))).trans e141
      have e161 : (va_up f139 q1 (.inl (E.2.1, 256, .inl g156))) q16 = .inl (E.2.1, 256, .inl g145) := (q_ne (ne_mem hqq16 m5).symm).trans e144
      have e162 : (va_up f139 q1 (.inl (E.2.1, 256, .inl g156))) q34 = .inl (E.2.1, 240, .inl (fun _ => 0)) := (q_ne (ne_mem hqq34 m28).symm).trans e147
      have e163 : (va_up f139 q1 (.inl (E.2.1, 256, .inl g156))) q55 = .inl (E.2.1, 16, .inl (fun _ => 0)) := (q_ne (ne_mem hqq55 m47).symm).trans e148
      have e164 : (va_up f139 q1 (.inl (E.2.1, 256, .inl g156))) q79 = .inl (E.2.1, 16, .inl (fun _ => 0)) := (q_ne (ne_mem hqq79 m69).symm).trans e149
      have e165 : (va_up f139 q1 (.inl (E.2.1, 256, .inl g156))) q106 = .inl (E.1, 16, .inl (fun _ => 0)) := (q_ne (ne_mem hqq106 m94).symm).trans e150
      have hF166 : ∀ x, x ∈ L → x ≠ o → (va_up f139 q1 (.inl (E.2.1, 256, .inl g156))) x = f x := fun x hx h0 => (q_ne (ne_mem nl6 hx)).trans (hF140 x hx h0)
      have Y : pH D cCl (pA L sz) s.heap L107 (va_up f139 q1 (.inl (E.2.1, 256, .inl g156))) H locs := Y
      generalize (va_up f139 q1 (.inl (E.2.1, 256, .inl g156))) = f158 at Y e159 e160 e161 e162 e163 e164 e165 hF166
      refine lv_aload_n X.1 X.2.1 d_Ae_init_75 rfl (lv_at hl 1 rfl) ?_
      refine q_get X.1 X.2.1 X.2.2.1 i_Ae X.2.2.2.1 X.2.2.2.2 Y m121 e160 rfl 1 (by decide) (X.2.2.1 _ lk_Ae_13) (fun _ h9 => h9) rfl d_Ae_init_76 ?_
      refine lv_iload_n X.1 X.2.1 d_Ae_init_79 rfl (lv_at hl 0 rfl) ?_
      refine lv_iload_n X.1 X.2.1 d_Ae_init_80 rfl (lv_at hl 0 rfl) ?_
      refine lv_iconst (v := (nI 1)) X.1 X.2.1 d_Ae_init_81 (by decide) ?_
      refine lv_ishl X.1 X.2.1 d_Ae_init_82 ?_
      refine lv_iload_n X.1 X.2.1 d_Ae_init_83 rfl (lv_at hl 0 rfl) ?_
      refine lv_bipush (v := (nI 7)) X.1 X.2.1 d_Ae_init_84 (by decide) ?_
      refine lv_ishr X.1 X.2.1 d_Ae_init_86 ?_
      refine lv_sipush (v := (nI 283)) X.1 X.2.1 d_Ae_init_87 (by decide) ?_
      refine lv_imul X.1 X.2.1 d_Ae_init_90 ?_
      refine lv_ixor X.1 X.2.1 d_Ae_init_91 ?_
      obtain ⟨j167, hj167, ej167⟩ := tw_ok (i) (by omega)
      refine t_eq ej167 ?_
      refine q_iast X.1 X.2.1 X.2.2.2.2 Y 1 m123 e161 rfl (vp_in_nI (by omega) (by omega)) d_Ae_init_92 (fun H locs Y => ?_)
      have hg169 : by8 (upd g145 ((nI i)).toNatClampNeg (nI j167)) := by8_upd hg146 (show j167 < 256 by omega)
      generalize (upd g145 ((nI i)).toNatClampNeg (nI j167)) = g168 at Y hg169
      have e171 : (va_up f158 q16 (.inl (E.2.1, 256, .inl g168))) q16 = .inl (E.2.1, 256, .inl g168) := q_up
      have e172 : (va_up f158 q16 (.inl (E.2.1, 256, .inl g168))) o = .inr (1, [.ref q1, .ref q16, .ref q34, .int (nI 0), .ref q55, .ref q79, .ref q106]) := (q_ne (q_tag e160 e161 (show (1 : Nat) ≠ 1000 by decide))).trans e160
      have e173 : (va_up f158 q16 (.inl (E.2.1, 256, .inl g168))) q1 = .inl (E.2.1, 256, .inl g156) := (q_ne (ne_mem hqq16 m5)).trans e159
      have e174 : (va_up f158 q16 (.inl (E.2.1, 256, .inl g168))) q34 = .inl (E.2.1, 240, .inl (fun _ => 0)) := (q_ne (ne_mem hqq34 m20).symm).trans e162
      have e175 : (va_up f158 q16 (.inl (E.2.1, 256, .inl g168))) q55 = .inl (E.2.1, 16, .inl (fun _ => 0)) := (q_ne (ne_mem hqq55 m48).symm).trans e163
      have e176 : (va_up f158 q16 (.inl (E.2.1, 256, .inl g168))) q79 = .inl (E.2.1, 16, .inl (fun _ => 0)) := (q_ne (ne_mem hqq79 m70).symm).trans e164
      have e177 : (va_up f158 q16 (.inl (E.2.1, 256, .inl g168))) q106 = .inl (E.1, 16, .inl (fun _ => 0)) := (q_ne (ne_mem hqq106 m95).symm).trans e165
      have hF178 : ∀ x, x ∈ L → x ≠ o → (va_up f158 q16 (.inl (E.2.1, 256, .inl g168))) x = f x := fun x hx h0 => (q_ne (ne_mem nl21 hx)).trans (hF166 x hx h0)
      have Y : pH D cCl (pA L sz) s.heap L107 (va_up f158 q16 (.inl (E.2.1, 256, .inl g168))) H locs := Y
      generalize (va_up f158 q16 (.inl (E.2.1, 256, .inl g168))) = f170 at Y e171 e172 e173 e174 e175 e176 e177 hF178
      refine lv_iinc (v := (nI (i + 1))) (lv' := [(1, .int (nI (i + 1))), (0, .ref o)]) X.1 X.2.1 d_Ae_init_93 hl (k := 0) rfl (nI_add _ 1) (by decide) rfl (fun ls hl => ?_)
      refine lv_goto (tgt := 57) X.1 X.2.1 d_Ae_init_96 (by decide) ?_
      exact ih138  (i + 1)    g156 g168 f170 _ _ _ (by omega) (by omega) hg169 e172 e173 e171 e174 e175 e176 e177 hF178 Y (lv_sub hl [0, 1] rfl)
  exact lp136 (256) (0)    (fun _ => 0) (fun _ => 0) f127 _ _ _ (by omega) (by omega) by8_0 e128 e129 e130 e131 e132 e133 e134 hF135 Y (lv_sub hl [0, 1] rfl)
set_option maxHeartbeats 4000000 in
set_option maxRecDepth 100000 in
theorem c_Ae_mix (l : Launch) (D : va_G) (E : cE) (T : cT) (L : List Nat) (f : pF) (sz : Nat) (o tw ke sta mo un kp rd : Nat) (g_tw g_ke g_sta g_mo : Nat → Int32) (m_o : o ∈ L) (m_tw : tw ∈ L) (m_ke : ke ∈ L) (m_sta : sta ∈ L) (m_mo : mo ∈ L) (e_o : f o = .inr (1, [.ref un, .ref tw, .ref ke, .int (nI rd), .ref sta, .ref mo, .ref kp])) (e_tw : f tw = .inl (E.2.1, 256, .inl g_tw)) (e_ke : f ke = .inl (E.2.1, 240, .inl g_ke)) (e_sta : f sta = .inl (E.2.1, 16, .inl g_sta)) (e_mo : f mo = .inl (E.2.1, 16, .inl g_mo)) (f_tw : by8 g_tw) (f_ke : by8 g_ke) (f_sta : by8 g_sta) (f_mo : by8 g_mo) (ap_tw_ke : tw ≠ ke) (ap_tw_sta : tw ≠ sta) (ap_tw_mo : tw ≠ mo) (ap_ke_sta : ke ≠ sta) (ap_ke_mo : ke ≠ mo) (ap_sta_mo : sta ≠ mo) : Met l y_Ae_mix (k_Ae_mix :: lw_tg) (kRm 0 0 0 (0)) (va_Pc [.ref o] (kPre D E T L f sz)) (va_Qv (fun (u : cU) => u.1 = L ∧ (∀ x, x ≠ mo → u.2 x = f x) ∧ ∃ (k_mo : Nat → Int32), by8 k_mo ∧ u.2 mo = .inl (E.2.1, 16, .inl k_mo)) (cPost D E (pA L sz)) (pA L sz)) 0 (0) (pA L sz) := by
  refine k_enter (own := R_Ae) (by decide) rfl (Nat.le_of_ble_eq_true rfl) (fun p e s m below meth c ls AV QQ H locs hQQ X Y hA hin hr hlk hml hl KS KR => ?_)
  have hl : lv_has ls 7 [(0, .ref o)] := hl
  refine lv_iconst (v := (nI 0)) X.1 X.2.1 d_Ae_mix_0 (by decide) ?_
  refine lv_istore_n (lv' := [(1, .int (nI 0)), (0, .ref o)]) X.1 X.2.1 d_Ae_mix_1 rfl hl (by decide) rfl (fun ls hl => ?_)
  have lp1 : ∀ (n2 i : Nat) (g11 : Nat → Int32) (f4 : pF) (H : Heap) (locs : List Loc) (ls : Array Slot), (16 - i) / 4 = n2 → (i ≤ 16) → (i % 4 = 0) → by8 g11 → f4 o = .inr (1, [.ref un, .ref tw, .ref ke, .int (nI rd), .ref sta, .ref mo, .ref kp]) → f4 tw = .inl (E.2.1, 256, .inl g_tw) → f4 ke = .inl (E.2.1, 240, .inl g_ke) → f4 sta = .inl (E.2.1, 16, .inl g_sta) → f4 mo = .inl (E.2.1, 16, .inl g11) → (∀ x, x ≠ mo → f4 x = f x) → pH D cCl (pA L sz) s.heap L f4 H locs → lv_has ls 7 [(1, .int (nI i)), (0, .ref o)] → W p l e (kRm 0 0 0 (0)) s m AV below meth c H locs 0 0 QQ (F0 m 2 ls []) := by
    intro n2
    induction n2 with
    | zero =>
      intro i g11 f4 H locs ls hm15 hc13 hc14 hg12 e6 e7 e8 e9 e10 hF5 Y hl
      refine lv_iload_n X.1 X.2.1 d_Ae_mix_2 rfl (lv_at hl 0 rfl) ?_
      refine lv_bipush (v := (nI 16)) X.1 X.2.1 d_Ae_mix_3 (by decide) ?_
      refine lv_icmp_ge (tgt := 149) X.1 X.2.1 d_Ae_mix_5 (by decide) (fun c16 => ?_) (fun c16 => absurd ?_ c16)
      rotate_left
      · (rw [nI_leI (by omega) (by omega)] <;> omega)
      rw [nI_leI (by omega) (by omega)] at c16
      exact c_retv hQQ X Y hr hlk ⟨rfl, hF5, g11, hg12, e10⟩ d_Ae_mix_149
    | succ n2 ih3 =>
      intro i g11 f4 H locs ls hm15 hc13 hc14 hg12 e6 e7 e8 e9 e10 hF5 Y hl
      refine lv_iload_n X.1 X.2.1 d_Ae_mix_2 rfl (lv_at hl 0 rfl) ?_
      refine lv_bipush (v := (nI 16)) X.1 X.2.1 d_Ae_mix_3 (by decide) ?_
      refine lv_icmp_ge (tgt := 149) X.1 X.2.1 d_Ae_mix_5 (by decide) (fun c17 => absurd c17 ?_) (fun c17 => ?_)
      · (rw [nI_leI (by omega) (by omega)] <;> omega)
      rw [nI_leI (by omega) (by omega)] at c17
      refine lv_aload_n X.1 X.2.1 d_Ae_mix_8 rfl (lv_at hl 1 rfl) ?_
      refine q_get X.1 X.2.1 X.2.2.1 i_Ae X.2.2.2.1 X.2.2.2.2 Y m_o e6 rfl 5 (by decide) (X.2.2.1 _ lk_Ae_22) (fun _ h9 => h9) rfl d_Ae_mix_9 ?_
      refine lv_iload_n X.1 X.2.1 d_Ae_mix_12 rfl (lv_at hl 0 rfl) ?_
      refine q_iald X.1 X.2.1 X.2.2.2.2 Y 1 m_mo e10 rfl (vp_in_nI (by omega) (by omega)) d_Ae_mix_13 ?_
      obtain ⟨j18, hj18, ej18⟩ := hg12 ((nI i)).toNatClampNeg
      refine t_eq ej18 ?_
      refine lv_istore_n (lv' := [(2, .int (nI j18)), (1, .int (nI i)), (0, .ref o)]) X.1 X.2.1 d_Ae_mix_14 rfl hl (by decide) rfl (fun ls hl => ?_)
      refine lv_aload_n X.1 X.2.1 d_Ae_mix_15 rfl (lv_at hl 2 rfl) ?_
      refine q_get X.1 X.2.1 X.2.2.1 i_Ae X.2.2.2.1 X.2.2.2.2 Y m_o e6 rfl 5 (by decide) (X.2.2.1 _ lk_Ae_22) (fun _ h9 => h9) rfl d_Ae_mix_16 ?_
      refine lv_iload_n X.1 X.2.1 d_Ae_mix_19 rfl (lv_at hl 1 rfl) ?_
      refine lv_iconst (v := (nI 1)) X.1 X.2.1 d_Ae_mix_20 (by decide) ?_
      refine lv_iadd X.1 X.2.1 d_Ae_mix_21 ?_
      refine t_eq (y := nI (i + 1)) (nI_add _ _) ?_
      refine q_iald X.1 X.2.1 X.2.2.2.2 Y 1 m_mo e10 rfl (vp_in_nI (by omega) (by omega)) d_Ae_mix_22 ?_
      obtain ⟨j19, hj19, ej19⟩ := hg12 ((nI (i + 1))).toNatClampNeg
      refine t_eq ej19 ?_
      refine lv_istore_n (lv' := [(3, .int (nI j19)), (2, .int (nI j18)), (1, .int (nI i)), (0, .ref o)]) X.1 X.2.1 d_Ae_mix_23 rfl hl (by decide) rfl (fun ls hl => ?_)
      refine lv_aload_n X.1 X.2.1 d_Ae_mix_24 rfl (lv_at hl 3 rfl) ?_
      refine q_get X.1 X.2.1 X.2.2.1 i_Ae X.2.2.2.1 X.2.2.2.2 Y m_o e6 rfl 5 (by decide) (X.2.2.1 _ lk_Ae_22) (fun _ h9 => h9) rfl d_Ae_mix_25 ?_
      refine lv_iload_n X.1 X.2.1 d_Ae_mix_28 rfl (lv_at hl 2 rfl) ?_
      refine lv_iconst (v := (nI 2)) X.1 X.2.1 d_Ae_mix_29 (by decide) ?_
      refine lv_iadd X.1 X.2.1 d_Ae_mix_30 ?_
      refine t_eq (y := nI (i + 2)) (nI_add _ _) ?_
      refine q_iald X.1 X.2.1 X.2.2.2.2 Y 1 m_mo e10 rfl (vp_in_nI (by omega) (by omega)) d_Ae_mix_31 ?_
      obtain ⟨j20, hj20, ej20⟩ := hg12 ((nI (i + 2))).toNatClampNeg
      refine t_eq ej20 ?_
      refine lv_istore (lv' := [(4, .int (nI j20)), (3, .int (nI j19)), (2, .int (nI j18)), (1, .int (nI i)), (0, .ref o)]) X.1 X.2.1 d_Ae_mix_32 hl (by decide) rfl (fun ls hl => ?_)
      refine lv_aload_n X.1 X.2.1 d_Ae_mix_34 rfl (lv_at hl 4 rfl) ?_
      refine q_get X.1 X.2.1 X.2.2.1 i_Ae X.2.2.2.1 X.2.2.2.2 Y m_o e6 rfl 5 (by decide) (X.2.2.1 _ lk_Ae_22) (fun _ h9 => h9) rfl d_Ae_mix_35 ?_
      refine lv_iload_n X.1 X.2.1 d_Ae_mix_38 rfl (lv_at hl 3 rfl) ?_
      refine lv_iconst (v := (nI 3)) X.1 X.2.1 d_Ae_mix_39 (by decide) ?_
      refine lv_iadd X.1 X.2.1 d_Ae_mix_40 ?_
      refine t_eq (y := nI (i + 3)) (nI_add _ _) ?_
      refine q_iald X.1 X.2.1 X.2.2.2.2 Y 1 m_mo e10 rfl (vp_in_nI (by omega) (by omega)) d_Ae_mix_41 ?_
      obtain ⟨j21, hj21, ej21⟩ := hg12 ((nI (i + 3))).toNatClampNeg
      refine t_eq ej21 ?_
      refine lv_istore (lv' := [(5, .int (nI j21)), (4, .int (nI j20)), (3, .int (nI j19)), (2, .int (nI j18)), (1, .int (nI i)), (0, .ref o)]) X.1 X.2.1 d_Ae_mix_42 hl (by decide) rfl (fun ls hl => ?_)
      refine lv_iload_n X.1 X.2.1 d_Ae_mix_44 rfl (lv_at hl 3 rfl) ?_
      refine lv_iload_n X.1 X.2.1 d_Ae_mix_45 rfl (lv_at hl 2 rfl) ?_
      refine lv_ixor X.1 X.2.1 d_Ae_mix_46 ?_
      obtain ⟨j22, hj22, ej22⟩ := by_ixor (a := j18) (b := j19) (by omega) (by omega)
      refine t_eq ej22 ?_
      refine lv_iload X.1 X.2.1 d_Ae_mix_47 (lv_at hl 1 rfl) ?_
      refine lv_ixor X.1 X.2.1 d_Ae_mix_49 ?_
      obtain ⟨j23, hj23, ej23⟩ := by_ixor (a := j22) (b := j20) (by omega) (by omega)
      refine t_eq ej23 ?_
      refine lv_iload X.1 X.2.1 d_Ae_mix_50 (lv_at hl 0 rfl) ?_
      refine lv_ixor X.1 X.2.1 d_Ae_mix_52 ?_
      obtain ⟨j24, hj24, ej24⟩ := by_ixor (a := j23) (b := j21) (by omega) (by omega)
      refine t_eq ej24 ?_
      refine lv_istore (lv' := [(6, .int (nI j24)), (5, .int (nI j21)), (4, .int (nI j20)), (3, .int (nI j19)), (2, .int (nI j18)), (1, .int (nI i)), (0, .ref o)]) X.1 X.2.1 d_Ae_mix_53 hl (by decide) rfl (fun ls hl => ?_)
      refine lv_aload_n X.1 X.2.1 d_Ae_mix_55 rfl (lv_at hl 6 rfl) ?_
      refine q_get X.1 X.2.1 X.2.2.1 i_Ae X.2.2.2.1 X.2.2.2.2 Y m_o e6 rfl 5 (by decide) (X.2.2.1 _ lk_Ae_22) (fun _ h9 => h9) rfl d_Ae_mix_56 ?_
      refine lv_iload_n X.1 X.2.1 d_Ae_mix_59 rfl (lv_at hl 5 rfl) ?_
      refine lv_iload_n X.1 X.2.1 d_Ae_mix_60 rfl (lv_at hl 4 rfl) ?_
      refine lv_iload X.1 X.2.1 d_Ae_mix_61 (lv_at hl 0 rfl) ?_
      refine lv_ixor X.1 X.2.1 d_Ae_mix_63 ?_
      obtain ⟨j25, hj25, ej25⟩ := by_ixor (a := j18) (b := j24) (by omega) (by omega)
      refine t_eq ej25 ?_
      refine lv_aload_n X.1 X.2.1 d_Ae_mix_64 rfl (lv_at hl 6 rfl) ?_
      refine q_get X.1 X.2.1 X.2.2.1 i_Ae X.2.2.2.1 X.2.2.2.2 Y m_o e6 rfl 1 (by decide) (X.2.2.1 _ lk_Ae_13) (fun _ h9 => h9) rfl d_Ae_mix_65 ?_
      refine lv_iload_n X.1 X.2.1 d_Ae_mix_68 rfl (lv_at hl 4 rfl) ?_
      refine lv_iload_n X.1 X.2.1 d_Ae_mix_69 rfl (lv_at hl 3 rfl) ?_
      refine lv_ixor X.1 X.2.1 d_Ae_mix_70 ?_
      obtain ⟨j26, hj26, ej26⟩ := by_ixor (a := j18) (b := j19) (by omega) (by omega)
      refine t_eq ej26 ?_
      refine q_iald X.1 X.2.1 X.2.2.2.2 Y 1 m_tw e7 rfl (vp_in_nI (by omega) (by omega)) d_Ae_mix_71 ?_
      obtain ⟨j27, hj27, ej27⟩ := f_tw ((nI j26)).toNatClampNeg
      refine t_eq ej27 ?_
      refine lv_ixor X.1 X.2.1 d_Ae_mix_72 ?_
      obtain ⟨j28, hj28, ej28⟩ := by_ixor (a := j25) (b := j27) (by omega) (by omega)
      refine t_eq ej28 ?_
      refine q_iast X.1 X.2.1 X.2.2.2.2 Y 1 m_mo e10 rfl (vp_in_nI (by omega) (by omega)) d_Ae_mix_73 (fun H locs Y => ?_)
      have hg30 : by8 (upd g11 ((nI i)).toNatClampNeg (nI j28)) := by8_upd hg12 (show j28 < 256 by omega)
      generalize (upd g11 ((nI i)).toNatClampNeg (nI j28)) = g29 at Y hg30
      have e32 : (va_up f4 mo (.inl (E.2.1, 16, .inl g29))) mo = .inl (E.2.1, 16, .inl g29) := q_up
      have e33 : (va_up f4 mo (.inl (E.2.1, 16, .inl g29))) o = .inr (1, [.ref un, .ref tw, .ref ke, .int (nI rd), .ref sta, .ref mo, .ref kp]) := (q_ne (q_tag e6 e10 (show (1 : Nat) ≠ 1000 by decide))).trans e6
      have e34 : (va_up f4 mo (.inl (E.2.1, 16, .inl g29))) tw = .inl (E.2.1, 256, .inl g_tw) := (q_ne ap_tw_mo).trans e7
      have e35 : (va_up f4 mo (.inl (E.2.1, 16, .inl g29))) ke = .inl (E.2.1, 240, .inl g_ke) := (q_ne ap_ke_mo).trans e8
      have e36 : (va_up f4 mo (.inl (E.2.1, 16, .inl g29))) sta = .inl (E.2.1, 16, .inl g_sta) := (q_ne ap_sta_mo).trans e9
      have hF37 : ∀ x, x ≠ mo → (va_up f4 mo (.inl (E.2.1, 16, .inl g29))) x = f x := fun x h0 => (q_ne h0).trans (hF5 x h0)
      have Y : pH D cCl (pA L sz) s.heap L (va_up f4 mo (.inl (E.2.1, 16, .inl g29))) H locs := Y
      generalize (va_up f4 mo (.inl (E.2.1, 16, .inl g29))) = f31 at Y e32 e33 e34 e35 e36 hF37
      refine lv_aload_n X.1 X.2.1 d_Ae_mix_74 rfl (lv_at hl 6 rfl) ?_
      refine q_get X.1 X.2.1 X.2.2.1 i_Ae X.2.2.2.1 X.2.2.2.2 Y m_o e33 rfl 5 (by decide) (X.2.2.1 _ lk_Ae_22) (fun _ h9 => h9) rfl d_Ae_mix_75 ?_
      refine lv_iload_n X.1 X.2.1 d_Ae_mix_78 rfl (lv_at hl 5 rfl) ?_
      refine lv_iconst (v := (nI 1)) X.1 X.2.1 d_Ae_mix_79 (by decide) ?_
      refine lv_iadd X.1 X.2.1 d_Ae_mix_80 ?_
      refine t_eq (y := nI (i + 1)) (nI_add _ _) ?_
      refine lv_iload_n X.1 X.2.1 d_Ae_mix_81 rfl (lv_at hl 3 rfl) ?_
      refine lv_iload X.1 X.2.1 d_Ae_mix_82 (lv_at hl 0 rfl) ?_
      refine lv_ixor X.1 X.2.1 d_Ae_mix_84 ?_
      obtain ⟨j38, hj38, ej38⟩ := by_ixor (a := j19) (b := j24) (by omega) (by omega)
      refine t_eq ej38 ?_
      refine lv_aload_n X.1 X.2.1 d_Ae_mix_85 rfl (lv_at hl 6 rfl) ?_
      refine q_get X.1 X.2.1 X.2.2.1 i_Ae X.2.2.2.1 X.2.2.2.2 Y m_o e33 rfl 1 (by decide) (X.2.2.1 _ lk_Ae_13) (fun _ h9 => h9) rfl d_Ae_mix_86 ?_
      refine lv_iload_n X.1 X.2.1 d_Ae_mix_89 rfl (lv_at hl 3 rfl) ?_
      refine lv_iload X.1 X.2.1 d_Ae_mix_90 (lv_at hl 2 rfl) ?_
      refine lv_ixor X.1 X.2.1 d_Ae_mix_92 ?_
      obtain ⟨j39, hj39, ej39⟩ := by_ixor (a := j19) (b := j20) (by omega) (by omega)
      refine t_eq ej39 ?_
      refine q_iald X.1 X.2.1 X.2.2.2.2 Y 1 m_tw e34 rfl (vp_in_nI (by omega) (by omega)) d_Ae_mix_93 ?_
      obtain ⟨j40, hj40, ej40⟩ := f_tw ((nI j39)).toNatClampNeg
      refine t_eq ej40 ?_
      refine lv_ixor X.1 X.2.1 d_Ae_mix_94 ?_
      obtain ⟨j41, hj41, ej41⟩ := by_ixor (a := j38) (b := j40) (by omega) (by omega)
      refine t_eq ej41 ?_
      refine q_iast X.1 X.2.1 X.2.2.2.2 Y 1 m_mo e32 rfl (vp_in_nI (by omega) (by omega)) d_Ae_mix_95 (fun H locs Y => ?_)
      have hg43 : by8 (upd g29 ((nI (i + 1))).toNatClampNeg (nI j41)) := by8_upd hg30 (show j41 < 256 by omega)
      generalize (upd g29 ((nI (i + 1))).toNatClampNeg (nI j41)) = g42 at Y hg43
      have e45 : (va_up f31 mo (.inl (E.2.1, 16, .inl g42))) mo = .inl (E.2.1, 16, .inl g42) := q_up
      have e46 : (va_up f31 mo (.inl (E.2.1, 16, .inl g42))) o = .inr (1, [.ref un, .ref tw, .ref ke, .int (nI rd), .ref sta, .ref mo, .ref kp]) := (q_ne (q_tag e33 e32 (show (1 : Nat) ≠ 1000 by decide))).trans e33
      have e47 : (va_up f31 mo (.inl (E.2.1, 16, .inl g42))) tw = .inl (E.2.1, 256, .inl g_tw) := (q_ne ap_tw_mo).trans e34
      have e48 : (va_up f31 mo (.inl (E.2.1, 16, .inl g42))) ke = .inl (E.2.1, 240, .inl g_ke) := (q_ne ap_ke_mo).trans e35
      have e49 : (va_up f31 mo (.inl (E.2.1, 16, .inl g42))) sta = .inl (E.2.1, 16, .inl g_sta) := (q_ne ap_sta_mo).trans e36
      have hF50 : ∀ x, x ≠ mo → (va_up f31 mo (.inl (E.2.1, 16, .inl g42))) x = f x := fun x h0 => (q_ne h0).trans (hF37 x h0)
      have Y : pH D cCl (pA L sz) s.heap L (va_up f31 mo (.inl (E.2.1, 16, .inl g42))) H locs := Y
      generalize (va_up f31 mo (.inl (E.2.1, 16, .inl g42))) = f44 at Y e45 e46 e47 e48 e49 hF50
      refine lv_aload_n X.1 X.2.1 d_Ae_mix_96 rfl (lv_at hl 6 rfl) ?_
      refine q_get X.1 X.2.1 X.2.2.1 i_Ae X.2.2.2.1 X.2.2.2.2 Y m_o e46 rfl 5 (by decide) (X.2.2.1 _ lk_Ae_22) (fun _ h9 => h9) rfl d_Ae_mix_97 ?_
      refine lv_iload_n X.1 X.2.1 d_Ae_mix_100 rfl (lv_at hl 5 rfl) ?_
      refine lv_iconst (v := (nI 2)) X.1 X.2.1 d_Ae_mix_101 (by decide) ?_
      refine lv_iadd X.1 X.2.1 d_Ae_mix_102 ?_
      refine t_eq (y := nI (i + 2)) (nI_add _ _) ?_
      refine lv_iload X.1 X.2.1 d_Ae_mix_103 (lv_at hl 2 rfl) ?_
      refine lv_iload X.1 X.2.1 d_Ae_mix_105 (lv_at hl 0 rfl) ?_
      refine lv_ixor X.1 X.2.1 d_Ae_mix_107 ?_
      obtain ⟨j51, hj51, ej51⟩ := by_ixor (a := j20) (b := j24) (by omega) (by omega)
      refine t_eq ej51 ?_
      refine lv_aload_n X.1 X.2.1 d_Ae_mix_108 rfl (lv_at hl 6 rfl) ?_
      refine q_get X.1 X.2.1 X.2.2.1 i_Ae X.2.2.2.1 X.2.2.2.2 Y m_o e46 rfl 1 (by decide) (X.2.2.1 _ lk_Ae_13) (fun _ h9 => h9) rfl d_Ae_mix_109 ?_
      refine lv_iload X.1 X.2.1 d_Ae_mix_112 (lv_at hl 2 rfl) ?_
      refine lv_iload X.1 X.2.1 d_Ae_mix_114 (lv_at hl 1 rfl) ?_
      refine lv_ixor X.1 X.2.1 d_Ae_mix_116 ?_
      obtain ⟨j52, hj52, ej52⟩ := by_ixor (a := j20) (b := j21) (by omega) (by omega)
      refine t_eq ej52 ?_
      refine q_iald X.1 X.2.1 X.2.2.2.2 Y 1 m_tw e47 rfl (vp_in_nI (by omega) (by omega)) d_Ae_mix_117 ?_
      obtain ⟨j53, hj53, ej53⟩ := f_tw ((nI j52)).toNatClampNeg
      refine t_eq ej53 ?_
      refine lv_ixor X.1 X.2.1 d_Ae_mix_118 ?_
      obtain ⟨j54, hj54, ej54⟩ := by_ixor (a := j51) (b := j53) (by omega) (by omega)
      refine t_eq ej54 ?_
      refine q_iast X.1 X.2.1 X.2.2.2.2 Y 1 m_mo e45 rfl (vp_in_nI (by omega) (by omega)) d_Ae_mix_119 (fun H locs Y => ?_)
      have hg56 : by8 (upd g42 ((nI (i + 2))).toNatClampNeg (nI j54)) := by8_upd hg43 (show j54 < 256 by omega)
      generalize (upd g42 ((nI (i + 2))).toNatClampNeg (nI j54)) = g55 at Y hg56
      have e58 : (va_up f44 mo (.inl (E.2.1, 16, .inl g55))) mo = .inl (E.2.1, 16, .inl g55) := q_up
      have e59 : (va_up f44 mo (.inl (E.2.1, 16, .inl g55))) o = .inr (1, [.ref un, .ref tw, .ref ke, .int (nI rd), .ref sta, .ref mo, .ref kp]) := (q_ne (q_tag e46 e45 (show (1 : Nat) ≠ 1000 by decide))).trans e46
      have e60 : (va_up f44 mo (.inl (E.2.1, 16, .inl g55))) tw = .inl (E.2.1, 256, .inl g_tw) := (q_ne ap_tw_mo).trans e47
      have e61 : (va_up f44 mo (.inl (E.2.1, 16, .inl g55))) ke = .inl (E.2.1, 240, .inl g_ke) := (q_ne ap_ke_mo).trans e48
      have e62 : (va_up f44 mo (.inl (E.2.1, 16, .inl g55))) sta = .inl (E.2.1, 16, .inl g_sta) := (q_ne ap_sta_mo).trans e49
      have hF63 : ∀ x, x ≠ mo → (va_up f44 mo (.inl (E.2.1, 16, .inl g55))) x = f x := fun x h0 => (q_ne h0).trans (hF50 x h0)
      have Y : pH D cCl (pA L sz) s.heap L (va_up f44 mo (.inl (E.2.1, 16, .inl g55))) H locs := Y
      generalize (va_up f44 mo (.inl (E.2.1, 16, .inl g55))) = f57 at Y e58 e59 e60 e61 e62 hF63
      refine lv_aload_n X.1 X.2.1 d_Ae_mix_120 rfl (lv_at hl 6 rfl) ?_
      refine q_get X.1 X.2.1 X.2.2.1 i_Ae X.2.2.2.1 X.2.2.2.2 Y m_o e59 rfl 5 (by decide) (X.2.2.1 _ lk_Ae_22) (fun _ h9 => h9) rfl d_Ae_mix_121 ?_
      refine lv_iload_n X.1 X.2.1 d_Ae_mix_124 rfl (lv_at hl 5 rfl) ?_
      refine lv_iconst (v := (nI 3)) X.1 X.2.1 d_Ae_mix_125 (by decide) ?_
      refine lv_iadd X.1 X.2.1 d_Ae_mix_126 ?_
      refine t_eq (y := nI (i + 3)) (nI_add _ _) ?_
      refine lv_iload X.1 X.2.1 d_Ae_mix_127 (lv_at hl 1 rfl) ?_
      refine lv_iload X.1 X.2.1 d_Ae_mix_129 (lv_at hl 0 rfl) ?_
      refine lv_ixor X.1 X.2.1 d_Ae_mix_131 ?_
      obtain ⟨j64, hj64, ej64⟩ := by_ixor (a := j21) (b := j24) (by omega) (by omega)
      refine t_eq ej64 ?_
      refine lv_aload_n X.1 X.2.1 d_Ae_mix_132 rfl (lv_at hl 6 rfl) ?_
      refine q_get X.1 X.2.1 X.2.2.1 i_Ae X.2.2.2.1 X.2.2.2.2 Y m_o e59 rfl 1 (by decide) (X.2.2.1 _ lk_Ae_13) (fun _ h9 => h9) rfl d_Ae_mix_133 ?_
      refine lv_iload X.1 X.2.1 d_Ae_mix_136 (lv_at hl 1 rfl) ?_
      refine lv_iload_n X.1 X.2.1 d_Ae_mix_138 rfl (lv_at hl 4 rfl) ?_
      refine lv_ixor X.1 X.2.1 d_Ae_mix_139 ?_
      obtain ⟨j65, hj65, ej65⟩ := by_ixor (a := j21) (b := j18) (by omega) (by omega)
      refine t_eq ej65 ?_
      refine q_iald X.1 X.2.1 X.2.2.2.2 Y 1 m_tw e60 rfl (vp_in_nI (by omega) (by omega)) d_Ae_mix_140 ?_
      obtain ⟨j66, hj66, ej66⟩ := f_tw ((nI j65)).toNatClampNeg
      refine t_eq ej66 ?_
      refine lv_ixor X.1 X.2.1 d_Ae_mix_141 ?_
      obtain ⟨j67, hj67, ej67⟩ := by_ixor (a := j64) (b := j66) (by omega) (by omega)
      refine t_eq ej67 ?_
      refine q_iast X.1 X.2.1 X.2.2.2.2 Y 1 m_mo e58 rfl (vp_in_nI (by omega) (by omega)) d_Ae_mix_142 (fun H locs Y => ?_)
      have hg69 : by8 (upd g55 ((nI (i + 3))).toNatClampNeg (nI j67)) := by8_upd hg56 (show j67 < 256 by omega)
      generalize (upd g55 ((nI (i + 3))).toNatClampNeg (nI j67)) = g68 at Y hg69
      have e71 : (va_up f57 mo (.inl (E.2.1, 16, .inl g68))) mo = .inl (E.2.1, 16, .inl g68) := q_up
      have e72 : (va_up f57 mo (.inl (E.2.1, 16, .inl g68))) o = .inr (1, [.ref un, .ref tw, .ref ke, .int (nI rd), .ref sta, .ref mo, .ref kp]) := (q_ne (q_tag e59 e58 (show (1 : Nat) ≠ 1000 by decide))).trans e59
      have e73 : (va_up f57 mo (.inl (E.2.1, 16, .inl g68))) tw = .inl (E.2.1, 256, .inl g_tw) := (q_ne ap_tw_mo).trans e60
      have e74 : (va_up f57 mo (.inl (E.2.1, 16, .inl g68))) ke = .inl (E.2.1, 240, .inl g_ke) := (q_ne ap_ke_mo).trans e61
      have e75 : (va_up f57 mo (.inl (E.2.1, 16, .inl g68))) sta = .inl (E.2.1, 16, .inl g_sta) := (q_ne ap_sta_mo).trans e62
      have hF76 : ∀ x, x ≠ mo → (va_up f57 mo (.inl (E.2.1, 16, .inl g68))) x = f x := fun x h0 => (q_ne h0).trans (hF63 x h0)
      have Y : pH D cCl (pA L sz) s.heap L (va_up f57 mo (.inl (E.2.1, 16, .inl g68))) H locs := Y
      generalize (va_up f57 mo (.inl (E.2.1, 16, .inl g68))) = f70 at Y e71 e72 e73 e74 e75 hF76
      refine lv_iinc (v := (nI (i + 4))) (lv' := [(1, .int (nI (i + 4))), (6, .int (nI j24)), (5, .int (nI j21)), (4, .int (nI j20)), (3, .int (nI j19)), (2, .int (nI j18)), (0, .ref o)]) X.1 X.2.1 d_Ae_mix_143 hl (k := 5) rfl (nI_add _ 4) (by decide) rfl (fun ls hl => ?_)
      refine lv_goto (tgt := 2) X.1 X.2.1 d_Ae_mix_146 (by decide) ?_
      exact ih3  (i + 4)    g68 f70 _ _ _ (by omega) (by omega) (by omega) hg69 e72 e73 e74 e75 e71 hF76 Y (lv_sub hl [0, 6] rfl)
  exact lp1 (4) (0)    g_mo f _ _ _ (by omega) (by omega) (by omega) f_mo e_o e_tw e_ke e_sta e_mo (fun _ _ => rfl) Y (lv_sub hl [0, 1] rfl)
set_option maxHeartbeats 4000000 in
set_option maxRecDepth 100000 in
theorem c_Ae_setKey16 (l : Launch) (D : va_G) (E : cE) (T : cT) (L : List Nat) (f : pF) (sz : Nat) (o tw ke sta mo ky un kp rd : Nat) (g_tw g_ke g_sta g_mo g_ky : Nat → Int32) (m_o : o ∈ L) (m_tw : tw ∈ L) (m_ke : ke ∈ L) (m_sta : sta ∈ L) (m_mo : mo ∈ L) (m_ky : ky ∈ L) (e_o : f o = .inr (1, [.ref un, .ref tw, .ref ke, .int (nI rd), .ref sta, .ref mo, .ref kp])) (e_tw : f tw = .inl (E.2.1, 256, .inl g_tw)) (e_ke : f ke = .inl (E.2.1, 240, .inl g_ke)) (e_sta : f sta = .inl (E.2.1, 16, .inl g_sta)) (e_mo : f mo = .inl (E.2.1, 16, .inl g_mo)) (e_ky : f ky = .inl (E.1, 16, .inl g_ky)) (f_tw : by8 g_tw) (f_ke : by8 g_ke) (f_sta : by8 g_sta) (f_mo : by8 g_mo) (f_ky : fB g_ky) (ap_tw_ke : tw ≠ ke) (ap_tw_sta : tw ≠ sta) (ap_tw_mo : tw ≠ mo) (ap_tw_ky : tw ≠ ky) (ap_ke_sta : ke ≠ sta) (ap_ke_mo : ke ≠ mo) (ap_ke_ky : ke ≠ ky) (ap_sta_mo : sta ≠ mo) (ap_sta_ky : sta ≠ ky) (ap_mo_ky : mo ≠ ky) : Met l y_Ae_setKey (k_Ae_setKey :: lw_tg) (kRm 0 0 0 (0)) (va_Pc [.ref o, .ref ky, .int (nI 16)] (kPre D E T L f sz)) (va_Qv (fun (u : cU) => u.1 = L ∧ (∀ x, x ≠ o → x ≠ ke → u.2 x = f x) ∧ ∃ (rd2 : Nat) (k_ke : Nat → Int32), by8 k_ke ∧ (rd2 = 10) ∧ u.2 o = .inr (1, [.ref un, .ref tw, .ref ke, .int (nI rd2), .ref sta, .ref mo, .ref kp]) ∧ u.2 ke = .inl (E.2.1, 240, .inl k_ke)) (cPost D E (pA L sz)) (pA L sz)) 0 (0) (pA L sz) := by
  refine k_enter (own := R_Ae) (by decide) rfl (Nat.le_of_ble_eq_true rfl) (fun p e s m below meth c ls AV QQ H locs hQQ X Y hA hin hr hlk hml hl KS KR => ?_)
  have hl : lv_has ls 11 [(0, .ref o), (1, .ref ky), (2, .int (nI 16))] := hl
  refine lv_iload_n X.1 X.2.1 d_Ae_setKey_0 rfl (lv_at hl 2 rfl) ?_
  refine lv_bipush (v := (nI 32)) X.1 X.2.1 d_Ae_setKey_1 (by decide) ?_
  refine lv_icmp_ne (tgt := 18) X.1 X.2.1 d_Ae_setKey_3 (by decide) (fun c1 => ?_) (fun c1 => absurd c1 ?_)
  rotate_left
  · (rw [nI_eq (by omega) (by omega)] <;> omega)
  rw [nI_eq (by omega) (by omega)] at c1
  refine lv_bipush (v := (nI 16)) X.1 X.2.1 d_Ae_setKey_18 (by decide) ?_
  refine lv_istore_n (lv' := [(3, .int (nI 16)), (0, .ref o), (1, .ref ky), (2, .int (nI 16))]) X.1 X.2.1 d_Ae_setKey_20 rfl hl (by decide) rfl (fun ls hl => ?_)
  refine lv_aload_n X.1 X.2.1 d_Ae_setKey_21 rfl (lv_at hl 1 rfl) ?_
  refine lv_iload_n X.1 X.2.1 d_Ae_setKey_22 rfl (lv_at hl 0 rfl) ?_
  refine lv_iconst (v := (nI 4)) X.1 X.2.1 d_Ae_setKey_23 (by decide) ?_
  refine lv_idiv X.1 X.2.1 d_Ae_setKey_24 (nI_ne0 (by omega) (by omega)) ?_
  refine t_eq (y := nI 4) (by decide) ?_
  refine lv_bipush (v := (nI 6)) X.1 X.2.1 d_Ae_setKey_25 (by decide) ?_
  refine lv_iadd X.1 X.2.1 d_Ae_setKey_27 ?_
  refine t_eq (y := nI 10) (by decide) ?_
  refine q_put X.1 X.2.1 X.2.2.1 i_Ae t_Ae t_Ae_ok n_Ae X.2.2.2.1 X.2.2.2.2 Y m_o e_o rfl 3 (by decide) (X.2.2.1 _ lk_Ae_32) (fun _ h9 => h9) rfl (t_Ae_ok 3 (by decide)) rfl rfl (Nat.le_of_ble_eq_true rfl) d_Ae_setKey_28 (fun H locs Y => ?_)
  have e3 : (va_up f o (.inr (1, [.ref un, .ref tw, .ref ke, .int (nI 10), .ref sta, .ref mo, .ref kp]))) o = .inr (1, [.ref un, .ref tw, .ref ke, .int (nI 10), .ref sta, .ref mo, .ref kp]) := q_up
  have e4 : (va_up f o (.inr (1, [.ref un, .ref tw, .ref ke, .int (nI 10), .ref sta, .ref mo, .ref kp]))) tw = .inl (E.2.1, 256, .inl g_tw) := (q_ne (q_tag e_tw e_o (show (1000 : Nat) ≠ 1 by decide))).trans e_tw
  have e5 : (va_up f o (.inr (1, [.ref un, .ref tw, .ref ke, .int (nI 10), .ref sta, .ref mo, .ref kp]))) ke = .inl (E.2.1, 240, .inl g_ke) := (q_ne (q_tag e_ke e_o (show (1000 : Nat) ≠ 1 by decide))).trans e_ke
  have e6 : (va_up f o (.inr (1, [.ref un, .ref tw, .ref ke, .int (nI 10), .ref sta, .ref mo, .ref kp]))) sta = .inl (E.2.1, 16, .inl g_sta) := (q_ne (q_tag e_sta e_o (show (1000 : Nat) ≠ 1 by decide))).trans e_sta
  have e7 : (va_up f o (.inr (1, [.ref un, .ref tw, .ref ke, .int (nI 10), .ref sta, .ref mo, .ref kp]))) mo = .inl (E.2.1, 16, .inl g_mo) := (q_ne (q_tag e_mo e_o (show (1000 : Nat) ≠ 1 by decide))).trans e_mo
  have e8 : (va_up f o (.inr (1, [.ref un, .ref tw, .ref ke, .int (nI 10), .ref sta, .ref mo, .ref kp]))) ky = .inl (E.1, 16, .inl g_ky) := (q_ne (q_tag e_ky e_o (show (1000 : Nat) ≠ 1 by decide))).trans e_ky
  have hF9 : ∀ x, x ≠ o → x ≠ ke → (va_up f o (.inr (1, [.ref un, .ref tw, .ref ke, .int (nI 10), .ref sta, .ref mo, .ref kp]))) x = f x := fun x h0 h1 => (q_ne h0).trans rfl
  have Y : pH D cCl (pA L sz) s.heap L (va_up f o (.inr (1, [.ref un, .ref tw, .ref ke, .int (nI 10), .ref sta, .ref mo, .ref kp]))) H locs := Y
  generalize (va_up f o (.inr (1, [.ref un, .ref tw, .ref ke, .int (nI 10), .ref sta, .ref mo, .ref kp]))) = f2 at Y e3 e4 e5 e6 e7 e8 hF9
  refine lv_iconst (v := (nI 0)) X.1 X.2.1 d_Ae_setKey_31 (by decide) ?_
  refine lv_istore (lv' := [(4, .int (nI 0)), (3, .int (nI 16)), (0, .ref o), (1, .ref ky), (2, .int (nI 16))]) X.1 X.2.1 d_Ae_setKey_32 hl (by decide) rfl (fun ls hl => ?_)
  have lp10 : ∀ (n11 i : Nat) (g18 : Nat → Int32) (f13 : pF) (H : Heap) (locs : List Loc) (ls : Array Slot), 16 - i = n11 → (i ≤ 16) → by8 g18 → f13 o = .inr (1, [.ref un, .ref tw, .ref ke, .int (nI 10), .ref sta, .ref mo, .ref kp]) → f13 tw = .inl (E.2.1, 256, .inl g_tw) → f13 ke = .inl (E.2.1, 240, .inl g18) → f13 sta = .inl (E.2.1, 16, .inl g_sta) → f13 mo = .inl (E.2.1, 16, .inl g_mo) → f13 ky = .inl (E.1, 16, .inl g_ky) → (∀ x, x ≠ o → x ≠ ke → f13 x = f x) → pH D cCl (pA L sz) s.heap L f13 H locs → lv_has ls 11 [(4, .int (nI i)), (3, .int (nI 16)), (0, .ref o), (1, .ref ky), (2, .int (nI 16))] → W p l e (kRm 0 0 0 (0)) s m AV below meth c H locs 0 0 QQ (F0 m 34 ls []) := by
    intro n11
    induction n11 with
    | zero =>
      intro i g18 f13 H locs ls hm24 hc23 hg19 e15 e16 e17 e20 e21 e22 hF14 Y hl
      refine lv_iload X.1 X.2.1 d_Ae_setKey_34 (lv_at hl 0 rfl) ?_
      refine lv_iload_n X.1 X.2.1 d_Ae_setKey_36 rfl (lv_at hl 1 rfl) ?_
      refine lv_icmp_ge (tgt := 72) X.1 X.2.1 d_Ae_setKey_37 (by decide) (fun c25 => ?_) (fun c25 => absurd ?_ c25)
      rotate_left
      · (rw [nI_leI (by omega) (by omega)] <;> omega)
      rw [nI_leI (by omega) (by omega)] at c25
      refine lv_iconst (v := (nI 1)) X.1 X.2.1 d_Ae_setKey_72 (by decide) ?_
      refine lv_istore (lv' := [(4, .int (nI 1)), (3, .int (nI 16)), (0, .ref o), (1, .ref ky), (2, .int (nI 16))]) X.1 X.2.1 d_Ae_setKey_73 hl (by decide) rfl (fun ls hl => ?_)
      refine lv_iload_n X.1 X.2.1 d_Ae_setKey_75 rfl (lv_at hl 1 rfl) ?_
      refine lv_istore (lv' := [(5, .int (nI 16)), (4, .int (nI 1)), (3, .int (nI 16)), (0, .ref o), (1, .ref ky), (2, .int (nI 16))]) X.1 X.2.1 d_Ae_setKey_76 hl (by decide) rfl (fun ls hl => ?_)
      have lp26 : ∀ (n27 i tn : Nat) (g34 : Nat → Int32) (f29 : pF) (H : Heap) (locs : List Loc) (ls : Array Slot), (176 - i) / 4 = n27 → (16 ≤ i) → (i ≤ 176) → (i % 4 = 0) → (tn < 256) → by8 g34 → f29 o = .inr (1, [.ref un, .ref tw, .ref ke, .int (nI 10), .ref sta, .ref mo, .ref kp]) → f29 tw = .inl (E.2.1, 256, .inl g_tw) → f29 ke = .inl (E.2.1, 240, .inl g34) → f29 sta = .inl (E.2.1, 16, .inl g_sta) → f29 mo = .inl (E.2.1, 16, .inl g_mo) → f29 ky = .inl (E.1, 16, .inl g_ky) → (∀ x, x ≠ o → x ≠ ke → f29 x = f x) → pH D cCl (pA L sz) s.heap L f29 H locs → lv_has ls 11 [(5, .int (nI i)), (4, .int (nI tn)), (3, .int (nI 16)), (0, .ref o), (1, .ref ky), (2, .int (nI 16))] → W p l e (kRm 0 0 0 (0)) s m AV below meth c H locs 0 0 QQ (F0 m 78 ls []) := by
        intro n27
        induction n27 with
        | zero =>
          intro i tn g34 f29 H locs ls hm43 hc39 hc40 hc41 hc42 hg35 e31 e32 e33 e36 e37 e38 hF30 Y hl
          refine lv_iload X.1 X.2.1 d_Ae_setKey_78 (lv_at hl 0 rfl) ?_
          refine lv_bipush (v := (nI 16)) X.1 X.2.1 d_Ae_setKey_80 (by decide) ?_
          refine lv_aload_n X.1 X.2.1 d_Ae_setKey_82 rfl (lv_at hl 3 rfl) ?_
          refine q_get X.1 X.2.1 X.2.2.1 i_Ae X.2.2.2.1 X.2.2.2.2 Y m_o e31 rfl 3 (by decide) (X.2.2.1 _ lk_Ae_32) (fun _ h9 => h9) rfl d_Ae_setKey_83 ?_
          refine lv_iconst (v := (nI 1)) X.1 X.2.1 d_Ae_setKey_86 (by decide) ?_
          refine lv_iadd X.1 X.2.1 d_Ae_setKey_87 ?_
          refine t_eq (y := nI 11) (by decide) ?_
          refine lv_imul X.1 X.2.1 d_Ae_setKey_88 ?_
          refine t_eq (y := nI 176) (by decide) ?_
          refine lv_icmp_ge (tgt := 335) X.1 X.2.1 d_Ae_setKey_89 (by decide) (fun c44 => ?_) (fun c44 => absurd ?_ c44)
          rotate_left
          · (rw [nI_leI (by omega) (by omega)] <;> omega)
          rw [nI_leI (by omega) (by omega)] at c44
          exact c_retv hQQ X Y hr hlk ⟨rfl, hF30, (10), g34, hg35, (by omega), e31, e33⟩ d_Ae_setKey_335
        | succ n27 ih28 =>
          intro i tn g34 f29 H locs ls hm43 hc39 hc40 hc41 hc42 hg35 e31 e32 e33 e36 e37 e38 hF30 Y hl
          refine lv_iload X.1 X.2.1 d_Ae_setKey_78 (lv_at hl 0 rfl) ?_
          refine lv_bipush (v := (nI 16)) X.1 X.2.1 d_Ae_setKey_80 (by decide) ?_
          refine lv_aload_n X.1 X.2.1 d_Ae_setKey_82 rfl (lv_at hl 3 rfl) ?_
          refine q_get X.1 X.2.1 X.2.2.1 i_Ae X.2.2.2.1 X.2.2.2.2 Y m_o e31 rfl 3 (by decide) (X.2.2.1 _ lk_Ae_32) (fun _ h9 => h9) rfl d_Ae_setKey_83 ?_
          refine lv_iconst (v := (nI 1)) X.1 X.2.1 d_Ae_setKey_86 (by decide) ?_
          refine lv_iadd X.1 X.2.1 d_Ae_setKey_87 ?_
          refine t_eq (y := nI 11) (by decide) ?_
          refine lv_imul X.1 X.2.1 d_Ae_setKey_88 ?_
          refine t_eq (y := nI 176) (by decide) ?_
          refine lv_icmp_ge (tgt := 335) X.1 X.2.1 d_Ae_setKey_89 (by decide) (fun c45 => absurd c45 ?_) (fun c45 => ?_)
          · (rw [nI_leI (by omega) (by omega)] <;> omega)
          rw [nI_leI (by omega) (by omega)] at c45
          refine lv_aload_n X.1 X.2.1 d_Ae_setKey_92 rfl (lv_at hl 3 rfl) ?_
          refine q_get X.1 X.2.1 X.2.2.1 i_Ae X.2.2.2.1 X.2.2.2.2 Y m_o e31 rfl 2 (by decide) (X.2.2.1 _ lk_Ae_16) (fun _ h9 => h9) rfl d_Ae_setKey_93 ?_
          refine lv_iload X.1 X.2.1 d_Ae_setKey_96 (lv_at hl 0 rfl) ?_
          refine lv_iconst (v := (nI 4)) X.1 X.2.1 d_Ae_setKey_98 (by decide) ?_
          refine lv_isub X.1 X.2.1 d_Ae_setKey_99 ?_
          refine t_eq (y := nI (i - (4))) (pk_sub (by omega)) ?_
          refine q_iald X.1 X.2.1 X.2.2.2.2 Y 1 m_ke e33 rfl (vp_in_nI (by omega) (by omega)) d_Ae_setKey_100 ?_
          obtain ⟨j46, hj46, ej46⟩ := hg35 ((nI (i - (4)))).toNatClampNeg
          refine t_eq ej46 ?_
          refine lv_istore (lv' := [(6, .int (nI j46)), (5, .int (nI i)), (4, .int (nI tn)), (3, .int (nI 16)), (0, .ref o), (1, .ref ky), (2, .int (nI 16))]) X.1 X.2.1 d_Ae_setKey_101 hl (by decide) rfl (fun ls hl => ?_)
          refine lv_aload_n X.1 X.2.1 d_Ae_setKey_103 rfl (lv_at hl 4 rfl) ?_
          refine q_get X.1 X.2.1 X.2.2.1 i_Ae X.2.2.2.1 X.2.2.2.2 Y m_o e31 rfl 2 (by decide) (X.2.2.1 _ lk_Ae_16) (fun _ h9 => h9) rfl d_Ae_setKey_104 ?_
          refine lv_iload X.1 X.2.1 d_Ae_setKey_107 (lv_at hl 1 rfl) ?_
          refine lv_iconst (v := (nI 3)) X.1 X.2.1 d_Ae_setKey_109 (by decide) ?_
          refine lv_isub X.1 X.2.1 d_Ae_setKey_110 ?_
          refine t_eq (y := nI (i - (3))) (pk_sub (by omega)) ?_
          refine q_iald X.1 X.2.1 X.2.2.2.2 Y 1 m_ke e33 rfl (vp_in_nI (by omega) (by omega)) d_Ae_setKey_111 ?_
          obtain ⟨j47, hj47, ej47⟩ := hg35 ((nI (i - (3)))).toNatClampNeg
          refine t_eq ej47 ?_
          refine lv_istore (lv' := [(7, .int (nI j47)), (6, .int (nI j46)), (5, .int (nI i)), (4, .int (nI tn)), (3, .int (nI 16)), (0, .ref o), (1, .ref ky), (2, .int (nI 16))]) X.1 X.2.1 d_Ae_setKey_112 hl (by decide) rfl (fun ls hl => ?_)
          refine lv_aload_n X.1 X.2.1 d_Ae_setKey_114 rfl (lv_at hl 5 rfl) ?_
          refine q_get X.1 X.2.1 X.2.2.1 i_Ae X.2.2.2.1 X.2.2.2.2 Y m_o e31 rfl 2 (by decide) (X.2.2.1 _ lk_Ae_16) (fun _ h9 => h9) rfl d_Ae_setKey_115 ?_
          refine lv_iload X.1 X.2.1 d_Ae_setKey_118 (lv_at hl 2 rfl) ?_
          refine lv_iconst (v := (nI 2)) X.1 X.2.1 d_Ae_setKey_120 (by decide) ?_
          refine lv_isub X.1 X.2.1 d_Ae_setKey_121 ?_
          refine t_eq (y := nI (i - (2))) (pk_sub (by omega)) ?_
          refine q_iald X.1 X.2.1 X.2.2.2.2 Y 1 m_ke e33 rfl (vp_in_nI (by omega) (by omega)) d_Ae_setKey_122 ?_
          obtain ⟨j48, hj48, ej48⟩ := hg35 ((nI (i - (2)))).toNatClampNeg
          refine t_eq ej48 ?_
          refine lv_istore (lv' := [(8, .int (nI j48)), (7, .int (nI j47)), (6, .int (nI j46)), (5, .int (nI i)), (4, .int (nI tn)), (3, .int (nI 16)), (0, .ref o), (1, .ref ky), (2, .int (nI 16))]) X.1 X.2.1 d_Ae_setKey_123 hl (by decide) rfl (fun ls hl => ?_)
          refine lv_aload_n X.1 X.2.1 d_Ae_setKey_125 rfl (lv_at hl 6 rfl) ?_
          refine q_get X.1 X.2.1 X.2.2.1 i_Ae X.2.2.2.1 X.2.2.2.2 Y m_o e31 rfl 2 (by decide) (X.2.2.1 _ lk_Ae_16) (fun _ h9 => h9) rfl d_Ae_setKey_126 ?_
          refine lv_iload X.1 X.2.1 d_Ae_setKey_129 (lv_at hl 3 rfl) ?_
          refine lv_iconst (v := (nI 1)) X.1 X.2.1 d_Ae_setKey_131 (by decide) ?_
          refine lv_isub X.1 X.2.1 d_Ae_setKey_132 ?_
          refine t_eq (y := nI (i - (1))) (pk_sub (by omega)) ?_
          refine q_iald X.1 X.2.1 X.2.2.2.2 Y 1 m_ke e33 rfl (vp_in_nI (by omega) (by omega)) d_Ae_setKey_133 ?_
          obtain ⟨j49, hj49, ej49⟩ := hg35 ((nI (i - (1)))).toNatClampNeg
          refine t_eq ej49 ?_
          refine lv_istore (lv' := [(9, .int (nI j49)), (8, .int (nI j48)), (7, .int (nI j47)), (6, .int (nI j46)), (5, .int (nI i)), (4, .int (nI tn)), (3, .int (nI 16)), (0, .ref o), (1, .ref ky), (2, .int (nI 16))]) X.1 X.2.1 d_Ae_setKey_134 hl (by decide) rfl (fun ls hl => ?_)
          refine lv_iload X.1 X.2.1 d_Ae_setKey_136 (lv_at hl 4 rfl) ?_
          refine lv_iload_n X.1 X.2.1 d_Ae_setKey_138 rfl (lv_at hl 6 rfl) ?_
          refine lv_irem X.1 X.2.1 d_Ae_setKey_139 (nI_ne0 (by omega) (by omega)) ?_
          refine t_eq (y := nI ((i) % (16))) (pk_rem (by omega) (by omega) (by omega)) ?_
          refine lv_if_ne (tgt := 194) X.1 X.2.1 d_Ae_setKey_140 (by decide) (fun c50 => ?_) (fun c50 => ?_)
          · skip
            rw [← nI_0] at c50
            rw [nI_eq (by omega) (by omega)] at c50
            refine lv_iload_n X.1 X.2.1 d_Ae_setKey_194 rfl (lv_at hl 6 rfl) ?_
            refine lv_bipush (v := (nI 32)) X.1 X.2.1 d_Ae_setKey_195 (by decide) ?_
            refine lv_icmp_ne (tgt := 241) X.1 X.2.1 d_Ae_setKey_197 (by decide) (fun c51 => ?_) (fun c51 => absurd c51 ?_)
            rotate_left
            · (rw [nI_eq (by omega) (by omega)] <;> omega)
            rw [nI_eq (by omega) (by omega)] at c51
            refine lv_aload_n X.1 X.2.1 d_Ae_setKey_241 rfl (lv_at hl 7 rfl) ?_
            refine q_get X.1 X.2.1 X.2.2.1 i_Ae X.2.2.2.1 X.2.2.2.2 Y m_o e31 rfl 2 (by decide) (X.2.2.1 _ lk_Ae_16) (fun _ h9 => h9) rfl d_Ae_setKey_242 ?_
            refine lv_iload X.1 X.2.1 d_Ae_setKey_245 (lv_at hl 4 rfl) ?_
            refine lv_aload_n X.1 X.2.1 d_Ae_setKey_247 rfl (lv_at hl 7 rfl) ?_
            refine q_get X.1 X.2.1 X.2.2.1 i_Ae X.2.2.2.1 X.2.2.2.2 Y m_o e31 rfl 2 (by decide) (X.2.2.1 _ lk_Ae_16) (fun _ h9 => h9) rfl d_Ae_setKey_248 ?_
            refine lv_iload X.1 X.2.1 d_Ae_setKey_251 (lv_at hl 4 rfl) ?_
            refine lv_iload_n X.1 X.2.1 d_Ae_setKey_253 rfl (lv_at hl 6 rfl) ?_
            refine lv_isub X.1 X.2.1 d_Ae_setKey_254 ?_
            refine t_eq (y := nI (i - (16))) (pk_sub (by omega)) ?_
            refine q_iald X.1 X.2.1 X.2.2.2.2 Y 1 m_ke e33 rfl (vp_in_nI (by omega) (by omega)) d_Ae_setKey_255 ?_
            obtain ⟨j52, hj52, ej52⟩ := hg35 ((nI (i - (16)))).toNatClampNeg
            refine t_eq ej52 ?_
            refine lv_iload X.1 X.2.1 d_Ae_setKey_256 (lv_at hl 3 rfl) ?_
            refine lv_ixor X.1 X.2.1 d_Ae_setKey_258 ?_
            obtain ⟨j53, hj53, ej53⟩ := by_ixor (a := j52) (b := j46) (by omega) (by omega)
            refine t_eq ej53 ?_
            refine q_iast X.1 X.2.1 X.2.2.2.2 Y 1 m_ke e33 rfl (vp_in_nI (by omega) (by omega)) d_Ae_setKey_259 (fun H locs Y => ?_)
            have hg55 : by8 (upd g34 ((nI i)).toNatClampNeg (nI j53)) := by8_upd hg35 (show j53 < 256 by omega)
            generalize (upd g34 ((nI i)).toNatClampNeg (nI j53)) = g54 at Y hg55
            have e57 : (va_up f29 ke (.inl (E.2.1, 240, .inl g54))) ke = .inl (E.2.1, 240, .inl g54) := q_up
            have e58 : (va_up f29 ke (.inl (E.2.1, 240, .inl g54))) o = .inr (1, [.ref un, .ref tw, .ref ke, .int (nI 10), .ref sta, .ref mo, .ref kp]) := (q_ne (q_tag e31 e33 (show (1 : Nat) ≠ 1000 by decide))).trans e31
            have e59 : (va_up f29 ke (.inl (E.2.1, 240, .inl g54))) tw = .inl (E.2.1, 256, .inl g_tw) := (q_ne ap_tw_ke).trans e32
            have e60 : (va_up f29 ke (.inl (E.2.1, 240, .inl g54))) sta = .inl (E.2.1, 16, .inl g_sta) := (q_ne ap_ke_sta.symm).trans e36
            have e61 : (va_up f29 ke (.inl (E.2.1, 240, .inl g54))) mo = .inl (E.2.1, 16, .inl g_mo) := (q_ne ap_ke_mo.symm).trans e37
            have e62 : (va_up f29 ke (.inl (E.2.1, 240, .inl g54))) ky = .inl (E.1, 16, .inl g_ky) := (q_ne ap_ke_ky.symm).trans e38
            have hF63 : ∀ x, x ≠ o → x ≠ ke → (va_up f29 ke (.inl (E.2.1, 240, .inl g54))) x = f x := fun x h0 h1 => (q_ne h1).trans (hF30 x h0 h1)
            have Y : pH D cCl (pA L sz) s.heap L (va_up f29 ke (.inl (E.2.1, 240, .inl g54))) H locs := Y
            generalize (va_up f29 ke (.inl (E.2.1, 240, .inl g54))) = f56 at Y e57 e58 e59 e60 e61 e62 hF63
            refine lv_aload_n X.1 X.2.1 d_Ae_setKey_260 rfl (lv_at hl 7 rfl) ?_
            refine q_get X.1 X.2.1 X.2.2.1 i_Ae X.2.2.2.1 X.2.2.2.2 Y m_o e58 rfl 2 (by decide) (X.2.2.1 _ lk_Ae_16) (fun _ h9 => h9) rfl d_Ae_setKey_261 ?_
            refine lv_iload X.1 X.2.1 d_Ae_setKey_264 (lv_at hl 4 rfl) ?_
            refine lv_iconst (v := (nI 1)) X.1 X.2.1 d_Ae_setKey_266 (by decide) ?_
            refine lv_iadd X.1 X.2.1 d_Ae_setKey_267 ?_
            refine t_eq (y := nI (i + 1)) (nI_add _ _) ?_
            refine lv_aload_n X.1 X.2.1 d_Ae_setKey_268 rfl (lv_at hl 7 rfl) ?_
            refine q_get X.1 X.2.1 X.2.2.1 i_Ae X.2.2.2.1 X.2.2.2.2 Y m_o e58 rfl 2 (by decide) (X.2.2.1 _ lk_Ae_16) (fun _ h9 => h9) rfl d_Ae_setKey_269 ?_
            refine lv_iload X.1 X.2.1 d_Ae_setKey_272 (lv_at hl 4 rfl) ?_
            refine lv_iconst (v := (nI 1)) X.1 X.2.1 d_Ae_setKey_274 (by decide) ?_
            refine lv_iadd X.1 X.2.1 d_Ae_setKey_275 ?_
            refine t_eq (y := nI (i + 1)) (nI_add _ _) ?_
            refine lv_iload_n X.1 X.2.1 d_Ae_setKey_276 rfl (lv_at hl 6 rfl) ?_
            refine lv_isub X.1 X.2.1 d_Ae_setKey_277 ?_
            refine t_eq (y := nI (i + 1 - (16))) (pk_sub (by omega)) ?_
            refine q_iald X.1 X.2.1 X.2.2.2.2 Y 1 m_ke e57 rfl (vp_in_nI (by omega) (by omega)) d_Ae_setKey_278 ?_
            obtain ⟨j64, hj64, ej64⟩ := hg55 ((nI (i + 1 - (16)))).toNatClampNeg
            refine t_eq ej64 ?_
            refine lv_iload X.1 X.2.1 d_Ae_setKey_279 (lv_at hl 2 rfl) ?_
            refine lv_ixor X.1 X.2.1 d_Ae_setKey_281 ?_
            obtain ⟨j65, hj65, ej65⟩ := by_ixor (a := j64) (b := j47) (by omega) (by omega)
            refine t_eq ej65 ?_
            refine q_iast X.1 X.2.1 X.2.2.2.2 Y 1 m_ke e57 rfl (vp_in_nI (by omega) (by omega)) d_Ae_setKey_282 (fun H locs Y => ?_)
            have hg67 : by8 (upd g54 ((nI (i + 1))).toNatClampNeg (nI j65)) := by8_upd hg55 (show j65 < 256 by omega)
            generalize (upd g54 ((nI (i + 1))).toNatClampNeg (nI j65)) = g66 at Y hg67
            have e69 : (va_up f56 ke (.inl (E.2.1, 240, .inl g66))) ke = .inl (E.2.1, 240, .inl g66) := q_up
            have e70 : (va_up f56 ke (.inl (E.2.1, 240, .inl g66))) o = .inr (1, [.ref un, .ref tw, .ref ke, .int (nI 10), .ref sta, .ref mo, .ref kp]) := (q_ne (q_tag e58 e57 (show (1 : Nat) ≠ 1000 by decide))).trans e58
            have e71 : (va_up f56 ke (.inl (E.2.1, 240, .inl g66))) tw = .inl (E.2.1, 256, .inl g_tw) := (q_ne ap_tw_ke).trans e59
            have e72 : (va_up f56 ke (.inl (E.2.1, 240, .inl g66))) sta = .inl (E.2.1, 16, .inl g_sta) := (q_ne ap_ke_sta.symm).trans e60
            have e73 : (va_up f56 ke (.inl (E.2.1, 240, .inl g66))) mo = .inl (E.2.1, 16, .inl g_mo) := (q_ne ap_ke_mo.symm).trans e61
            have e74 : (va_up f56 ke (.inl (E.2.1, 240, .inl g66))) ky = .inl (E.1, 16, .inl g_ky) := (q_ne ap_ke_ky.symm).trans e62
            have hF75 : ∀ x, x ≠ o → x ≠ ke → (va_up f56 ke (.inl (E.2.1, 240, .inl g66))) x = f x := fun x h0 h1 => (q_ne h1).trans (hF63 x h0 h1)
            have Y : pH D cCl (pA L sz) s.heap L (va_up f56 ke (.inl (E.2.1, 240, .inl g66))) H locs := Y
            generalize (va_up f56 ke (.inl (E.2.1, 240, .inl g66))) = f68 at Y e69 e70 e71 e72 e73 e74 hF75
            refine lv_aload_n X.1 X.2.1 d_Ae_setKey_283 rfl (lv_at hl 7 rfl) ?_
            refine q_get X.1 X.2.1 X.2.2.1 i_Ae X.2.2.2.1 X.2.2.2.2 Y m_o e70 rfl 2 (by decide) (X.2.2.1 _ lk_Ae_16) (fun _ h9 => h9) rfl d_Ae_setKey_284 ?_
            refine lv_iload X.1 X.2.1 d_Ae_setKey_287 (lv_at hl 4 rfl) ?_
            refine lv_iconst (v := (nI 2)) X.1 X.2.1 d_Ae_setKey_289 (by decide) ?_
            refine lv_iadd X.1 X.2.1 d_Ae_setKey_290 ?_
            refine t_eq (y := nI (i + 2)) (nI_add _ _) ?_
            refine lv_aload_n X.1 X.2.1 d_Ae_setKey_291 rfl (lv_at hl 7 rfl) ?_
            refine q_get X.1 X.2.1 X.2.2.1 i_Ae X.2.2.2.1 X.2.2.2.2 Y m_o e70 rfl 2 (by decide) (X.2.2.1 _ lk_Ae_16) (fun _ h9 => h9) rfl d_Ae_setKey_292 ?_
            refine lv_iload X.1 X.2.1 d_Ae_setKey_295 (lv_at hl 4 rfl) ?_
            refine lv_iconst (v := (nI 2)) X.1 X.2.1 d_Ae_setKey_297 (by decide) ?_
            refine lv_iadd X.1 X.2.1 d_Ae_setKey_298 ?_
            refine t_eq (y := nI (i + 2)) (nI_add _ _) ?_
            refine lv_iload_n X.1 X.2.1 d_Ae_setKey_299 rfl (lv_at hl 6 rfl) ?_
            refine lv_isub X.1 X.2.1 d_Ae_setKey_300 ?_
            refine t_eq (y := nI (i + 2 - (16))) (pk_sub (by omega)) ?_
            refine q_iald X.1 X.2.1 X.2.2.2.2 Y 1 m_ke e69 rfl (vp_in_nI (by omega) (by omega)) d_Ae_setKey_301 ?_
            obtain ⟨j76, hj76, ej76⟩ := hg67 ((nI (i + 2 - (16)))).toNatClampNeg
            refine t_eq ej76 ?_
            refine lv_iload X.1 X.2.1 d_Ae_setKey_302 (lv_at hl 1 rfl) ?_
            refine lv_ixor X.1 X.2.1 d_Ae_setKey_304 ?_
            obtain ⟨j77, hj77, ej77⟩ := by_ixor (a := j76) (b := j48) (by omega) (by omega)
            refine t_eq ej77 ?_
            refine q_iast X.1 X.2.1 X.2.2.2.2 Y 1 m_ke e69 rfl (vp_in_nI (by omega) (by omega)) d_Ae_setKey_305 (fun H locs Y => ?_)
            have hg79 : by8 (upd g66 ((nI (i + 2))).toNatClampNeg (nI j77)) := by8_upd hg67 (show j77 < 256 by omega)
            generalize (upd g66 ((nI (i + 2))).toNatClampNeg (nI j77)) = g78 at Y hg79
            have e81 : (va_up f68 ke (.inl (E.2.1, 240, .inl g78))) ke = .inl (E.2.1, 240, .inl g78) := q_up
            have e82 : (va_up f68 ke (.inl (E.2.1, 240, .inl g78))) o = .inr (1, [.ref un, .ref tw, .ref ke, .int (nI 10), .ref sta, .ref mo, .ref kp]) := (q_ne (q_tag e70 e69 (show (1 : Nat) ≠ 1000 by decide))).trans e70
            have e83 : (va_up f68 ke (.inl (E.2.1, 240, .inl g78))) tw = .inl (E.2.1, 256, .inl g_tw) := (q_ne ap_tw_ke).trans e71
            have e84 : (va_up f68 ke (.inl (E.2.1, 240, .inl g78))) sta = .inl (E.2.1, 16, .inl g_sta) := (q_ne ap_ke_sta.symm).trans e72
            have e85 : (va_up f68 ke (.inl (E.2.1, 240, .inl g78))) mo = .inl (E.2.1, 16, .inl g_mo) := (q_ne ap_ke_mo.symm).trans e73
            have e86 : (va_up f68 ke (.inl (E.2.1, 240, .inl g78))) ky = .inl (E.1, 16, .inl g_ky) := (q_ne ap_ke_ky.symm).trans e74
            have hF87 : ∀ x, x ≠ o → x ≠ ke → (va_up f68 ke (.inl (E.2.1, 240, .inl g78))) x = f x := fun x h0 h1 => (q_ne h1).trans (hF75 x h0 h1)
            have Y : pH D cCl (pA L sz) s.heap L (va_up f68 ke (.inl (E.2.1, 240, .inl g78))) H locs := Y
            generalize (va_up f68 ke (.inl (E.2.1, 240, .inl g78))) = f80 at Y e81 e82 e83 e84 e85 e86 hF87
            refine lv_aload_n X.1 X.2.1 d_Ae_setKey_306 rfl (lv_at hl 7 rfl) ?_
            refine q_get X.1 X.2.1 X.2.2.1 i_Ae X.2.2.2.1 X.2.2.2.2 Y m_o e82 rfl 2 (by decide) (X.2.2.1 _ lk_Ae_16) (fun _ h9 => h9) rfl d_Ae_setKey_307 ?_
            refine lv_iload X.1 X.2.1 d_Ae_setKey_310 (lv_at hl 4 rfl) ?_
            refine lv_iconst (v := (nI 3)) X.1 X.2.1 d_Ae_setKey_312 (by decide) ?_
            refine lv_iadd X.1 X.2.1 d_Ae_setKey_313 ?_
            refine t_eq (y := nI (i + 3)) (nI_add _ _) ?_
            refine lv_aload_n X.1 X.2.1 d_Ae_setKey_314 rfl (lv_at hl 7 rfl) ?_
            refine q_get X.1 X.2.1 X.2.2.1 i_Ae X.2.2.2.1 X.2.2.2.2 Y m_o e82 rfl 2 (by decide) (X.2.2.1 _ lk_Ae_16) (fun _ h9 => h9) rfl d_Ae_setKey_315 ?_
            refine lv_iload X.1 X.2.1 d_Ae_setKey_318 (lv_at hl 4 rfl) ?_
            refine lv_iconst (v := (nI 3)) X.1 X.2.1 d_Ae_setKey_320 (by decide) ?_
            refine lv_iadd X.1 X.2.1 d_Ae_setKey_321 ?_
            refine t_eq (y := nI (i + 3)) (nI_add _ _) ?_
            refine lv_iload_n X.1 X.2.1 d_Ae_setKey_322 rfl (lv_at hl 6 rfl) ?_
            refine lv_isub X.1 X.2.1 d_Ae_setKey_323 ?_
            refine t_eq (y := nI (i + 3 - (16))) (pk_sub (by omega)) ?_
            refine q_iald X.1 X.2.1 X.2.2.2.2 Y 1 m_ke e81 rfl (vp_in_nI (by omega) (by omega)) d_Ae_setKey_324 ?_
            obtain ⟨j88, hj88, ej88⟩ := hg79 ((nI (i + 3 - (16)))).toNatClampNeg
            refine t_eq ej88 ?_
            refine lv_iload X.1 X.2.1 d_Ae_setKey_325 (lv_at hl 0 rfl) ?_
            refine lv_ixor X.1 X.2.1 d_Ae_setKey_327 ?_
            obtain ⟨j89, hj89, ej89⟩ := by_ixor (a := j88) (b := j49) (by omega) (by omega)
            refine t_eq ej89 ?_
            refine q_iast X.1 X.2.1 X.2.2.2.2 Y 1 m_ke e81 rfl (vp_in_nI (by omega) (by omega)) d_Ae_setKey_328 (fun H locs Y => ?_)
            have hg91 : by8 (upd g78 ((nI (i + 3))).toNatClampNeg (nI j89)) := by8_upd hg79 (show j89 < 256 by omega)
            generalize (upd g78 ((nI (i + 3))).toNatClampNeg (nI j89)) = g90 at Y hg91
            have e93 : (va_up f80 ke (.inl (E.2.1, 240, .inl g90))) ke = .inl (E.2.1, 240, .inl g90) := q_up
            have e94 : (va_up f80 ke (.inl (E.2.1, 240, .inl g90))) o = .inr (1, [.ref un, .ref tw, .ref ke, .int (nI 10), .ref sta, .ref mo, .ref kp]) := (q_ne (q_tag e82 e81 (show (1 : Nat) ≠ 1000 by decide))).trans e82
            have e95 : (va_up f80 ke (.inl (E.2.1, 240, .inl g90))) tw = .inl (E.2.1, 256, .inl g_tw) := (q_ne ap_tw_ke).trans e83
            have e96 : (va_up f80 ke (.inl (E.2.1, 240, .inl g90))) sta = .inl (E.2.1, 16, .inl g_sta) := (q_ne ap_ke_sta.symm).trans e84
            have e97 : (va_up f80 ke (.inl (E.2.1, 240, .inl g90))) mo = .inl (E.2.1, 16, .inl g_mo) := (q_ne ap_ke_mo.symm).trans e85
            have e98 : (va_up f80 ke (.inl (E.2.1, 240, .inl g90))) ky = .inl (E.1, 16, .inl g_ky) := (q_ne ap_ke_ky.symm).trans e86
            have hF99 : ∀ x, x ≠ o → x ≠ ke → (va_up f80 ke (.inl (E.2.1, 240, .inl g90))) x = f x := fun x h0 h1 => (q_ne h1).trans (hF87 x h0 h1)
            have Y : pH D cCl (pA L sz) s.heap L (va_up f80 ke (.inl (E.2.1, 240, .inl g90))) H locs := Y
            generalize (va_up f80 ke (.inl (E.2.1, 240, .inl g90))) = f92 at Y e93 e94 e95 e96 e97 e98 hF99
            refine lv_iinc (v := (nI (i + 4))) (lv' := [(5, .int (nI (i + 4))), (9, .int (nI j49)), (8, .int (nI j48)), (7, .int (nI j47)), (6, .int (nI j46)), (4, .int (nI tn)), (3, .int (nI 16)), (0, .ref o), (1, .ref ky), (2, .int (nI 16))]) X.1 X.2.1 d_Ae_setKey_329 hl (k := 4) rfl (nI_add _ 4) (by decide) rfl (fun ls hl => ?_)
            refine lv_goto (tgt := 78) X.1 X.2.1 d_Ae_setKey_332 (by decide) ?_
            exact ih28  (i + 4) (tn)    g90 f92 _ _ _ (by omega) (by omega) (by omega) (by omega) (by omega) hg91 e94 e95 e93 e96 e97 e98 hF99 Y (lv_sub hl [0, 5, 6, 7, 8, 9] rfl)
          · skip
            rw [← nI_0] at c50
            rw [nI_eq (by omega) (by omega)] at c50
            refine lv_iload X.1 X.2.1 d_Ae_setKey_143 (lv_at hl 3 rfl) ?_
            refine lv_istore (lv' := [(10, .int (nI j46)), (9, .int (nI j49)), (8, .int (nI j48)), (7, .int (nI j47)), (6, .int (nI j46)), (5, .int (nI i)), (4, .int (nI tn)), (3, .int (nI 16)), (0, .ref o), (1, .ref ky), (2, .int (nI 16))]) X.1 X.2.1 d_Ae_setKey_145 hl (by decide) rfl (fun ls hl => ?_)
            refine k_gets 1 (by decide) X Y KS sk_Ae_29 d_Ae_setKey_147 ?_
            refine lv_iload X.1 X.2.1 d_Ae_setKey_150 (lv_at hl 3 rfl) ?_
            refine k_iald 1 (by decide) rfl X Y KS (vp_in_nI (show j47 < sL 1 by first | decide | exact (by omega : j47 < 256)) (by decide)) d_Ae_setKey_152 ?_
            obtain ⟨j100, hj100, ej100⟩ := sBOX_lt ((nI j47)).toNatClampNeg
            refine t_eq ej100 ?_
            refine lv_iload X.1 X.2.1 d_Ae_setKey_153 (lv_at hl 6 rfl) ?_
            refine lv_ixor X.1 X.2.1 d_Ae_setKey_155 ?_
            obtain ⟨j101, hj101, ej101⟩ := by_ixor (a := j100) (b := tn) (by omega) (by omega)
            refine t_eq ej101 ?_
            refine lv_istore (lv' := [(6, .int (nI j101)), (10, .int (nI j46)), (9, .int (nI j49)), (8, .int (nI j48)), (7, .int (nI j47)), (5, .int (nI i)), (4, .int (nI tn)), (3, .int (nI 16)), (0, .ref o), (1, .ref ky), (2, .int (nI 16))]) X.1 X.2.1 d_Ae_setKey_156 hl (by decide) rfl (fun ls hl => ?_)
            refine k_gets 1 (by decide) X Y KS sk_Ae_29 d_Ae_setKey_158 ?_
            refine lv_iload X.1 X.2.1 d_Ae_setKey_161 (lv_at hl 3 rfl) ?_
            refine k_iald 1 (by decide) rfl X Y KS (vp_in_nI (show j48 < sL 1 by first | decide | exact (by omega : j48 < 256)) (by decide)) d_Ae_setKey_163 ?_
            obtain ⟨j102, hj102, ej102⟩ := sBOX_lt ((nI j48)).toNatClampNeg
            refine t_eq ej102 ?_
            refine lv_istore (lv' := [(7, .int (nI j102)), (6, .int (nI j101)), (10, .int (nI j46)), (9, .int (nI j49)), (8, .int (nI j48)), (5, .int (nI i)), (4, .int (nI tn)), (3, .int (nI 16)), (0, .ref o), (1, .ref ky), (2, .int (nI 16))]) X.1 X.2.1 d_Ae_setKey_164 hl (by decide) rfl (fun ls hl => ?_)
            refine k_gets 1 (by decide) X Y KS sk_Ae_29 d_Ae_setKey_166 ?_
            refine lv_iload X.1 X.2.1 d_Ae_setKey_169 (lv_at hl 3 rfl) ?_
            refine k_iald 1 (by decide) rfl X Y KS (vp_in_nI (show j49 < sL 1 by first | decide | exact (by omega : j49 < 256)) (by decide)) d_Ae_setKey_171 ?_
            obtain ⟨j103, hj103, ej103⟩ := sBOX_lt ((nI j49)).toNatClampNeg
            refine t_eq ej103 ?_
            refine lv_istore (lv' := [(8, .int (nI j103)), (7, .int (nI j102)), (6, .int (nI j101)), (10, .int (nI j46)), (9, .int (nI j49)), (5, .int (nI i)), (4, .int (nI tn)), (3, .int (nI 16)), (0, .ref o), (1, .ref ky), (2, .int (nI 16))]) X.1 X.2.1 d_Ae_setKey_172 hl (by decide) rfl (fun ls hl => ?_)
            refine k_gets 1 (by decide) X Y KS sk_Ae_29 d_Ae_setKey_174 ?_
            refine lv_iload X.1 X.2.1 d_Ae_setKey_177 (lv_at hl 3 rfl) ?_
            refine k_iald 1 (by decide) rfl X Y KS (vp_in_nI (show j46 < sL 1 by first | decide | exact (by omega : j46 < 256)) (by decide)) d_Ae_setKey_179 ?_
            obtain ⟨j104, hj104, ej104⟩ := sBOX_lt ((nI j46)).toNatClampNeg
            refine t_eq ej104 ?_
            refine lv_istore (lv' := [(9, .int (nI j104)), (8, .int (nI j103)), (7, .int (nI j102)), (6, .int (nI j101)), (10, .int (nI j46)), (5, .int (nI i)), (4, .int (nI tn)), (3, .int (nI 16)), (0, .ref o), (1, .ref ky), (2, .int (nI 16))]) X.1 X.2.1 d_Ae_setKey_180 hl (by decide) rfl (fun ls hl => ?_)
            refine lv_aload_n X.1 X.2.1 d_Ae_setKey_182 rfl (lv_at hl 8 rfl) ?_
            refine q_get X.1 X.2.1 X.2.2.1 i_Ae X.2.2.2.1 X.2.2.2.2 Y m_o e31 rfl 1 (by decide) (X.2.2.1 _ lk_Ae_13) (fun _ h9 => h9) rfl d_Ae_setKey_183 ?_
            refine lv_iload X.1 X.2.1 d_Ae_setKey_186 (lv_at hl 6 rfl) ?_
            refine q_iald X.1 X.2.1 X.2.2.2.2 Y 1 m_tw e32 rfl (vp_in_nI (by omega) (by omega)) d_Ae_setKey_188 ?_
            obtain ⟨j105, hj105, ej105⟩ := f_tw ((nI tn)).toNatClampNeg
            refine t_eq ej105 ?_
            refine lv_istore (lv' := [(4, .int (nI j105)), (9, .int (nI j104)), (8, .int (nI j103)), (7, .int (nI j102)), (6, .int (nI j101)), (10, .int (nI j46)), (5, .int (nI i)), (3, .int (nI 16)), (0, .ref o), (1, .ref ky), (2, .int (nI 16))]) X.1 X.2.1 d_Ae_setKey_189 hl (by decide) rfl (fun ls hl => ?_)
            refine lv_goto (tgt := 241) X.1 X.2.1 d_Ae_setKey_191 (by decide) ?_
            refine lv_aload_n X.1 X.2.1 d_Ae_setKey_241 rfl (lv_at hl 8 rfl) ?_
            refine q_get X.1 X.2.1 X.2.2.1 i_Ae X.2.2.2.1 X.2.2.2.2 Y m_o e31 rfl 2 (by decide) (X.2.2.1 _ lk_Ae_16) (fun _ h9 => h9) rfl d_Ae_setKey_242 ?_
            refine lv_iload X.1 X.2.1 d_Ae_setKey_245 (lv_at hl 6 rfl) ?_
            refine lv_aload_n X.1 X.2.1 d_Ae_setKey_247 rfl (lv_at hl 8 rfl) ?_
            refine q_get X.1 X.2.1 X.2.2.1 i_Ae X.2.2.2.1 X.2.2.2.2 Y m_o e31 rfl 2 (by decide) (X.2.2.1 _ lk_Ae_16) (fun _ h9 => h9) rfl d_Ae_setKey_248 ?_
            refine lv_iload X.1 X.2.1 d_Ae_setKey_251 (lv_at hl 6 rfl) ?_
            refine lv_iload_n X.1 X.2.1 d_Ae_setKey_253 rfl (lv_at hl 7 rfl) ?_
            refine lv_isub X.1 X.2.1 d_Ae_setKey_254 ?_
            refine t_eq (y := nI (i - (16))) (pk_sub (by omega)) ?_
            refine q_iald X.1 X.2.1 X.2.2.2.2 Y 1 m_ke e33 rfl (vp_in_nI (by omega) (by omega)) d_Ae_setKey_255 ?_
            obtain ⟨j106, hj106, ej106⟩ := hg35 ((nI (i - (16)))).toNatClampNeg
            refine t_eq ej106 ?_
            refine lv_iload X.1 X.2.1 d_Ae_setKey_256 (lv_at hl 4 rfl) ?_
            refine lv_ixor X.1 X.2.1 d_Ae_setKey_258 ?_
            obtain ⟨j107, hj107, ej107⟩ := by_ixor (a := j106) (b := j101) (by omega) (by omega)
            refine t_eq ej107 ?_
            refine q_iast X.1 X.2.1 X.2.2.2.2 Y 1 m_ke e33 rfl (vp_in_nI (by omega) (by omega)) d_Ae_setKey_259 (fun H locs Y => ?_)
            have hg109 : by8 (upd g34 ((nI i)).toNatClampNeg (nI j107)) := by8_upd hg35 (show j107 < 256 by omega)
            generalize (upd g34 ((nI i)).toNatClampNeg (nI j107)) = g108 at Y hg109
            have e111 : (va_up f29 ke (.inl (E.2.1, 240, .inl g108))) ke = .inl (E.2.1, 240, .inl g108) := q_up
            have e112 : (va_up f29 ke (.inl (E.2.1, 240, .inl g108))) o = .inr (1, [.ref un, .ref tw, .ref ke, .int (nI 10), .ref sta, .ref mo, .ref kp]) := (q_ne (q_tag e31 e33 (show (1 : Nat) ≠ 1000 by decide))).trans e31
            have e113 : (va_up f29 ke (.inl (E.2.1, 240, .inl g108))) tw = .inl (E.2.1, 256, .inl g_tw) := (q_ne ap_tw_ke).trans e32
            have e114 : (va_up f29 ke (.inl (E.2.1, 240, .inl g108))) sta = .inl (E.2.1, 16, .inl g_sta) := (q_ne ap_ke_sta.symm).trans e36
            have e115 : (va_up f29 ke (.inl (E.2.1, 240, .inl g108))) mo = .inl (E.2.1, 16, .inl g_mo) := (q_ne ap_ke_mo.symm).trans e37
            have e116 : (va_up f29 ke (.inl (E.2.1, 240, .inl g108))) ky = .inl (E.1, 16, .inl g_ky) := (q_ne ap_ke_ky.symm).trans e38
            have hF117 : ∀ x, x ≠ o → x ≠ ke → (va_up f29 ke (.inl (E.2.1, 240, .inl g108))) x = f x := fun x h0 h1 => (q_ne h1).trans (hF30 x h0 h1)
            have Y : pH D cCl (pA L sz) s.heap L (va_up f29 ke (.inl (E.2.1, 240, .inl g108))) H locs := Y
            generalize (va_up f29 ke (.inl (E.2.1, 240, .inl g108))) = f110 at Y e111 e112 e113 e114 e115 e116 hF117
            refine lv_aload_n X.1 X.2.1 d_Ae_setKey_260 rfl (lv_at hl 8 rfl) ?_
            refine q_get X.1 X.2.1 X.2.2.1 i_Ae X.2.2.2.1 X.2.2.2.2 Y m_o e112 rfl 2 (by decide) (X.2.2.1 _ lk_Ae_16) (fun _ h9 => h9) rfl d_Ae_setKey_261 ?_
            refine lv_iload X.1 X.2.1 d_Ae_setKey_264 (lv_at hl 6 rfl) ?_
            refine lv_iconst (v := (nI 1)) X.1 X.2.1 d_Ae_setKey_266 (by decide) ?_
            refine lv_iadd X.1 X.2.1 d_Ae_setKey_267 ?_
            refine t_eq (y := nI (i + 1)) (nI_add _ _) ?_
            refine lv_aload_n X.1 X.2.1 d_Ae_setKey_268 rfl (lv_at hl 8 rfl) ?_
            refine q_get X.1 X.2.1 X.2.2.1 i_Ae X.2.2.2.1 X.2.2.2.2 Y m_o e112 rfl 2 (by decide) (X.2.2.1 _ lk_Ae_16) (fun _ h9 => h9) rfl d_Ae_setKey_269 ?_
            refine lv_iload X.1 X.2.1 d_Ae_setKey_272 (lv_at hl 6 rfl) ?_
            refine lv_iconst (v := (nI 1)) X.1 X.2.1 d_Ae_setKey_274 (by decide) ?_
            refine lv_iadd X.1 X.2.1 d_Ae_setKey_275 ?_
            refine t_eq (y := nI (i + 1)) (nI_add _ _) ?_
            refine lv_iload_n X.1 X.2.1 d_Ae_setKey_276 rfl (lv_at hl 7 rfl) ?_
            refine lv_isub X.1 X.2.1 d_Ae_setKey_277 ?_
            refine t_eq (y := nI (i + 1 - (16))) (pk_sub (by omega)) ?_
            refine q_iald X.1 X.2.1 X.2.2.2.2 Y 1 m_ke e111 rfl (vp_in_nI (by omega) (by omega)) d_Ae_setKey_278 ?_
            obtain ⟨j118, hj118, ej118⟩ := hg109 ((nI (i + 1 - (16)))).toNatClampNeg
            refine t_eq ej118 ?_
            refine lv_iload X.1 X.2.1 d_Ae_setKey_279 (lv_at hl 3 rfl) ?_
            refine lv_ixor X.1 X.2.1 d_Ae_setKey_281 ?_
            obtain ⟨j119, hj119, ej119⟩ := by_ixor (a := j118) (b := j102) (by omega) (by omega)
            refine t_eq ej119 ?_
            refine q_iast X.1 X.2.1 X.2.2.2.2 Y 1 m_ke e111 rfl (vp_in_nI (by omega) (by omega)) d_Ae_setKey_282 (fun H locs Y => ?_)
            have hg121 : by8 (upd g108 ((nI (i + 1))).toNatClampNeg (nI j119)) := by8_upd hg109 (show j119 < 256 by omega)
            generalize (upd g108 ((nI (i + 1))).toNatClampNeg (nI j119)) = g120 at Y hg121
            have e123 : (va_up f110 ke (.inl (E.2.1, 240, .inl g120))) ke = .inl (E.2.1, 240, .inl g120) := q_up
            have e124 : (va_up f110 ke (.inl (E.2.1, 240, .inl g120))) o = .inr (1, [.ref un, .ref tw, .ref ke, .int (nI 10), .ref sta, .ref mo, .ref kp]) := (q_ne (q_tag e112 e111 (show (1 : Nat) ≠ 1000 by decide))).trans e112
            have e125 : (va_up f110 ke (.inl (E.2.1, 240, .inl g120))) tw = .inl (E.2.1, 256, .inl g_tw) := (q_ne ap_tw_ke).trans e113
            have e126 : (va_up f110 ke (.inl (E.2.1, 240, .inl g120))) sta = .inl (E.2.1, 16, .inl g_sta) := (q_ne ap_ke_sta.symm).trans e114
            have e127 : (va_up f110 ke (.inl (E.2.1, 240, .inl g120))) mo = .inl (E.2.1, 16, .inl g_mo) := (q_ne ap_ke_mo.symm).trans e115
            have e128 : (va_up f110 ke (.inl (E.2.1, 240, .inl g120))) ky = .inl (E.1, 16, .inl g_ky) := (q_ne ap_ke_ky.symm).trans e116
            have hF129 : ∀ x, x ≠ o → x ≠ ke → (va_up f110 ke (.inl (E.2.1, 240, .inl g120))) x = f x := fun x h0 h1 => (q_ne h1).trans (hF117 x h0 h1)
            have Y : pH D cCl (pA L sz) s.heap L (va_up f110 ke (.inl (E.2.1, 240, .inl g120))) H locs := Y
            generalize (va_up f110 ke (.inl (E.2.1, 240, .inl g120))) = f122 at Y e123 e124 e125 e126 e127 e128 hF129
            refine lv_aload_n X.1 X.2.1 d_Ae_setKey_283 rfl (lv_at hl 8 rfl) ?_
            refine q_get X.1 X.2.1 X.2.2.1 i_Ae X.2.2.2.1 X.2.2.2.2 Y m_o e124 rfl 2 (by decide) (X.2.2.1 _ lk_Ae_16) (fun _ h9 => h9) rfl d_Ae_setKey_284 ?_
            refine lv_iload X.1 X.2.1 d_Ae_setKey_287 (lv_at hl 6 rfl) ?_
            refine lv_iconst (v := (nI 2)) X.1 X.2.1 d_Ae_setKey_289 (by decide) ?_
            refine lv_iadd X.1 X.2.1 d_Ae_setKey_290 ?_
            refine t_eq (y := nI (i + 2)) (nI_add _ _) ?_
            refine lv_aload_n X.1 X.2.1 d_Ae_setKey_291 rfl (lv_at hl 8 rfl) ?_
            refine q_get X.1 X.2.1 X.2.2.1 i_Ae X.2.2.2.1 X.2.2.2.2 Y m_o e124 rfl 2 (by decide) (X.2.2.1 _ lk_Ae_16) (fun _ h9 => h9) rfl d_Ae_setKey_292 ?_
            refine lv_iload X.1 X.2.1 d_Ae_setKey_295 (lv_at hl 6 rfl) ?_
            refine lv_iconst (v := (nI 2)) X.1 X.2.1 d_Ae_setKey_297 (by decide) ?_
            refine lv_iadd X.1 X.2.1 d_Ae_setKey_298 ?_
            refine t_eq (y := nI (i + 2)) (nI_add _ _) ?_
            refine lv_iload_n X.1 X.2.1 d_Ae_setKey_299 rfl (lv_at hl 7 rfl) ?_
            refine lv_isub X.1 X.2.1 d_Ae_setKey_300 ?_
            refine t_eq (y := nI (i + 2 - (16))) (pk_sub (by omega)) ?_
            refine q_iald X.1 X.2.1 X.2.2.2.2 Y 1 m_ke e123 rfl (vp_in_nI (by omega) (by omega)) d_Ae_setKey_301 ?_
            obtain ⟨j130, hj130, ej130⟩ := hg121 ((nI (i + 2 - (16)))).toNatClampNeg
            refine t_eq ej130 ?_
            refine lv_iload X.1 X.2.1 d_Ae_setKey_302 (lv_at hl 2 rfl) ?_
            refine lv_ixor X.1 X.2.1 d_Ae_setKey_304 ?_
            obtain ⟨j131, hj131, ej131⟩ := by_ixor (a := j130) (b := j103) (by omega) (by omega)
            refine t_eq ej131 ?_
            refine q_iast X.1 X.2.1 X.2.2.2.2 Y 1 m_ke e123 rfl (vp_in_nI (by omega) (by omega)) d_Ae_setKey_305 (fun H locs Y => ?_)
            have hg133 : by8 (upd g120 ((nI (i + 2))).toNatClampNeg (nI j131)) := by8_upd hg121 (show j131 < 256 by omega)
            generalize (upd g120 ((nI (i + 2))).toNatClampNeg (nI j131)) = g132 at Y hg133
            have e135 : (va_up f122 ke (.inl (E.2.1, 240, .inl g132))) ke = .inl (E.2.1, 240, .inl g132) := q_up
            have e136 : (va_up f122 ke (.inl (E.2.1, 240, .inl g132))) o = .inr (1, [.ref un, .ref tw, .ref ke, .int (nI 10), .ref sta, .ref mo, .ref kp]) := (q_ne (q_tag e124 e123 (show (1 : Nat) ≠ 1000 by decide))).trans e124
            have e137 : (va_up f122 ke (.inl (E.2.1, 240, .inl g132))) tw = .inl (E.2.1, 256, .inl g_tw) := (q_ne ap_tw_ke).trans e125
            have e138 : (va_up f122 ke (.inl (E.2.1, 240, .inl g132))) sta = .inl (E.2.1, 16, .inl g_sta) := (q_ne ap_ke_sta.symm).trans e126
            have e139 : (va_up f122 ke (.inl (E.2.1, 240, .inl g132))) mo = .inl (E.2.1, 16, .inl g_mo) := (q_ne ap_ke_mo.symm).trans e127
            have e140 : (va_up f122 ke (.inl (E.2.1, 240, .inl g132))) ky = .inl (E.1, 16, .inl g_ky) := (q_ne ap_ke_ky.symm).trans e128
            have hF141 : ∀ x, x ≠ o → x ≠ ke → (va_up f122 ke (.inl (E.2.1, 240, .inl g132))) x = f x := fun x h0 h1 => (q_ne h1).trans (hF129 x h0 h1)
            have Y : pH D cCl (pA L sz) s.heap L (va_up f122 ke (.inl (E.2.1, 240, .inl g132))) H locs := Y
            generalize (va_up f122 ke (.inl (E.2.1, 240, .inl g132))) = f134 at Y e135 e136 e137 e138 e139 e140 hF141
            refine lv_aload_n X.1 X.2.1 d_Ae_setKey_306 rfl (lv_at hl 8 rfl) ?_
            refine q_get X.1 X.2.1 X.2.2.1 i_Ae X.2.2.2.1 X.2.2.2.2 Y m_o e136 rfl 2 (by decide) (X.2.2.1 _ lk_Ae_16) (fun _ h9 => h9) rfl d_Ae_setKey_307 ?_
            refine lv_iload X.1 X.2.1 d_Ae_setKey_310 (lv_at hl 6 rfl) ?_
            refine lv_iconst (v := (nI 3)) X.1 X.2.1 d_Ae_setKey_312 (by decide) ?_
            refine lv_iadd X.1 X.2.1 d_Ae_setKey_313 ?_
            refine t_eq (y := nI (i + 3)) (nI_add _ _) ?_
            refine lv_aload_n X.1 X.2.1 d_Ae_setKey_314 rfl (lv_at hl 8 rfl) ?_
            refine q_get X.1 X.2.1 X.2.2.1 i_Ae X.2.2.2.1 X.2.2.2.2 Y m_o e136 rfl 2 (by decide) (X.2.2.1 _ lk_Ae_16) (fun _ h9 => h9) rfl d_Ae_setKey_315 ?_
            refine lv_iload X.1 X.2.1 d_Ae_setKey_318 (lv_at hl 6 rfl) ?_
            refine lv_iconst (v := (nI 3)) X.1 X.2.1 d_Ae_setKey_320 (by decide) ?_
            refine lv_iadd X.1 X.2.1 d_Ae_setKey_321 ?_
            refine t_eq (y := nI (i + 3)) (nI_add _ _) ?_
            refine lv_iload_n X.1 X.2.1 d_Ae_setKey_322 rfl (lv_at hl 7 rfl) ?_
            refine lv_isub X.1 X.2.1 d_Ae_setKey_323 ?_
            refine t_eq (y := nI (i + 3 - (16))) (pk_sub (by omega)) ?_
            refine q_iald X.1 X.2.1 X.2.2.2.2 Y 1 m_ke e135 rfl (vp_in_nI (by omega) (by omega)) d_Ae_setKey_324 ?_
            obtain ⟨j142, hj142, ej142⟩ := hg133 ((nI (i + 3 - (16)))).toNatClampNeg
            refine t_eq ej142 ?_
            refine lv_iload X.1 X.2.1 d_Ae_setKey_325 (lv_at hl 1 rfl) ?_
            refine lv_ixor X.1 X.2.1 d_Ae_setKey_327 ?_
            obtain ⟨j143, hj143, ej143⟩ := by_ixor (a := j142) (b := j104) (by omega) (by omega)
            refine t_eq ej143 ?_
            refine q_iast X.1 X.2.1 X.2.2.2.2 Y 1 m_ke e135 rfl (vp_in_nI (by omega) (by omega)) d_Ae_setKey_328 (fun H locs Y => ?_)
            have hg145 : by8 (upd g132 ((nI (i + 3))).toNatClampNeg (nI j143)) := by8_upd hg133 (show j143 < 256 by omega)
            generalize (upd g132 ((nI (i + 3))).toNatClampNeg (nI j143)) = g144 at Y hg145
            have e147 : (va_up f134 ke (.inl (E.2.1, 240, .inl g144))) ke = .inl (E.2.1, 240, .inl g144) := q_up
            have e148 : (va_up f134 ke (.inl (E.2.1, 240, .inl g144))) o = .inr (1, [.ref un, .ref tw, .ref ke, .int (nI 10), .ref sta, .ref mo, .ref kp]) := (q_ne (q_tag e136 e135 (show (1 : Nat) ≠ 1000 by decide))).trans e136
            have e149 : (va_up f134 ke (.inl (E.2.1, 240, .inl g144))) tw = .inl (E.2.1, 256, .inl g_tw) := (q_ne ap_tw_ke).trans e137
            have e150 : (va_up f134 ke (.inl (E.2.1, 240, .inl g144))) sta = .inl (E.2.1, 16, .inl g_sta) := (q_ne ap_ke_sta.symm).trans e138
            have e151 : (va_up f134 ke (.inl (E.2.1, 240, .inl g144))) mo = .inl (E.2.1, 16, .inl g_mo) := (q_ne ap_ke_mo.symm).trans e139
            have e152 : (va_up f134 ke (.inl (E.2.1, 240, .inl g144))) ky = .inl (E.1, 16, .inl g_ky) := (q_ne ap_ke_ky.symm).trans e140
            have hF153 : ∀ x, x ≠ o → x ≠ ke → (va_up f134 ke (.inl (E.2.1, 240, .inl g144))) x = f x := fun x h0 h1 => (q_ne h1).trans (hF141 x h0 h1)
            have Y : pH D cCl (pA L sz) s.heap L (va_up f134 ke (.inl (E.2.1, 240, .inl g144))) H locs := Y
            generalize (va_up f134 ke (.inl (E.2.1, 240, .inl g144))) = f146 at Y e147 e148 e149 e150 e151 e152 hF153
            refine lv_iinc (v := (nI (i + 4))) (lv' := [(5, .int (nI (i + 4))), (4, .int (nI j105)), (9, .int (nI j104)), (8, .int (nI j103)), (7, .int (nI j102)), (6, .int (nI j101)), (10, .int (nI j46)), (3, .int (nI 16)), (0, .ref o), (1, .ref ky), (2, .int (nI 16))]) X.1 X.2.1 d_Ae_setKey_329 hl (k := 6) rfl (nI_add _ 4) (by decide) rfl (fun ls hl => ?_)
            refine lv_goto (tgt := 78) X.1 X.2.1 d_Ae_setKey_332 (by decide) ?_
            exact ih28  (i + 4) (j105)    g144 f146 _ _ _ (by omega) (by omega) (by omega) (by omega) (by omega) hg145 e148 e149 e147 e150 e151 e152 hF153 Y (lv_sub hl [0, 1, 7, 8, 9, 10] rfl)
      exact lp26 (40) (16) (1)    g18 f13 _ _ _ (by omega) (by omega) (by omega) (by omega) (by omega) hg19 e15 e16 e17 e20 e21 e22 hF14 Y (lv_sub hl [0, 1, 2, 3, 4, 5] rfl)
    | succ n11 ih12 =>
      intro i g18 f13 H locs ls hm24 hc23 hg19 e15 e16 e17 e20 e21 e22 hF14 Y hl
      refine lv_iload X.1 X.2.1 d_Ae_setKey_34 (lv_at hl 0 rfl) ?_
      refine lv_iload_n X.1 X.2.1 d_Ae_setKey_36 rfl (lv_at hl 1 rfl) ?_
      refine lv_icmp_ge (tgt := 72) X.1 X.2.1 d_Ae_setKey_37 (by decide) (fun c154 => absurd c154 ?_) (fun c154 => ?_)
      · (rw [nI_leI (by omega) (by omega)] <;> omega)
      rw [nI_leI (by omega) (by omega)] at c154
      refine lv_aload_n X.1 X.2.1 d_Ae_setKey_40 rfl (lv_at hl 2 rfl) ?_
      refine q_get X.1 X.2.1 X.2.2.1 i_Ae X.2.2.2.1 X.2.2.2.2 Y m_o e15 rfl 2 (by decide) (X.2.2.1 _ lk_Ae_16) (fun _ h9 => h9) rfl d_Ae_setKey_41 ?_
      refine lv_iload X.1 X.2.1 d_Ae_setKey_44 (lv_at hl 0 rfl) ?_
      refine lv_iload X.1 X.2.1 d_Ae_setKey_46 (lv_at hl 0 rfl) ?_
      refine lv_aload_n X.1 X.2.1 d_Ae_setKey_48 rfl (lv_at hl 3 rfl) ?_
      refine q_alen X.1 X.2.1 X.2.2.2.2 Y 0 m_ky e22 rfl (v := nI (16)) rfl d_Ae_setKey_49 ?_
      refine lv_icmp_ge (tgt := 64) X.1 X.2.1 d_Ae_setKey_50 (by decide) (fun c155 => ?_) (fun c155 => ?_)
      · skip
        rw [nI_leI (by omega) (by omega)] at c155
        refine lv_iconst (v := (nI 0)) X.1 X.2.1 d_Ae_setKey_64 (by decide) ?_
        refine q_iast X.1 X.2.1 X.2.2.2.2 Y 1 m_ke e17 rfl (vp_in_nI (by omega) (by omega)) d_Ae_setKey_65 (fun H locs Y => ?_)
        have hg157 : by8 (upd g18 ((nI i)).toNatClampNeg (nI 0)) := by8_upd hg19 (show 0 < 256 by omega)
        generalize (upd g18 ((nI i)).toNatClampNeg (nI 0)) = g156 at Y hg157
        have e159 : (va_up f13 ke (.inl (E.2.1, 240, .inl g156))) ke = .inl (E.2.1, 240, .inl g156) := q_up
        have e160 : (va_up f13 ke (.inl (E.2.1, 240, .inl g156))) o = .inr (1, [.ref un, .ref tw, .ref ke, .int (nI 10), .ref sta, .ref mo, .ref kp]) := (q_ne (q_tag e15 e17 (show (1 : Nat) ≠ 1000 by decide))).trans e15
        have e161 : (va_up f13 ke (.inl (E.2.1, 240, .inl g156))) tw = .inl (E.2.1, 256, .inl g_tw) := (q_ne ap_tw_ke).trans e16
        have e162 : (va_up f13 ke (.inl (E.2.1, 240, .inl g156))) sta = .inl (E.2.1, 16, .inl g_sta) := (q_ne ap_ke_sta.symm).trans e20
        have e163 : (va_up f13 ke (.inl (E.2.1, 240, .inl g156))) mo = .inl (E.2.1, 16, .inl g_mo) := (q_ne ap_ke_mo.symm).trans e21
        have e164 : (va_up f13 ke (.inl (E.2.1, 240, .inl g156))) ky = .inl (E.1, 16, .inl g_ky) := (q_ne ap_ke_ky.symm).trans e22
        have hF165 : ∀ x, x ≠ o → x ≠ ke → (va_up f13 ke (.inl (E.2.1, 240, .inl g156))) x = f x := fun x h0 h1 => (q_ne h1).trans (hF14 x h0 h1)
        have Y : pH D cCl (pA L sz) s.heap L (va_up f13 ke (.inl (E.2.1, 240, .inl g156))) H locs := Y
        generalize (va_up f13 ke (.inl (E.2.1, 240, .inl g156))) = f158 at Y e159 e160 e161 e162 e163 e164 hF165
        refine lv_iinc (v := (nI (i + 1))) (lv' := [(4, .int (nI (i + 1))), (3, .int (nI 16)), (0, .ref o), (1, .ref ky), (2, .int (nI 16))]) X.1 X.2.1 d_Ae_setKey_66 hl (k := 0) rfl (nI_add _ 1) (by decide) rfl (fun ls hl => ?_)
        refine lv_goto (tgt := 34) X.1 X.2.1 d_Ae_setKey_69 (by decide) ?_
        exact ih12  (i + 1)    g156 f158 _ _ _ (by omega) (by omega) hg157 e160 e161 e159 e162 e163 e164 hF165 Y (lv_sub hl [0, 1, 2, 3, 4] rfl)
      · skip
        rw [nI_leI (by omega) (by omega)] at c155
        refine lv_aload_n X.1 X.2.1 d_Ae_setKey_53 rfl (lv_at hl 3 rfl) ?_
        refine lv_iload X.1 X.2.1 d_Ae_setKey_54 (lv_at hl 0 rfl) ?_
        refine q_bald X.1 X.2.1 X.2.2.2.2 Y 0 m_ky e22 rfl (vp_in_nI (by omega) (by omega)) d_Ae_setKey_56 ?_
        refine t_any (fun v166 => ?_)
        refine lv_sipush (v := (nI 255)) X.1 X.2.1 d_Ae_setKey_57 (by decide) ?_
        refine lv_iand X.1 X.2.1 d_Ae_setKey_60 ?_
        obtain ⟨j167, hj167, ej167⟩ := pk_andE v166 (m := nI 255) 8 (by decide)
        refine t_eq ej167 ?_
        have hj167 : j167 < 256 := hj167
        refine lv_goto (tgt := 65) X.1 X.2.1 d_Ae_setKey_61 (by decide) ?_
        refine q_iast X.1 X.2.1 X.2.2.2.2 Y 1 m_ke e17 rfl (vp_in_nI (by omega) (by omega)) d_Ae_setKey_65 (fun H locs Y => ?_)
        have hg169 : by8 (upd g18 ((nI i)).toNatClampNeg (nI j167)) := by8_upd hg19 (show j167 < 256 by omega)
        generalize (upd g18 ((nI i)).toNatClampNeg (nI j167)) = g168 at Y hg169
        have e171 : (va_up f13 ke (.inl (E.2.1, 240, .inl g168))) ke = .inl (E.2.1, 240, .inl g168) := q_up
        have e172 : (va_up f13 ke (.inl (E.2.1, 240, .inl g168))) o = .inr (1, [.ref un, .ref tw, .ref ke, .int (nI 10), .ref sta, .ref mo, .ref kp]) := (q_ne (q_tag e15 e17 (show (1 : Nat) ≠ 1000 by decide))).trans e15
        have e173 : (va_up f13 ke (.inl (E.2.1, 240, .inl g168))) tw = .inl (E.2.1, 256, .inl g_tw) := (q_ne ap_tw_ke).trans e16
        have e174 : (va_up f13 ke (.inl (E.2.1, 240, .inl g168))) sta = .inl (E.2.1, 16, .inl g_sta) := (q_ne ap_ke_sta.symm).trans e20
        have e175 : (va_up f13 ke (.inl (E.2.1, 240, .inl g168))) mo = .inl (E.2.1, 16, .inl g_mo) := (q_ne ap_ke_mo.symm).trans e21
        have e176 : (va_up f13 ke (.inl (E.2.1, 240, .inl g168))) ky = .inl (E.1, 16, .inl g_ky) := (q_ne ap_ke_ky.symm).trans e22
        have hF177 : ∀ x, x ≠ o → x ≠ ke → (va_up f13 ke (.inl (E.2.1, 240, .inl g168))) x = f x := fun x h0 h1 => (q_ne h1).trans (hF14 x h0 h1)
        have Y : pH D cCl (pA L sz) s.heap L (va_up f13 ke (.inl (E.2.1, 240, .inl g168))) H locs := Y
        generalize (va_up f13 ke (.inl (E.2.1, 240, .inl g168))) = f170 at Y e171 e172 e173 e174 e175 e176 hF177
        refine lv_iinc (v := (nI (i + 1))) (lv' := [(4, .int (nI (i + 1))), (3, .int (nI 16)), (0, .ref o), (1, .ref ky), (2, .int (nI 16))]) X.1 X.2.1 d_Ae_setKey_66 hl (k := 0) rfl (nI_add _ 1) (by decide) rfl (fun ls hl => ?_)
        refine lv_goto (tgt := 34) X.1 X.2.1 d_Ae_setKey_69 (by decide) ?_
        exact ih12  (i + 1)    g168 f170 _ _ _ (by omega) (by omega) hg169 e172 e173 e171 e174 e175 e176 hF177 Y (lv_sub hl [0, 1, 2, 3, 4] rfl)
  exact lp10 (16) (0)    g_ke f2 _ _ _ (by omega) (by omega) f_ke e3 e4 e5 e6 e7 e8 hF9 Y (lv_sub hl [0, 1, 2, 3, 4] rfl)
set_option maxHeartbeats 4000000 in
set_option maxRecDepth 100000 in
theorem c_Ae_setKey32 (l : Launch) (D : va_G) (E : cE) (T : cT) (L : List Nat) (f : pF) (sz : Nat) (o tw ke sta mo ky un kp rd : Nat) (g_tw g_ke g_sta g_mo g_ky : Nat → Int32) (m_o : o ∈ L) (m_tw : tw ∈ L) (m_ke : ke ∈ L) (m_sta : sta ∈ L) (m_mo : mo ∈ L) (m_ky : ky ∈ L) (e_o : f o = .inr (1, [.ref un, .ref tw, .ref ke, .int (nI rd), .ref sta, .ref mo, .ref kp])) (e_tw : f tw = .inl (E.2.1, 256, .inl g_tw)) (e_ke : f ke = .inl (E.2.1, 240, .inl g_ke)) (e_sta : f sta = .inl (E.2.1, 16, .inl g_sta)) (e_mo : f mo = .inl (E.2.1, 16, .inl g_mo)) (e_ky : f ky = .inl (E.1, 32, .inl g_ky)) (f_tw : by8 g_tw) (f_ke : by8 g_ke) (f_sta : by8 g_sta) (f_mo : by8 g_mo) (f_ky : fB g_ky) (ap_tw_ke : tw ≠ ke) (ap_tw_sta : tw ≠ sta) (ap_tw_mo : tw ≠ mo) (ap_tw_ky : tw ≠ ky) (ap_ke_sta : ke ≠ sta) (ap_ke_mo : ke ≠ mo) (ap_ke_ky : ke ≠ ky) (ap_sta_mo : sta ≠ mo) (ap_sta_ky : sta ≠ ky) (ap_mo_ky : mo ≠ ky) : Met l y_Ae_setKey (k_Ae_setKey :: lw_tg) (kRm 0 0 0 (0)) (va_Pc [.ref o, .ref ky, .int (nI 32)] (kPre D E T L f sz)) (va_Qv (fun (u : cU) => u.1 = L ∧ (∀ x, x ≠ o → x ≠ ke → u.2 x = f x) ∧ ∃ (rd2 : Nat) (k_ke : Nat → Int32), by8 k_ke ∧ (rd2 = 14) ∧ u.2 o = .inr (1, [.ref un, .ref tw, .ref ke, .int (nI rd2), .ref sta, .ref mo, .ref kp]) ∧ u.2 ke = .inl (E.2.1, 240, .inl k_ke)) (cPost D E (pA L sz)) (pA L sz)) 0 (0) (pA L sz) := by
  refine k_enter (own := R_Ae) (by decide) rfl (Nat.le_of_ble_eq_true rfl) (fun p e s m below meth c ls AV QQ H locs hQQ X Y hA hin hr hlk hml hl KS KR => ?_)
  have hl : lv_has ls 11 [(0, .ref o), (1, .ref ky), (2, .int (nI 32))] := hl
  refine lv_iload_n X.1 X.2.1 d_Ae_setKey_0 rfl (lv_at hl 2 rfl) ?_
  refine lv_bipush (v := (nI 32)) X.1 X.2.1 d_Ae_setKey_1 (by decide) ?_
  refine lv_icmp_ne (tgt := 18) X.1 X.2.1 d_Ae_setKey_3 (by decide) (fun c1 => absurd c1 ?_) (fun c1 => ?_)
  · (rw [nI_eq (by omega) (by omega)] <;> omega)
  rw [nI_eq (by omega) (by omega)] at c1
  refine lv_aload_n X.1 X.2.1 d_Ae_setKey_6 rfl (lv_at hl 1 rfl) ?_
  refine q_alen X.1 X.2.1 X.2.2.2.2 Y 0 m_ky e_ky rfl (v := nI (32)) rfl d_Ae_setKey_7 ?_
  refine lv_bipush (v := (nI 32)) X.1 X.2.1 d_Ae_setKey_8 (by decide) ?_
  refine lv_icmp_lt (tgt := 18) X.1 X.2.1 d_Ae_setKey_10 (by decide) (fun c2 => absurd c2 ?_) (fun c2 => ?_)
  · (rw [nI_ltI (by omega) (by omega)] <;> omega)
  rw [nI_ltI (by omega) (by omega)] at c2
  refine lv_bipush (v := (nI 32)) X.1 X.2.1 d_Ae_setKey_13 (by decide) ?_
  refine lv_goto (tgt := 20) X.1 X.2.1 d_Ae_setKey_15 (by decide) ?_
  refine lv_istore_n (lv' := [(3, .int (nI 32)), (0, .ref o), (1, .ref ky), (2, .int (nI 32))]) X.1 X.2.1 d_Ae_setKey_20 rfl hl (by decide) rfl (fun ls hl => ?_)
  refine lv_aload_n X.1 X.2.1 d_Ae_setKey_21 rfl (lv_at hl 1 rfl) ?_
  refine lv_iload_n X.1 X.2.1 d_Ae_setKey_22 rfl (lv_at hl 0 rfl) ?_
  refine lv_iconst (v := (nI 4)) X.1 X.2.1 d_Ae_setKey_23 (by decide) ?_
  refine lv_idiv X.1 X.2.1 d_Ae_setKey_24 (nI_ne0 (by omega) (by omega)) ?_
  refine t_eq (y := nI 8) (by decide) ?_
  refine lv_bipush (v := (nI 6)) X.1 X.2.1 d_Ae_setKey_25 (by decide) ?_
  refine lv_iadd X.1 X.2.1 d_Ae_setKey_27 ?_
  refine t_eq (y := nI 14) (by decide) ?_
  refine q_put X.1 X.2.1 X.2.2.1 i_Ae t_Ae t_Ae_ok n_Ae X.2.2.2.1 X.2.2.2.2 Y m_o e_o rfl 3 (by decide) (X.2.2.1 _ lk_Ae_32) (fun _ h9 => h9) rfl (t_Ae_ok 3 (by decide)) rfl rfl (Nat.le_of_ble_eq_true rfl) d_Ae_setKey_28 (fun H locs Y => ?_)
  have e4 : (va_up f o (.inr (1, [.ref un, .ref tw, .ref ke, .int (nI 14), .ref sta, .ref mo, .ref kp]))) o = .inr (1, [.ref un, .ref tw, .ref ke, .int (nI 14), .ref sta, .ref mo, .ref kp]) := q_up
  have e5 : (va_up f o (.inr (1, [.ref un, .ref tw, .ref ke, .int (nI 14), .ref sta, .ref mo, .ref kp]))) tw = .inl (E.2.1, 256, .inl g_tw) := (q_ne (q_tag e_tw e_o (show (1000 : Nat) ≠ 1 by decide))).trans e_tw
  have e6 : (va_up f o (.inr (1, [.ref un, .ref tw, .ref ke, .int (nI 14), .ref sta, .ref mo, .ref kp]))) ke = .inl (E.2.1, 240, .inl g_ke) := (q_ne (q_tag e_ke e_o (show (1000 : Nat) ≠ 1 by decide))).trans e_ke
  have e7 : (va_up f o (.inr (1, [.ref un, .ref tw, .ref ke, .int (nI 14), .ref sta, .ref mo, .ref kp]))) sta = .inl (E.2.1, 16, .inl g_sta) := (q_ne (q_tag e_sta e_o (show (1000 : Nat) ≠ 1 by decide))).trans e_sta
  have e8 : (va_up f o (.inr (1, [.ref un, .ref tw, .ref ke, .int (nI 14), .ref sta, .ref mo, .ref kp]))) mo = .inl (E.2.1, 16, .inl g_mo) := (q_ne (q_tag e_mo e_o (show (1000 : Nat) ≠ 1 by decide))).trans e_mo
  have e9 : (va_up f o (.inr (1, [.ref un, .ref tw, .ref ke, .int (nI 14), .ref sta, .ref mo, .ref kp]))) ky = .inl (E.1, 32, .inl g_ky) := (q_ne (q_tag e_ky e_o (show (1000 : Nat) ≠ 1 by decide))).trans e_ky
  have hF10 : ∀ x, x ≠ o → x ≠ ke → (va_up f o (.inr (1, [.ref un, .ref tw, .ref ke, .int (nI 14), .ref sta, .ref mo, .ref kp]))) x = f x := fun x h0 h1 => (q_ne h0).trans rfl
  have Y : pH D cCl (pA L sz) s.heap L (va_up f o (.inr (1, [.ref un, .ref tw, .ref ke, .int (nI 14), .ref sta, .ref mo, .ref kp]))) H locs := Y
  generalize (va_up f o (.inr (1, [.ref un, .ref tw, .ref ke, .int (nI 14), .ref sta, .ref mo, .ref kp]))) = f3 at Y e4 e5 e6 e7 e8 e9 hF10
  refine lv_iconst (v := (nI 0)) X.1 X.2.1 d_Ae_setKey_31 (by decide) ?_
  refine lv_istore (lv' := [(4, .int (nI 0)), (3, .int (nI 32)), (0, .ref o), (1, .ref ky), (2, .int (nI 32))]) X.1 X.2.1 d_Ae_setKey_32 hl (by decide) rfl (fun ls hl => ?_)
  have lp11 : ∀ (n12 i : Nat) (g19 : Nat → Int32) (f14 : pF) (H : Heap) (locs : List Loc) (ls : Array Slot), 32 - i = n12 → (i ≤ 32) → by8 g19 → f14 o = .inr (1, [.ref un, .ref tw, .ref ke, .int (nI 14), .ref sta, .ref mo, .ref kp]) → f14 tw = .inl (E.2.1, 256, .inl g_tw) → f14 ke = .inl (E.2.1, 240, .inl g19) → f14 sta = .inl (E.2.1, 16, .inl g_sta) → f14 mo = .inl (E.2.1, 16, .inl g_mo) → f14 ky = .inl (E.1, 32, .inl g_ky) → (∀ x, x ≠ o → x ≠ ke → f14 x = f x) → pH D cCl (pA L sz) s.heap L f14 H locs → lv_has ls 11 [(4, .int (nI i)), (3, .int (nI 32)), (0, .ref o), (1, .ref ky), (2, .int (nI 32))] → W p l e (kRm 0 0 0 (0)) s m AV below meth c H locs 0 0 QQ (F0 m 34 ls []) := by
    intro n12
    induction n12 with
    | zero =>
      intro i g19 f14 H locs ls hm25 hc24 hg20 e16 e17 e18 e21 e22 e23 hF15 Y hl
      refine lv_iload X.1 X.2.1 d_Ae_setKey_34 (lv_at hl 0 rfl) ?_
      refine lv_iload_n X.1 X.2.1 d_Ae_setKey_36 rfl (lv_at hl 1 rfl) ?_
      refine lv_icmp_ge (tgt := 72) X.1 X.2.1 d_Ae_setKey_37 (by decide) (fun c26 => ?_) (fun c26 => absurd ?_ c26)
      rotate_left
      · (rw [nI_leI (by omega) (by omega)] <;> omega)
      rw [nI_leI (by omega) (by omega)] at c26
      refine lv_iconst (v := (nI 1)) X.1 X.2.1 d_Ae_setKey_72 (by decide) ?_
      refine lv_istore (lv' := [(4, .int (nI 1)), (3, .int (nI 32)), (0, .ref o), (1, .ref ky), (2, .int (nI 32))]) X.1 X.2.1 d_Ae_setKey_73 hl (by decide) rfl (fun ls hl => ?_)
      refine lv_iload_n X.1 X.2.1 d_Ae_setKey_75 rfl (lv_at hl 1 rfl) ?_
      refine lv_istore (lv' := [(5, .int (nI 32)), (4, .int (nI 1)), (3, .int (nI 32)), (0, .ref o), (1, .ref ky), (2, .int (nI 32))]) X.1 X.2.1 d_Ae_setKey_76 hl (by decide) rfl (fun ls hl => ?_)
      have lp27 : ∀ (n28 i tn : Nat) (g35 : Nat → Int32) (f30 : pF) (H : Heap) (locs : List Loc) (ls : Array Slot), (240 - i) / 4 = n28 → (32 ≤ i) → (i ≤ 240) → (i % 4 = 0) → (tn < 256) → by8 g35 → f30 o = .inr (1, [.ref un, .ref tw, .ref ke, .int (nI 14), .ref sta, .ref mo, .ref kp]) → f30 tw = .inl (E.2.1, 256, .inl g_tw) → f30 ke = .inl (E.2.1, 240, .inl g35) → f30 sta = .inl (E.2.1, 16, .inl g_sta) → f30 mo = .inl (E.2.1, 16, .inl g_mo) → f30 ky = .inl (E.1, 32, .inl g_ky) → (∀ x, x ≠ o → x ≠ ke → f30 x = f x) → pH D cCl (pA L sz) s.heap L f30 H locs → lv_has ls 11 [(5, .int (nI i)), (4, .int (nI tn)), (3, .int (nI 32)), (0, .ref o), (1, .ref ky), (2, .int (nI 32))] → W p l e (kRm 0 0 0 (0)) s m AV below meth c H locs 0 0 QQ (F0 m 78 ls []) := by
        intro n28
        induction n28 with
        | zero =>
          intro i tn g35 f30 H locs ls hm44 hc40 hc41 hc42 hc43 hg36 e32 e33 e34 e37 e38 e39 hF31 Y hl
          refine lv_iload X.1 X.2.1 d_Ae_setKey_78 (lv_at hl 0 rfl) ?_
          refine lv_bipush (v := (nI 16)) X.1 X.2.1 d_Ae_setKey_80 (by decide) ?_
          refine lv_aload_n X.1 X.2.1 d_Ae_setKey_82 rfl (lv_at hl 3 rfl) ?_
          refine q_get X.1 X.2.1 X.2.2.1 i_Ae X.2.2.2.1 X.2.2.2.2 Y m_o e32 rfl 3 (by decide) (X.2.2.1 _ lk_Ae_32) (fun _ h9 => h9) rfl d_Ae_setKey_83 ?_
          refine lv_iconst (v := (nI 1)) X.1 X.2.1 d_Ae_setKey_86 (by decide) ?_
          refine lv_iadd X.1 X.2.1 d_Ae_setKey_87 ?_
          refine t_eq (y := nI 15) (by decide) ?_
          refine lv_imul X.1 X.2.1 d_Ae_setKey_88 ?_
          refine t_eq (y := nI 240) (by decide) ?_
          refine lv_icmp_ge (tgt := 335) X.1 X.2.1 d_Ae_setKey_89 (by decide) (fun c45 => ?_) (fun c45 => absurd ?_ c45)
          rotate_left
          · (rw [nI_leI (by omega) (by omega)] <;> omega)
          rw [nI_leI (by omega) (by omega)] at c45
          exact c_retv hQQ X Y hr hlk ⟨rfl, hF31, (14), g35, hg36, (by omega), e32, e34⟩ d_Ae_setKey_335
        | succ n28 ih29 =>
          intro i tn g35 f30 H locs ls hm44 hc40 hc41 hc42 hc43 hg36 e32 e33 e34 e37 e38 e39 hF31 Y hl
          refine lv_iload X.1 X.2.1 d_Ae_setKey_78 (lv_at hl 0 rfl) ?_
          refine lv_bipush (v := (nI 16)) X.1 X.2.1 d_Ae_setKey_80 (by decide) ?_
          refine lv_aload_n X.1 X.2.1 d_Ae_setKey_82 rfl (lv_at hl 3 rfl) ?_
          refine q_get X.1 X.2.1 X.2.2.1 i_Ae X.2.2.2.1 X.2.2.2.2 Y m_o e32 rfl 3 (by decide) (X.2.2.1 _ lk_Ae_32) (fun _ h9 => h9) rfl d_Ae_setKey_83 ?_
          refine lv_iconst (v := (nI 1)) X.1 X.2.1 d_Ae_setKey_86 (by decide) ?_
          refine lv_iadd X.1 X.2.1 d_Ae_setKey_87 ?_
          refine t_eq (y := nI 15) (by decide) ?_
          refine lv_imul X.1 X.2.1 d_Ae_setKey_88 ?_
          refine t_eq (y := nI 240) (by decide) ?_
          refine lv_icmp_ge (tgt := 335) X.1 X.2.1 d_Ae_setKey_89 (by decide) (fun c46 => absurd c46 ?_) (fun c46 => ?_)
          · (rw [nI_leI (by omega) (by omega)] <;> omega)
          rw [nI_leI (by omega) (by omega)] at c46
          refine lv_aload_n X.1 X.2.1 d_Ae_setKey_92 rfl (lv_at hl 3 rfl) ?_
          refine q_get X.1 X.2.1 X.2.2.1 i_Ae X.2.2.2.1 X.2.2.2.2 Y m_o e32 rfl 2 (by decide) (X.2.2.1 _ lk_Ae_16) (fun _ h9 => h9) rfl d_Ae_setKey_93 ?_
          refine lv_iload X.1 X.2.1 d_Ae_setKey_96 (lv_at hl 0 rfl) ?_
          refine lv_iconst (v := (nI 4)) X.1 X.2.1 d_Ae_setKey_98 (by decide) ?_
          refine lv_isub X.1 X.2.1 d_Ae_setKey_99 ?_
          refine t_eq (y := nI (i - (4))) (pk_sub (by omega)) ?_
          refine q_iald X.1 X.2.1 X.2.2.2.2 Y 1 m_ke e34 rfl (vp_in_nI (by omega) (by omega)) d_Ae_setKey_100 ?_
          obtain ⟨j47, hj47, ej47⟩ := hg36 ((nI (i - (4)))).toNatClampNeg
          refine t_eq ej47 ?_
          refine lv_istore (lv' := [(6, .int (nI j47)), (5, .int (nI i)), (4, .int (nI tn)), (3, .int (nI 32)), (0, .ref o), (1, .ref ky), (2, .int (nI 32))]) X.1 X.2.1 d_Ae_setKey_101 hl (by decide) rfl (fun ls hl => ?_)
          refine lv_aload_n X.1 X.2.1 d_Ae_setKey_103 rfl (lv_at hl 4 rfl) ?_
          refine q_get X.1 X.2.1 X.2.2.1 i_Ae X.2.2.2.1 X.2.2.2.2 Y m_o e32 rfl 2 (by decide) (X.2.2.1 _ lk_Ae_16) (fun _ h9 => h9) rfl d_Ae_setKey_104 ?_
          refine lv_iload X.1 X.2.1 d_Ae_setKey_107 (lv_at hl 1 rfl) ?_
          refine lv_iconst (v := (nI 3)) X.1 X.2.1 d_Ae_setKey_109 (by decide) ?_
          refine lv_isub X.1 X.2.1 d_Ae_setKey_110 ?_
          refine t_eq (y := nI (i - (3))) (pk_sub (by omega)) ?_
          refine q_iald X.1 X.2.1 X.2.2.2.2 Y 1 m_ke e34 rfl (vp_in_nI (by omega) (by omega)) d_Ae_setKey_111 ?_
          obtain ⟨j48, hj48, ej48⟩ := hg36 ((nI (i - (3)))).toNatClampNeg
          refine t_eq ej48 ?_
          refine lv_istore (lv' := [(7, .int (nI j48)), (6, .int (nI j47)), (5, .int (nI i)), (4, .int (nI tn)), (3, .int (nI 32)), (0, .ref o), (1, .ref ky), (2, .int (nI 32))]) X.1 X.2.1 d_Ae_setKey_112 hl (by decide) rfl (fun ls hl => ?_)
          refine lv_aload_n X.1 X.2.1 d_Ae_setKey_114 rfl (lv_at hl 5 rfl) ?_
          refine q_get X.1 X.2.1 X.2.2.1 i_Ae X.2.2.2.1 X.2.2.2.2 Y m_o e32 rfl 2 (by decide) (X.2.2.1 _ lk_Ae_16) (fun _ h9 => h9) rfl d_Ae_setKey_115 ?_
          refine lv_iload X.1 X.2.1 d_Ae_setKey_118 (lv_at hl 2 rfl) ?_
          refine lv_iconst (v := (nI 2)) X.1 X.2.1 d_Ae_setKey_120 (by decide) ?_
          refine lv_isub X.1 X.2.1 d_Ae_setKey_121 ?_
          refine t_eq (y := nI (i - (2))) (pk_sub (by omega)) ?_
          refine q_iald X.1 X.2.1 X.2.2.2.2 Y 1 m_ke e34 rfl (vp_in_nI (by omega) (by omega)) d_Ae_setKey_122 ?_
          obtain ⟨j49, hj49, ej49⟩ := hg36 ((nI (i - (2)))).toNatClampNeg
          refine t_eq ej49 ?_
          refine lv_istore (lv' := [(8, .int (nI j49)), (7, .int (nI j48)), (6, .int (nI j47)), (5, .int (nI i)), (4, .int (nI tn)), (3, .int (nI 32)), (0, .ref o), (1, .ref ky), (2, .int (nI 32))]) X.1 X.2.1 d_Ae_setKey_123 hl (by decide) rfl (fun ls hl => ?_)
          refine lv_aload_n X.1 X.2.1 d_Ae_setKey_125 rfl (lv_at hl 6 rfl) ?_
          refine q_get X.1 X.2.1 X.2.2.1 i_Ae X.2.2.2.1 X.2.2.2.2 Y m_o e32 rfl 2 (by decide) (X.2.2.1 _ lk_Ae_16) (fun _ h9 => h9) rfl d_Ae_setKey_126 ?_
          refine lv_iload X.1 X.2.1 d_Ae_setKey_129 (lv_at hl 3 rfl) ?_
          refine lv_iconst (v := (nI 1)) X.1 X.2.1 d_Ae_setKey_131 (by decide) ?_
          refine lv_isub X.1 X.2.1 d_Ae_setKey_132 ?_
          refine t_eq (y := nI (i - (1))) (pk_sub (by omega)) ?_
          refine q_iald X.1 X.2.1 X.2.2.2.2 Y 1 m_ke e34 rfl (vp_in_nI (by omega) (by omega)) d_Ae_setKey_133 ?_
          obtain ⟨j50, hj50, ej50⟩ := hg36 ((nI (i - (1)))).toNatClampNeg
          refine t_eq ej50 ?_
          refine lv_istore (lv' := [(9, .int (nI j50)), (8, .int (nI j49)), (7, .int (nI j48)), (6, .int (nI j47)), (5, .int (nI i)), (4, .int (nI tn)), (3, .int (nI 32)), (0, .ref o), (1, .ref ky), (2, .int (nI 32))]) X.1 X.2.1 d_Ae_setKey_134 hl (by decide) rfl (fun ls hl => ?_)
          refine lv_iload X.1 X.2.1 d_Ae_setKey_136 (lv_at hl 4 rfl) ?_
          refine lv_iload_n X.1 X.2.1 d_Ae_setKey_138 rfl (lv_at hl 6 rfl) ?_
          refine lv_irem X.1 X.2.1 d_Ae_setKey_139 (nI_ne0 (by omega) (by omega)) ?_
          refine t_eq (y := nI ((i) % (32))) (pk_rem (by omega) (by omega) (by omega)) ?_
          refine lv_if_ne (tgt := 194) X.1 X.2.1 d_Ae_setKey_140 (by decide) (fun c51 => ?_) (fun c51 => ?_)
          · skip
            rw [← nI_0] at c51
            rw [nI_eq (by omega) (by omega)] at c51
            refine lv_iload_n X.1 X.2.1 d_Ae_setKey_194 rfl (lv_at hl 6 rfl) ?_
            refine lv_bipush (v := (nI 32)) X.1 X.2.1 d_Ae_setKey_195 (by decide) ?_
            refine lv_icmp_ne (tgt := 241) X.1 X.2.1 d_Ae_setKey_197 (by decide) (fun c52 => absurd c52 ?_) (fun c52 => ?_)
            · (rw [nI_eq (by omega) (by omega)] <;> omega)
            rw [nI_eq (by omega) (by omega)] at c52
            refine lv_iload X.1 X.2.1 d_Ae_setKey_200 (lv_at hl 4 rfl) ?_
            refine lv_iload_n X.1 X.2.1 d_Ae_setKey_202 rfl (lv_at hl 6 rfl) ?_
            refine lv_irem X.1 X.2.1 d_Ae_setKey_203 (nI_ne0 (by omega) (by omega)) ?_
            refine t_eq (y := nI ((i) % (32))) (pk_rem (by omega) (by omega) (by omega)) ?_
            refine lv_bipush (v := (nI 16)) X.1 X.2.1 d_Ae_setKey_204 (by decide) ?_
            refine lv_icmp_ne (tgt := 241) X.1 X.2.1 d_Ae_setKey_206 (by decide) (fun c53 => ?_) (fun c53 => ?_)
            · skip
              rw [nI_eq (by omega) (by omega)] at c53
              refine lv_aload_n X.1 X.2.1 d_Ae_setKey_241 rfl (lv_at hl 7 rfl) ?_
              refine q_get X.1 X.2.1 X.2.2.1 i_Ae X.2.2.2.1 X.2.2.2.2 Y m_o e32 rfl 2 (by decide) (X.2.2.1 _ lk_Ae_16) (fun _ h9 => h9) rfl d_Ae_setKey_242 ?_
              refine lv_iload X.1 X.2.1 d_Ae_setKey_245 (lv_at hl 4 rfl) ?_
              refine lv_aload_n X.1 X.2.1 d_Ae_setKey_247 rfl (lv_at hl 7 rfl) ?_
              refine q_get X.1 X.2.1 X.2.2.1 i_Ae X.2.2.2.1 X.2.2.2.2 Y m_o e32 rfl 2 (by decide) (X.2.2.1 _ lk_Ae_16) (fun _ h9 => h9) rfl d_Ae_setKey_248 ?_
              refine lv_iload X.1 X.2.1 d_Ae_setKey_251 (lv_at hl 4 rfl) ?_
              refine lv_iload_n X.1 X.2.1 d_Ae_setKey_253 rfl (lv_at hl 6 rfl) ?_
              refine lv_isub X.1 X.2.1 d_Ae_setKey_254 ?_
              refine t_eq (y := nI (i - (32))) (pk_sub (by omega)) ?_
              refine q_iald X.1 X.2.1 X.2.2.2.2 Y 1 m_ke e34 rfl (vp_in_nI (by omega) (by omega)) d_Ae_setKey_255 ?_
              obtain ⟨j54, hj54, ej54⟩ := hg36 ((nI (i - (32)))).toNatClampNeg
              refine t_eq ej54 ?_
              refine lv_iload X.1 X.2.1 d_Ae_setKey_256 (lv_at hl 3 rfl) ?_
              refine lv_ixor X.1 X.2.1 d_Ae_setKey_258 ?_
              obtain ⟨j55, hj55, ej55⟩ := by_ixor (a := j54) (b := j47) (by omega) (by omega)
              refine t_eq ej55 ?_
              refine q_iast X.1 X.2.1 X.2.2.2.2 Y 1 m_ke e34 rfl (vp_in_nI (by omega) (by omega)) d_Ae_setKey_259 (fun H locs Y => ?_)
              have hg57 : by8 (upd g35 ((nI i)).toNatClampNeg (nI j55)) := by8_upd hg36 (show j55 < 256 by omega)
              generalize (upd g35 ((nI i)).toNatClampNeg (nI j55)) = g56 at Y hg57
              have e59 : (va_up f30 ke (.inl (E.2.1, 240, .inl g56))) ke = .inl (E.2.1, 240, .inl g56) := q_up
              have e60 : (va_up f30 ke (.inl (E.2.1, 240, .inl g56))) o = .inr (1, [.ref un, .ref tw, .ref ke, .int (nI 14), .ref sta, .ref mo, .ref kp]) := (q_ne (q_tag e32 e34 (show (1 : Nat) ≠ 1000 by decide))).trans e32
              have e61 : (va_up f30 ke (.inl (E.2.1, 240, .inl g56))) tw = .inl (E.2.1, 256, .inl g_tw) := (q_ne ap_tw_ke).trans e33
              have e62 : (va_up f30 ke (.inl (E.2.1, 240, .inl g56))) sta = .inl (E.2.1, 16, .inl g_sta) := (q_ne ap_ke_sta.symm).trans e37
              have e63 : (va_up f30 ke (.inl (E.2.1, 240, .inl g56))) mo = .inl (E.2.1, 16, .inl g_mo) := (q_ne ap_ke_mo.symm).trans e38
              have e64 : (va_up f30 ke (.inl (E.2.1, 240, .inl g56))) ky = .inl (E.1, 32, .inl g_ky) := (q_ne ap_ke_ky.symm).trans e39
              have hF65 : ∀ x, x ≠ o → x ≠ ke → (va_up f30 ke (.inl (E.2.1, 240, .inl g56))) x = f x := fun x h0 h1 => (q_ne h1).trans (hF31 x h0 h1)
              have Y : pH D cCl (pA L sz) s.heap L (va_up f30 ke (.inl (E.2.1, 240, .inl g56))) H locs := Y
              generalize (va_up f30 ke (.inl (E.2.1, 240, .inl g56))) = f58 at Y e59 e60 e61 e62 e63 e64 hF65
              refine lv_aload_n X.1 X.2.1 d_Ae_setKey_260 rfl (lv_at hl 7 rfl) ?_
              refine q_get X.1 X.2.1 X.2.2.1 i_Ae X.2.2.2.1 X.2.2.2.2 Y m_o e60 rfl 2 (by decide) (X.2.2.1 _ lk_Ae_16) (fun _ h9 => h9) rfl d_Ae_setKey_261 ?_
              refine lv_iload X.1 X.2.1 d_Ae_setKey_264 (lv_at hl 4 rfl) ?_
              refine lv_iconst (v := (nI 1)) X.1 X.2.1 d_Ae_setKey_266 (by decide) ?_
              refine lv_iadd X.1 X.2.1 d_Ae_setKey_267 ?_
              refine t_eq (y := nI (i + 1)) (nI_add _ _) ?_
              refine lv_aload_n X.1 X.2.1 d_Ae_setKey_268 rfl (lv_at hl 7 rfl) ?_
              refine q_get X.1 X.2.1 X.2.2.1 i_Ae X.2.2.2.1 X.2.2.2.2 Y m_o e60 rfl 2 (by decide) (X.2.2.1 _ lk_Ae_16) (fun _ h9 => h9) rfl d_Ae_setKey_269 ?_
              refine lv_iload X.1 X.2.1 d_Ae_setKey_272 (lv_at hl 4 rfl) ?_
              refine lv_iconst (v := (nI 1)) X.1 X.2.1 d_Ae_setKey_274 (by decide) ?_
              refine lv_iadd X.1 X.2.1 d_Ae_setKey_275 ?_
              refine t_eq (y := nI (i + 1)) (nI_add _ _) ?_
              refine lv_iload_n X.1 X.2.1 d_Ae_setKey_276 rfl (lv_at hl 6 rfl) ?_
              refine lv_isub X.1 X.2.1 d_Ae_setKey_277 ?_
              refine t_eq (y := nI (i + 1 - (32))) (pk_sub (by omega)) ?_
              refine q_iald X.1 X.2.1 X.2.2.2.2 Y 1 m_ke e59 rfl (vp_in_nI (by omega) (by omega)) d_Ae_setKey_278 ?_
              obtain ⟨j66, hj66, ej66⟩ := hg57 ((nI (i + 1 - (32)))).toNatClampNeg
              refine t_eq ej66 ?_
              refine lv_iload X.1 X.2.1 d_Ae_setKey_279 (lv_at hl 2 rfl) ?_
              refine lv_ixor X.1 X.2.1 d_Ae_setKey_281 ?_
              obtain ⟨j67, hj67, ej67⟩ := by_ixor (a := j66) (b := j48) (by omega) (by omega)
              refine t_eq ej67 ?_
              refine q_iast X.1 X.2.1 X.2.2.2.2 Y 1 m_ke e59 rfl (vp_in_nI (by omega) (by omega)) d_Ae_setKey_282 (fun H locs Y => ?_)
              have hg69 : by8 (upd g56 ((nI (i + 1))).toNatClampNeg (nI j67)) := by8_upd hg57 (show j67 < 256 by omega)
              generalize (upd g56 ((nI (i + 1))).toNatClampNeg (nI j67)) = g68 at Y hg69
              have e71 : (va_up f58 ke (.inl (E.2.1, 240, .inl g68))) ke = .inl (E.2.1, 240, .inl g68) := q_up
              have e72 : (va_up f58 ke (.inl (E.2.1, 240, .inl g68))) o = .inr (1, [.ref un, .ref tw, .ref ke, .int (nI 14), .ref sta, .ref mo, .ref kp]) := (q_ne (q_tag e60 e59 (show (1 : Nat) ≠ 1000 by decide))).trans e60
              have e73 : (va_up f58 ke (.inl (E.2.1, 240, .inl g68))) tw = .inl (E.2.1, 256, .inl g_tw) := (q_ne ap_tw_ke).trans e61
              have e74 : (va_up f58 ke (.inl (E.2.1, 240, .inl g68))) sta = .inl (E.2.1, 16, .inl g_sta) := (q_ne ap_ke_sta.symm).trans e62
              have e75 : (va_up f58 ke (.inl (E.2.1, 240, .inl g68))) mo = .inl (E.2.1, 16, .inl g_mo) := (q_ne ap_ke_mo.symm).trans e63
              have e76 : (va_up f58 ke (.inl (E.2.1, 240, .inl g68))) ky = .inl (E.1, 32, .inl g_ky) := (q_ne ap_ke_ky.symm).trans e64
              have hF77 : ∀ x, x ≠ o → x ≠ ke → (va_up f58 ke (.inl (E.2.1, 240, .inl g68))) x = f x := fun x h0 h1 => (q_ne h1).trans (hF65 x h0 h1)
              have Y : pH D cCl (pA L sz) s.heap L (va_up f58 ke (.inl (E.2.1, 240, .inl g68))) H locs := Y
              generalize (va_up f58 ke (.inl (E.2.1, 240, .inl g68))) = f70 at Y e71 e72 e73 e74 e75 e76 hF77
              refine lv_aload_n X.1 X.2.1 d_Ae_setKey_283 rfl (lv_at hl 7 rfl) ?_
              refine q_get X.1 X.2.1 X.2.2.1 i_Ae X.2.2.2.1 X.2.2.2.2 Y m_o e72 rfl 2 (by decide) (X.2.2.1 _ lk_Ae_16) (fun _ h9 => h9) rfl d_Ae_setKey_284 ?_
              refine lv_iload X.1 X.2.1 d_Ae_setKey_287 (lv_at hl 4 rfl) ?_
              refine lv_iconst (v := (nI 2)) X.1 X.2.1 d_Ae_setKey_289 (by decide) ?_
              refine lv_iadd X.1 X.2.1 d_Ae_setKey_290 ?_
              refine t_eq (y := nI (i + 2)) (nI_add _ _) ?_
              refine lv_aload_n X.1 X.2.1 d_Ae_setKey_291 rfl (lv_at hl 7 rfl) ?_
              refine q_get X.1 X.2.1 X.2.2.1 i_Ae X.2.2.2.1 X.2.2.2.2 Y m_o e72 rfl 2 (by decide) (X.2.2.1 _ lk_Ae_16) (fun _ h9 => h9) rfl d_Ae_setKey_292 ?_
              refine lv_iload X.1 X.2.1 d_Ae_setKey_295 (lv_at hl 4 rfl) ?_
              refine lv_iconst (v := (nI 2)) X.1 X.2.1 d_Ae_setKey_297 (by decide) ?_
              refine lv_iadd X.1 X.2.1 d_Ae_setKey_298 ?_
              refine t_eq (y := nI (i + 2)) (nI_add _ _) ?_
              refine lv_iload_n X.1 X.2.1 d_Ae_setKey_299 rfl (lv_at hl 6 rfl) ?_
              refine lv_isub X.1 X.2.1 d_Ae_setKey_300 ?_
              refine t_eq (y := nI (i + 2 - (32))) (pk_sub (by omega)) ?_
              refine q_iald X.1 X.2.1 X.2.2.2.2 Y 1 m_ke e71 rfl (vp_in_nI (by omega) (by omega)) d_Ae_setKey_301 ?_
              obtain ⟨j78, hj78, ej78⟩ := hg69 ((nI (i + 2 - (32)))).toNatClampNeg
              refine t_eq ej78 ?_
              refine lv_iload X.1 X.2.1 d_Ae_setKey_302 (lv_at hl 1 rfl) ?_
              refine lv_ixor X.1 X.2.1 d_Ae_setKey_304 ?_
              obtain ⟨j79, hj79, ej79⟩ := by_ixor (a := j78) (b := j49) (by omega) (by omega)
              refine t_eq ej79 ?_
              refine q_iast X.1 X.2.1 X.2.2.2.2 Y 1 m_ke e71 rfl (vp_in_nI (by omega) (by omega)) d_Ae_setKey_305 (fun H locs Y => ?_)
              have hg81 : by8 (upd g68 ((nI (i + 2))).toNatClampNeg (nI j79)) := by8_upd hg69 (show j79 < 256 by omega)
              generalize (upd g68 ((nI (i + 2))).toNatClampNeg (nI j79)) = g80 at Y hg81
              have e83 : (va_up f70 ke (.inl (E.2.1, 240, .inl g80))) ke = .inl (E.2.1, 240, .inl g80) := q_up
              have e84 : (va_up f70 ke (.inl (E.2.1, 240, .inl g80))) o = .inr (1, [.ref un, .ref tw, .ref ke, .int (nI 14), .ref sta, .ref mo, .ref kp]) := (q_ne (q_tag e72 e71 (show (1 : Nat) ≠ 1000 by decide))).trans e72
              have e85 : (va_up f70 ke (.inl (E.2.1, 240, .inl g80))) tw = .inl (E.2.1, 256, .inl g_tw) := (q_ne ap_tw_ke).trans e73
              have e86 : (va_up f70 ke (.inl (E.2.1, 240, .inl g80))) sta = .inl (E.2.1, 16, .inl g_sta) := (q_ne ap_ke_sta.symm).trans e74
              have e87 : (va_up f70 ke (.inl (E.2.1, 240, .inl g80))) mo = .inl (E.2.1, 16, .inl g_mo) := (q_ne ap_ke_mo.symm).trans e75
              have e88 : (va_up f70 ke (.inl (E.2.1, 240, .inl g80))) ky = .inl (E.1, 32, .inl g_ky) := (q_ne ap_ke_ky.symm).trans e76
              have hF89 : ∀ x, x ≠ o → x ≠ ke → (va_up f70 ke (.inl (E.2.1, 240, .inl g80))) x = f x := fun x h0 h1 => (q_ne h1).trans (hF77 x h0 h1)
              have Y : pH D cCl (pA L sz) s.heap L (va_up f70 ke (.inl (E.2.1, 240, .inl g80))) H locs := Y
              generalize (va_up f70 ke (.inl (E.2.1, 240, .inl g80))) = f82 at Y e83 e84 e85 e86 e87 e88 hF89
              refine lv_aload_n X.1 X.2.1 d_Ae_setKey_306 rfl (lv_at hl 7 rfl) ?_
              refine q_get X.1 X.2.1 X.2.2.1 i_Ae X.2.2.2.1 X.2.2.2.2 Y m_o e84 rfl 2 (by decide) (X.2.2.1 _ lk_Ae_16) (fun _ h9 => h9) rfl d_Ae_setKey_307 ?_
              refine lv_iload X.1 X.2.1 d_Ae_setKey_310 (lv_at hl 4 rfl) ?_
              refine lv_iconst (v := (nI 3)) X.1 X.2.1 d_Ae_setKey_312 (by decide) ?_
              refine lv_iadd X.1 X.2.1 d_Ae_setKey_313 ?_
              refine t_eq (y := nI (i + 3)) (nI_add _ _) ?_
              refine lv_aload_n X.1 X.2.1 d_Ae_setKey_314 rfl (lv_at hl 7 rfl) ?_
              refine q_get X.1 X.2.1 X.2.2.1 i_Ae X.2.2.2.1 X.2.2.2.2 Y m_o e84 rfl 2 (by decide) (X.2.2.1 _ lk_Ae_16) (fun _ h9 => h9) rfl d_Ae_setKey_315 ?_
              refine lv_iload X.1 X.2.1 d_Ae_setKey_318 (lv_at hl 4 rfl) ?_
              refine lv_iconst (v := (nI 3)) X.1 X.2.1 d_Ae_setKey_320 (by decide) ?_
              refine lv_iadd X.1 X.2.1 d_Ae_setKey_321 ?_
              refine t_eq (y := nI (i + 3)) (nI_add _ _) ?_
              refine lv_iload_n X.1 X.2.1 d_Ae_setKey_322 rfl (lv_at hl 6 rfl) ?_
              refine lv_isub X.1 X.2.1 d_Ae_setKey_323 ?_
              refine t_eq (y := nI (i + 3 - (32))) (pk_sub (by omega)) ?_
              refine q_iald X.1 X.2.1 X.2.2.2.2 Y 1 m_ke e83 rfl (vp_in_nI (by omega) (by omega)) d_Ae_setKey_324 ?_
              obtain ⟨j90, hj90, ej90⟩ := hg81 ((nI (i + 3 - (32)))).toNatClampNeg
              refine t_eq ej90 ?_
              refine lv_iload X.1 X.2.1 d_Ae_setKey_325 (lv_at hl 0 rfl) ?_
              refine lv_ixor X.1 X.2.1 d_Ae_setKey_327 ?_
              obtain ⟨j91, hj91, ej91⟩ := by_ixor (a := j90) (b := j50) (by omega) (by omega)
              refine t_eq ej91 ?_
              refine q_iast X.1 X.2.1 X.2.2.2.2 Y 1 m_ke e83 rfl (vp_in_nI (by omega) (by omega)) d_Ae_setKey_328 (fun H locs Y => ?_)
              have hg93 : by8 (upd g80 ((nI (i + 3))).toNatClampNeg (nI j91)) := by8_upd hg81 (show j91 < 256 by omega)
              generalize (upd g80 ((nI (i + 3))).toNatClampNeg (nI j91)) = g92 at Y hg93
              have e95 : (va_up f82 ke (.inl (E.2.1, 240, .inl g92))) ke = .inl (E.2.1, 240, .inl g92) := q_up
              have e96 : (va_up f82 ke (.inl (E.2.1, 240, .inl g92))) o = .inr (1, [.ref un, .ref tw, .ref ke, .int (nI 14), .ref sta, .ref mo, .ref kp]) := (q_ne (q_tag e84 e83 (show (1 : Nat) ≠ 1000 by decide))).trans e84
              have e97 : (va_up f82 ke (.inl (E.2.1, 240, .inl g92))) tw = .inl (E.2.1, 256, .inl g_tw) := (q_ne ap_tw_ke).trans e85
              have e98 : (va_up f82 ke (.inl (E.2.1, 240, .inl g92))) sta = .inl (E.2.1, 16, .inl g_sta) := (q_ne ap_ke_sta.symm).trans e86
              have e99 : (va_up f82 ke (.inl (E.2.1, 240, .inl g92))) mo = .inl (E.2.1, 16, .inl g_mo) := (q_ne ap_ke_mo.symm).trans e87
              have e100 : (va_up f82 ke (.inl (E.2.1, 240, .inl g92))) ky = .inl (E.1, 32, .inl g_ky) := (q_ne ap_ke_ky.symm).trans e88
              have hF101 : ∀ x, x ≠ o → x ≠ ke → (va_up f82 ke (.inl (E.2.1, 240, .inl g92))) x = f x := fun x h0 h1 => (q_ne h1).trans (hF89 x h0 h1)
              have Y : pH D cCl (pA L sz) s.heap L (va_up f82 ke (.inl (E.2.1, 240, .inl g92))) H locs := Y
              generalize (va_up f82 ke (.inl (E.2.1, 240, .inl g92))) = f94 at Y e95 e96 e97 e98 e99 e100 hF101
              refine lv_iinc (v := (nI (i + 4))) (lv' := [(5, .int (nI (i + 4))), (9, .int (nI j50)), (8, .int (nI j49)), (7, .int (nI j48)), (6, .int (nI j47)), (4, .int (nI tn)), (3, .int (nI 32)), (0, .ref o), (1, .ref ky), (2, .int (nI 32))]) X.1 X.2.1 d_Ae_setKey_329 hl (k := 4) rfl (nI_add _ 4) (by decide) rfl (fun ls hl => ?_)
              refine lv_goto (tgt := 78) X.1 X.2.1 d_Ae_setKey_332 (by decide) ?_
              exact ih29  (i + 4) (tn)    g92 f94 _ _ _ (by omega) (by omega) (by omega) (by omega) (by omega) hg93 e96 e97 e95 e98 e99 e100 hF101 Y (lv_sub hl [0, 5, 6, 7, 8, 9] rfl)
            · skip
              rw [nI_eq (by omega) (by omega)] at c53
              refine k_gets 1 (by decide) X Y KS sk_Ae_29 d_Ae_setKey_209 ?_
              refine lv_iload X.1 X.2.1 d_Ae_setKey_212 (lv_at hl 3 rfl) ?_
              refine k_iald 1 (by decide) rfl X Y KS (vp_in_nI (show j47 < sL 1 by first | decide | exact (by omega : j47 < 256)) (by decide)) d_Ae_setKey_214 ?_
              obtain ⟨j102, hj102, ej102⟩ := sBOX_lt ((nI j47)).toNatClampNeg
              refine t_eq ej102 ?_
              refine lv_istore (lv' := [(6, .int (nI j102)), (9, .int (nI j50)), (8, .int (nI j49)), (7, .int (nI j48)), (5, .int (nI i)), (4, .int (nI tn)), (3, .int (nI 32)), (0, .ref o), (1, .ref ky), (2, .int (nI 32))]) X.1 X.2.1 d_Ae_setKey_215 hl (by decide) rfl (fun ls hl => ?_)
              refine k_gets 1 (by decide) X Y KS sk_Ae_29 d_Ae_setKey_217 ?_
              refine lv_iload X.1 X.2.1 d_Ae_setKey_220 (lv_at hl 3 rfl) ?_
              refine k_iald 1 (by decide) rfl X Y KS (vp_in_nI (show j48 < sL 1 by first | decide | exact (by omega : j48 < 256)) (by decide)) d_Ae_setKey_222 ?_
              obtain ⟨j103, hj103, ej103⟩ := sBOX_lt ((nI j48)).toNatClampNeg
              refine t_eq ej103 ?_
              refine lv_istore (lv' := [(7, .int (nI j103)), (6, .int (nI j102)), (9, .int (nI j50)), (8, .int (nI j49)), (5, .int (nI i)), (4, .int (nI tn)), (3, .int (nI 32)), (0, .ref o), (1, .ref ky), (2, .int (nI 32))]) X.1 X.2.1 d_Ae_setKey_223 hl (by decide) rfl (fun ls hl => ?_)
              refine k_gets 1 (by decide) X Y KS sk_Ae_29 d_Ae_setKey_225 ?_
              refine lv_iload X.1 X.2.1 d_Ae_setKey_228 (lv_at hl 3 rfl) ?_
              refine k_iald 1 (by decide) rfl X Y KS (vp_in_nI (show j49 < sL 1 by first | decide | exact (by omega : j49 < 256)) (by decide)) d_Ae_setKey_230 ?_
              obtain ⟨j104, hj104, ej104⟩ := sBOX_lt ((nI j49)).toNatClampNeg
              refine t_eq ej104 ?_
              refine lv_istore (lv' := [(8, .int (nI j104)), (7, .int (nI j103)), (6, .int (nI j102)), (9, .int (nI j50)), (5, .int (nI i)), (4, .int (nI tn)), (3, .int (nI 32)), (0, .ref o), (1, .ref ky), (2, .int (nI 32))]) X.1 X.2.1 d_Ae_setKey_231 hl (by decide) rfl (fun ls hl => ?_)
              refine k_gets 1 (by decide) X Y KS sk_Ae_29 d_Ae_setKey_233 ?_
              refine lv_iload X.1 X.2.1 d_Ae_setKey_236 (lv_at hl 3 rfl) ?_
              refine k_iald 1 (by decide) rfl X Y KS (vp_in_nI (show j50 < sL 1 by first | decide | exact (by omega : j50 < 256)) (by decide)) d_Ae_setKey_238 ?_
              obtain ⟨j105, hj105, ej105⟩ := sBOX_lt ((nI j50)).toNatClampNeg
              refine t_eq ej105 ?_
              refine lv_istore (lv' := [(9, .int (nI j105)), (8, .int (nI j104)), (7, .int (nI j103)), (6, .int (nI j102)), (5, .int (nI i)), (4, .int (nI tn)), (3, .int (nI 32)), (0, .ref o), (1, .ref ky), (2, .int (nI 32))]) X.1 X.2.1 d_Ae_setKey_239 hl (by decide) rfl (fun ls hl => ?_)
              refine lv_aload_n X.1 X.2.1 d_Ae_setKey_241 rfl (lv_at hl 7 rfl) ?_
              refine q_get X.1 X.2.1 X.2.2.1 i_Ae X.2.2.2.1 X.2.2.2.2 Y m_o e32 rfl 2 (by decide) (X.2.2.1 _ lk_Ae_16) (fun _ h9 => h9) rfl d_Ae_setKey_242 ?_
              refine lv_iload X.1 X.2.1 d_Ae_setKey_245 (lv_at hl 4 rfl) ?_
              refine lv_aload_n X.1 X.2.1 d_Ae_setKey_247 rfl (lv_at hl 7 rfl) ?_
              refine q_get X.1 X.2.1 X.2.2.1 i_Ae X.2.2.2.1 X.2.2.2.2 Y m_o e32 rfl 2 (by decide) (X.2.2.1 _ lk_Ae_16) (fun _ h9 => h9) rfl d_Ae_setKey_248 ?_
              refine lv_iload X.1 X.2.1 d_Ae_setKey_251 (lv_at hl 4 rfl) ?_
              refine lv_iload_n X.1 X.2.1 d_Ae_setKey_253 rfl (lv_at hl 6 rfl) ?_
              refine lv_isub X.1 X.2.1 d_Ae_setKey_254 ?_
              refine t_eq (y := nI (i - (32))) (pk_sub (by omega)) ?_
              refine q_iald X.1 X.2.1 X.2.2.2.2 Y 1 m_ke e34 rfl (vp_in_nI (by omega) (by omega)) d_Ae_setKey_255 ?_
              obtain ⟨j106, hj106, ej106⟩ := hg36 ((nI (i - (32)))).toNatClampNeg
              refine t_eq ej106 ?_
              refine lv_iload X.1 X.2.1 d_Ae_setKey_256 (lv_at hl 3 rfl) ?_
              refine lv_ixor X.1 X.2.1 d_Ae_setKey_258 ?_
              obtain ⟨j107, hj107, ej107⟩ := by_ixor (a := j106) (b := j102) (by omega) (by omega)
              refine t_eq ej107 ?_
              refine q_iast X.1 X.2.1 X.2.2.2.2 Y 1 m_ke e34 rfl (vp_in_nI (by omega) (by omega)) d_Ae_setKey_259 (fun H locs Y => ?_)
              have hg109 : by8 (upd g35 ((nI i)).toNatClampNeg (nI j107)) := by8_upd hg36 (show j107 < 256 by omega)
              generalize (upd g35 ((nI i)).toNatClampNeg (nI j107)) = g108 at Y hg109
              have e111 : (va_up f30 ke (.inl (E.2.1, 240, .inl g108))) ke = .inl (E.2.1, 240, .inl g108) := q_up
              have e112 : (va_up f30 ke (.inl (E.2.1, 240, .inl g108))) o = .inr (1, [.ref un, .ref tw, .ref ke, .int (nI 14), .ref sta, .ref mo, .ref kp]) := (q_ne (q_tag e32 e34 (show (1 : Nat) ≠ 1000 by decide))).trans e32
              have e113 : (va_up f30 ke (.inl (E.2.1, 240, .inl g108))) tw = .inl (E.2.1, 256, .inl g_tw) := (q_ne ap_tw_ke).trans e33
              have e114 : (va_up f30 ke (.inl (E.2.1, 240, .inl g108))) sta = .inl (E.2.1, 16, .inl g_sta) := (q_ne ap_ke_sta.symm).trans e37
              have e115 : (va_up f30 ke (.inl (E.2.1, 240, .inl g108))) mo = .inl (E.2.1, 16, .inl g_mo) := (q_ne ap_ke_mo.symm).trans e38
              have e116 : (va_up f30 ke (.inl (E.2.1, 240, .inl g108))) ky = .inl (E.1, 32, .inl g_ky) := (q_ne ap_ke_ky.symm).trans e39
              have hF117 : ∀ x, x ≠ o → x ≠ ke → (va_up f30 ke (.inl (E.2.1, 240, .inl g108))) x = f x := fun x h0 h1 => (q_ne h1).trans (hF31 x h0 h1)
              have Y : pH D cCl (pA L sz) s.heap L (va_up f30 ke (.inl (E.2.1, 240, .inl g108))) H locs := Y
              generalize (va_up f30 ke (.inl (E.2.1, 240, .inl g108))) = f110 at Y e111 e112 e113 e114 e115 e116 hF117
              refine lv_aload_n X.1 X.2.1 d_Ae_setKey_260 rfl (lv_at hl 7 rfl) ?_
              refine q_get X.1 X.2.1 X.2.2.1 i_Ae X.2.2.2.1 X.2.2.2.2 Y m_o e112 rfl 2 (by decide) (X.2.2.1 _ lk_Ae_16) (fun _ h9 => h9) rfl d_Ae_setKey_261 ?_
              refine lv_iload X.1 X.2.1 d_Ae_setKey_264 (lv_at hl 4 rfl) ?_
              refine lv_iconst (v := (nI 1)) X.1 X.2.1 d_Ae_setKey_266 (by decide) ?_
              refine lv_iadd X.1 X.2.1 d_Ae_setKey_267 ?_
              refine t_eq (y := nI (i + 1)) (nI_add _ _) ?_
              refine lv_aload_n X.1 X.2.1 d_Ae_setKey_268 rfl (lv_at hl 7 rfl) ?_
              refine q_get X.1 X.2.1 X.2.2.1 i_Ae X.2.2.2.1 X.2.2.2.2 Y m_o e112 rfl 2 (by decide) (X.2.2.1 _ lk_Ae_16) (fun _ h9 => h9) rfl d_Ae_setKey_269 ?_
              refine lv_iload X.1 X.2.1 d_Ae_setKey_272 (lv_at hl 4 rfl) ?_
              refine lv_iconst (v := (nI 1)) X.1 X.2.1 d_Ae_setKey_274 (by decide) ?_
              refine lv_iadd X.1 X.2.1 d_Ae_setKey_275 ?_
              refine t_eq (y := nI (i + 1)) (nI_add _ _) ?_
              refine lv_iload_n X.1 X.2.1 d_Ae_setKey_276 rfl (lv_at hl 6 rfl) ?_
              refine lv_isub X.1 X.2.1 d_Ae_setKey_277 ?_
              refine t_eq (y := nI (i + 1 - (32))) (pk_sub (by omega)) ?_
              refine q_iald X.1 X.2.1 X.2.2.2.2 Y 1 m_ke e111 rfl (vp_in_nI (by omega) (by omega)) d_Ae_setKey_278 ?_
              obtain ⟨j118, hj118, ej118⟩ := hg109 ((nI (i + 1 - (32)))).toNatClampNeg
              refine t_eq ej118 ?_
              refine lv_iload X.1 X.2.1 d_Ae_setKey_279 (lv_at hl 2 rfl) ?_
              refine lv_ixor X.1 X.2.1 d_Ae_setKey_281 ?_
              obtain ⟨j119, hj119, ej119⟩ := by_ixor (a := j118) (b := j103) (by omega) (by omega)
              refine t_eq ej119 ?_
              refine q_iast X.1 X.2.1 X.2.2.2.2 Y 1 m_ke e111 rfl (vp_in_nI (by omega) (by omega)) d_Ae_setKey_282 (fun H locs Y => ?_)
              have hg121 : by8 (upd g108 ((nI (i + 1))).toNatClampNeg (nI j119)) := by8_upd hg109 (show j119 < 256 by omega)
              generalize (upd g108 ((nI (i + 1))).toNatClampNeg (nI j119)) = g120 at Y hg121
              have e123 : (va_up f110 ke (.inl (E.2.1, 240, .inl g120))) ke = .inl (E.2.1, 240, .inl g120) := q_up
              have e124 : (va_up f110 ke (.inl (E.2.1, 240, .inl g120))) o = .inr (1, [.ref un, .ref tw, .ref ke, .int (nI 14), .ref sta, .ref mo, .ref kp]) := (q_ne (q_tag e112 e111 (show (1 : Nat) ≠ 1000 by decide))).trans e112
              have e125 : (va_up f110 ke (.inl (E.2.1, 240, .inl g120))) tw = .inl (E.2.1, 256, .inl g_tw) := (q_ne ap_tw_ke).trans e113
              have e126 : (va_up f110 ke (.inl (E.2.1, 240, .inl g120))) sta = .inl (E.2.1, 16, .inl g_sta) := (q_ne ap_ke_sta.symm).trans e114
              have e127 : (va_up f110 ke (.inl (E.2.1, 240, .inl g120))) mo = .inl (E.2.1, 16, .inl g_mo) := (q_ne ap_ke_mo.symm).trans e115
              have e128 : (va_up f110 ke (.inl (E.2.1, 240, .inl g120))) ky = .inl (E.1, 32, .inl g_ky) := (q_ne ap_ke_ky.symm).trans e116
              have hF129 : ∀ x, x ≠ o → x ≠ ke → (va_up f110 ke (.inl (E.2.1, 240, .inl g120))) x = f x := fun x h0 h1 => (q_ne h1).trans (hF117 x h0 h1)
              have Y : pH D cCl (pA L sz) s.heap L (va_up f110 ke (.inl (E.2.1, 240, .inl g120))) H locs := Y
              generalize (va_up f110 ke (.inl (E.2.1, 240, .inl g120))) = f122 at Y e123 e124 e125 e126 e127 e128 hF129
              refine lv_aload_n X.1 X.2.1 d_Ae_setKey_283 rfl (lv_at hl 7 rfl) ?_
              refine q_get X.1 X.2.1 X.2.2.1 i_Ae X.2.2.2.1 X.2.2.2.2 Y m_o e124 rfl 2 (by decide) (X.2.2.1 _ lk_Ae_16) (fun _ h9 => h9) rfl d_Ae_setKey_284 ?_
              refine lv_iload X.1 X.2.1 d_Ae_setKey_287 (lv_at hl 4 rfl) ?_
              refine lv_iconst (v := (nI 2)) X.1 X.2.1 d_Ae_setKey_289 (by decide) ?_
              refine lv_iadd X.1 X.2.1 d_Ae_setKey_290 ?_
              refine t_eq (y := nI (i + 2)) (nI_add _ _) ?_
              refine lv_aload_n X.1 X.2.1 d_Ae_setKey_291 rfl (lv_at hl 7 rfl) ?_
              refine q_get X.1 X.2.1 X.2.2.1 i_Ae X.2.2.2.1 X.2.2.2.2 Y m_o e124 rfl 2 (by decide) (X.2.2.1 _ lk_Ae_16) (fun _ h9 => h9) rfl d_Ae_setKey_292 ?_
              refine lv_iload X.1 X.2.1 d_Ae_setKey_295 (lv_at hl 4 rfl) ?_
              refine lv_iconst (v := (nI 2)) X.1 X.2.1 d_Ae_setKey_297 (by decide) ?_
              refine lv_iadd X.1 X.2.1 d_Ae_setKey_298 ?_
              refine t_eq (y := nI (i + 2)) (nI_add _ _) ?_
              refine lv_iload_n X.1 X.2.1 d_Ae_setKey_299 rfl (lv_at hl 6 rfl) ?_
              refine lv_isub X.1 X.2.1 d_Ae_setKey_300 ?_
              refine t_eq (y := nI (i + 2 - (32))) (pk_sub (by omega)) ?_
              refine q_iald X.1 X.2.1 X.2.2.2.2 Y 1 m_ke e123 rfl (vp_in_nI (by omega) (by omega)) d_Ae_setKey_301 ?_
              obtain ⟨j130, hj130, ej130⟩ := hg121 ((nI (i + 2 - (32)))).toNatClampNeg
              refine t_eq ej130 ?_
              refine lv_iload X.1 X.2.1 d_Ae_setKey_302 (lv_at hl 1 rfl) ?_
              refine lv_ixor X.1 X.2.1 d_Ae_setKey_304 ?_
              obtain ⟨j131, hj131, ej131⟩ := by_ixor (a := j130) (b := j104) (by omega) (by omega)
              refine t_eq ej131 ?_
              refine q_iast X.1 X.2.1 X.2.2.2.2 Y 1 m_ke e123 rfl (vp_in_nI (by omega) (by omega)) d_Ae_setKey_305 (fun H locs Y => ?_)
              have hg133 : by8 (upd g120 ((nI (i + 2))).toNatClampNeg (nI j131)) := by8_upd hg121 (show j131 < 256 by omega)
              generalize (upd g120 ((nI (i + 2))).toNatClampNeg (nI j131)) = g132 at Y hg133
              have e135 : (va_up f122 ke (.inl (E.2.1, 240, .inl g132))) ke = .inl (E.2.1, 240, .inl g132) := q_up
              have e136 : (va_up f122 ke (.inl (E.2.1, 240, .inl g132))) o = .inr (1, [.ref un, .ref tw, .ref ke, .int (nI 14), .ref sta, .ref mo, .ref kp]) := (q_ne (q_tag e124 e123 (show (1 : Nat) ≠ 1000 by decide))).trans e124
              have e137 : (va_up f122 ke (.inl (E.2.1, 240, .inl g132))) tw = .inl (E.2.1, 256, .inl g_tw) := (q_ne ap_tw_ke).trans e125
              have e138 : (va_up f122 ke (.inl (E.2.1, 240, .inl g132))) sta = .inl (E.2.1, 16, .inl g_sta) := (q_ne ap_ke_sta.symm).trans e126
              have e139 : (va_up f122 ke (.inl (E.2.1, 240, .inl g132))) mo = .inl (E.2.1, 16, .inl g_mo) := (q_ne ap_ke_mo.symm).trans e127
              have e140 : (va_up f122 ke (.inl (E.2.1, 240, .inl g132))) ky = .inl (E.1, 32, .inl g_ky) := (q_ne ap_ke_ky.symm).trans e128
              have hF141 : ∀ x, x ≠ o → x ≠ ke → (va_up f122 ke (.inl (E.2.1, 240, .inl g132))) x = f x := fun x h0 h1 => (q_ne h1).trans (hF129 x h0 h1)
              have Y : pH D cCl (pA L sz) s.heap L (va_up f122 ke (.inl (E.2.1, 240, .inl g132))) H locs := Y
              generalize (va_up f122 ke (.inl (E.2.1, 240, .inl g132))) = f134 at Y e135 e136 e137 e138 e139 e140 hF141
              refine lv_aload_n X.1 X.2.1 d_Ae_setKey_306 rfl (lv_at hl 7 rfl) ?_
              refine q_get X.1 X.2.1 X.2.2.1 i_Ae X.2.2.2.1 X.2.2.2.2 Y m_o e136 rfl 2 (by decide) (X.2.2.1 _ lk_Ae_16) (fun _ h9 => h9) rfl d_Ae_setKey_307 ?_
              refine lv_iload X.1 X.2.1 d_Ae_setKey_310 (lv_at hl 4 rfl) ?_
              refine lv_iconst (v := (nI 3)) X.1 X.2.1 d_Ae_setKey_312 (by decide) ?_
              refine lv_iadd X.1 X.2.1 d_Ae_setKey_313 ?_
              refine t_eq (y := nI (i + 3)) (nI_add _ _) ?_
              refine lv_aload_n X.1 X.2.1 d_Ae_setKey_314 rfl (lv_at hl 7 rfl) ?_
              refine q_get X.1 X.2.1 X.2.2.1 i_Ae X.2.2.2.1 X.2.2.2.2 Y m_o e136 rfl 2 (by decide) (X.2.2.1 _ lk_Ae_16) (fun _ h9 => h9) rfl d_Ae_setKey_315 ?_
              refine lv_iload X.1 X.2.1 d_Ae_setKey_318 (lv_at hl 4 rfl) ?_
              refine lv_iconst (v := (nI 3)) X.1 X.2.1 d_Ae_setKey_320 (by decide) ?_
              refine lv_iadd X.1 X.2.1 d_Ae_setKey_321 ?_
              refine t_eq (y := nI (i + 3)) (nI_add _ _) ?_
              refine lv_iload_n X.1 X.2.1 d_Ae_setKey_322 rfl (lv_at hl 6 rfl) ?_
              refine lv_isub X.1 X.2.1 d_Ae_setKey_323 ?_
              refine t_eq (y := nI (i + 3 - (32))) (pk_sub (by omega)) ?_
              refine q_iald X.1 X.2.1 X.2.2.2.2 Y 1 m_ke e135 rfl (vp_in_nI (by omega) (by omega)) d_Ae_setKey_324 ?_
              obtain ⟨j142, hj142, ej142⟩ := hg133 ((nI (i + 3 - (32)))).toNatClampNeg
              refine t_eq ej142 ?_
              refine lv_iload X.1 X.2.1 d_Ae_setKey_325 (lv_at hl 0 rfl) ?_
              refine lv_ixor X.1 X.2.1 d_Ae_setKey_327 ?_
              obtain ⟨j143, hj143, ej143⟩ := by_ixor (a := j142) (b := j105) (by omega) (by omega)
              refine t_eq ej143 ?_
              refine q_iast X.1 X.2.1 X.2.2.2.2 Y 1 m_ke e135 rfl (vp_in_nI (by omega) (by omega)) d_Ae_setKey_328 (fun H locs Y => ?_)
              have hg145 : by8 (upd g132 ((nI (i + 3))).toNatClampNeg (nI j143)) := by8_upd hg133 (show j143 < 256 by omega)
              generalize (upd g132 ((nI (i + 3))).toNatClampNeg (nI j143)) = g144 at Y hg145
              have e147 : (va_up f134 ke (.inl (E.2.1, 240, .inl g144))) ke = .inl (E.2.1, 240, .inl g144) := q_up
              have e148 : (va_up f134 ke (.inl (E.2.1, 240, .inl g144))) o = .inr (1, [.ref un, .ref tw, .ref ke, .int (nI 14), .ref sta, .ref mo, .ref kp]) := (q_ne (q_tag e136 e135 (show (1 : Nat) ≠ 1000 by decide))).trans e136
              have e149 : (va_up f134 ke (.inl (E.2.1, 240, .inl g144))) tw = .inl (E.2.1, 256, .inl g_tw) := (q_ne ap_tw_ke).trans e137
              have e150 : (va_up f134 ke (.inl (E.2.1, 240, .inl g144))) sta = .inl (E.2.1, 16, .inl g_sta) := (q_ne ap_ke_sta.symm).trans e138
              have e151 : (va_up f134 ke (.inl (E.2.1, 240, .inl g144))) mo = .inl (E.2.1, 16, .inl g_mo) := (q_ne ap_ke_mo.symm).trans e139
              have e152 : (va_up f134 ke (.inl (E.2.1, 240, .inl g144))) ky = .inl (E.1, 32, .inl g_ky) := (q_ne ap_ke_ky.symm).trans e140
              have hF153 : ∀ x, x ≠ o → x ≠ ke → (va_up f134 ke (.inl (E.2.1, 240, .inl g144))) x = f x := fun x h0 h1 => (q_ne h1).trans (hF141 x h0 h1)
              have Y : pH D cCl (pA L sz) s.heap L (va_up f134 ke (.inl (E.2.1, 240, .inl g144))) H locs := Y
              generalize (va_up f134 ke (.inl (E.2.1, 240, .inl g144))) = f146 at Y e147 e148 e149 e150 e151 e152 hF153
              refine lv_iinc (v := (nI (i + 4))) (lv' := [(5, .int (nI (i + 4))), (9, .int (nI j105)), (8, .int (nI j104)), (7, .int (nI j103)), (6, .int (nI j102)), (4, .int (nI tn)), (3, .int (nI 32)), (0, .ref o), (1, .ref ky), (2, .int (nI 32))]) X.1 X.2.1 d_Ae_setKey_329 hl (k := 4) rfl (nI_add _ 4) (by decide) rfl (fun ls hl => ?_)
              refine lv_goto (tgt := 78) X.1 X.2.1 d_Ae_setKey_332 (by decide) ?_
              exact ih29  (i + 4) (tn)    g144 f146 _ _ _ (by omega) (by omega) (by omega) (by omega) (by omega) hg145 e148 e149 e147 e150 e151 e152 hF153 Y (lv_sub hl [0, 5, 6, 7, 8, 9] rfl)
          · skip
            rw [← nI_0] at c51
            rw [nI_eq (by omega) (by omega)] at c51
            refine lv_iload X.1 X.2.1 d_Ae_setKey_143 (lv_at hl 3 rfl) ?_
            refine lv_istore (lv' := [(10, .int (nI j47)), (9, .int (nI j50)), (8, .int (nI j49)), (7, .int (nI j48)), (6, .int (nI j47)), (5, .int (nI i)), (4, .int (nI tn)), (3, .int (nI 32)), (0, .ref o), (1, .ref ky), (2, .int (nI 32))]) X.1 X.2.1 d_Ae_setKey_145 hl (by decide) rfl (fun ls hl => ?_)
            refine k_gets 1 (by decide) X Y KS sk_Ae_29 d_Ae_setKey_147 ?_
            refine lv_iload X.1 X.2.1 d_Ae_setKey_150 (lv_at hl 3 rfl) ?_
            refine k_iald 1 (by decide) rfl X Y KS (vp_in_nI (show j48 < sL 1 by first | decide | exact (by omega : j48 < 256)) (by decide)) d_Ae_setKey_152 ?_
            obtain ⟨j154, hj154, ej154⟩ := sBOX_lt ((nI j48)).toNatClampNeg
            refine t_eq ej154 ?_
            refine lv_iload X.1 X.2.1 d_Ae_setKey_153 (lv_at hl 6 rfl) ?_
            refine lv_ixor X.1 X.2.1 d_Ae_setKey_155 ?_
            obtain ⟨j155, hj155, ej155⟩ := by_ixor (a := j154) (b := tn) (by omega) (by omega)
            refine t_eq ej155 ?_
            refine lv_istore (lv' := [(6, .int (nI j155)), (10, .int (nI j47)), (9, .int (nI j50)), (8, .int (nI j49)), (7, .int (nI j48)), (5, .int (nI i)), (4, .int (nI tn)), (3, .int (nI 32)), (0, .ref o), (1, .ref ky), (2, .int (nI 32))]) X.1 X.2.1 d_Ae_setKey_156 hl (by decide) rfl (fun ls hl => ?_)
            refine k_gets 1 (by decide) X Y KS sk_Ae_29 d_Ae_setKey_158 ?_
            refine lv_iload X.1 X.2.1 d_Ae_setKey_161 (lv_at hl 3 rfl) ?_
            refine k_iald 1 (by decide) rfl X Y KS (vp_in_nI (show j49 < sL 1 by first | decide | exact (by omega : j49 < 256)) (by decide)) d_Ae_setKey_163 ?_
            obtain ⟨j156, hj156, ej156⟩ := sBOX_lt ((nI j49)).toNatClampNeg
            refine t_eq ej156 ?_
            refine lv_istore (lv' := [(7, .int (nI j156)), (6, .int (nI j155)), (10, .int (nI j47)), (9, .int (nI j50)), (8, .int (nI j49)), (5, .int (nI i)), (4, .int (nI tn)), (3, .int (nI 32)), (0, .ref o), (1, .ref ky), (2, .int (nI 32))]) X.1 X.2.1 d_Ae_setKey_164 hl (by decide) rfl (fun ls hl => ?_)
            refine k_gets 1 (by decide) X Y KS sk_Ae_29 d_Ae_setKey_166 ?_
            refine lv_iload X.1 X.2.1 d_Ae_setKey_169 (lv_at hl 3 rfl) ?_
            refine k_iald 1 (by decide) rfl X Y KS (vp_in_nI (show j50 < sL 1 by first | decide | exact (by omega : j50 < 256)) (by decide)) d_Ae_setKey_171 ?_
            obtain ⟨j157, hj157, ej157⟩ := sBOX_lt ((nI j50)).toNatClampNeg
            refine t_eq ej157 ?_
            refine lv_istore (lv' := [(8, .int (nI j157)), (7, .int (nI j156)), (6, .int (nI j155)), (10, .int (nI j47)), (9, .int (nI j50)), (5, .int (nI i)), (4, .int (nI tn)), (3, .int (nI 32)), (0, .ref o), (1, .ref ky), (2, .int (nI 32))]) X.1 X.2.1 d_Ae_setKey_172 hl (by decide) rfl (fun ls hl => ?_)
            refine k_gets 1 (by decide) X Y KS sk_Ae_29 d_Ae_setKey_174 ?_
            refine lv_iload X.1 X.2.1 d_Ae_setKey_177 (lv_at hl 3 rfl) ?_
            refine k_iald 1 (by decide) rfl X Y KS (vp_in_nI (show j47 < sL 1 by first | decide | exact (by omega : j47 < 256)) (by decide)) d_Ae_setKey_179 ?_
            obtain ⟨j158, hj158, ej158⟩ := sBOX_lt ((nI j47)).toNatClampNeg
            refine t_eq ej158 ?_
            refine lv_istore (lv' := [(9, .int (nI j158)), (8, .int (nI j157)), (7, .int (nI j156)), (6, .int (nI j155)), (10, .int (nI j47)), (5, .int (nI i)), (4, .int (nI tn)), (3, .int (nI 32)), (0, .ref o), (1, .ref ky), (2, .int (nI 32))]) X.1 X.2.1 d_Ae_setKey_180 hl (by decide) rfl (fun ls hl => ?_)
            refine lv_aload_n X.1 X.2.1 d_Ae_setKey_182 rfl (lv_at hl 8 rfl) ?_
            refine q_get X.1 X.2.1 X.2.2.1 i_Ae X.2.2.2.1 X.2.2.2.2 Y m_o e32 rfl 1 (by decide) (X.2.2.1 _ lk_Ae_13) (fun _ h9 => h9) rfl d_Ae_setKey_183 ?_
            refine lv_iload X.1 X.2.1 d_Ae_setKey_186 (lv_at hl 6 rfl) ?_
            refine q_iald X.1 X.2.1 X.2.2.2.2 Y 1 m_tw e33 rfl (vp_in_nI (by omega) (by omega)) d_Ae_setKey_188 ?_
            obtain ⟨j159, hj159, ej159⟩ := f_tw ((nI tn)).toNatClampNeg
            refine t_eq ej159 ?_
            refine lv_istore (lv' := [(4, .int (nI j159)), (9, .int (nI j158)), (8, .int (nI j157)), (7, .int (nI j156)), (6, .int (nI j155)), (10, .int (nI j47)), (5, .int (nI i)), (3, .int (nI 32)), (0, .ref o), (1, .ref ky), (2, .int (nI 32))]) X.1 X.2.1 d_Ae_setKey_189 hl (by decide) rfl (fun ls hl => ?_)
            refine lv_goto (tgt := 241) X.1 X.2.1 d_Ae_setKey_191 (by decide) ?_
            refine lv_aload_n X.1 X.2.1 d_Ae_setKey_241 rfl (lv_at hl 8 rfl) ?_
            refine q_get X.1 X.2.1 X.2.2.1 i_Ae X.2.2.2.1 X.2.2.2.2 Y m_o e32 rfl 2 (by decide) (X.2.2.1 _ lk_Ae_16) (fun _ h9 => h9) rfl d_Ae_setKey_242 ?_
            refine lv_iload X.1 X.2.1 d_Ae_setKey_245 (lv_at hl 6 rfl) ?_
            refine lv_aload_n X.1 X.2.1 d_Ae_setKey_247 rfl (lv_at hl 8 rfl) ?_
            refine q_get X.1 X.2.1 X.2.2.1 i_Ae X.2.2.2.1 X.2.2.2.2 Y m_o e32 rfl 2 (by decide) (X.2.2.1 _ lk_Ae_16) (fun _ h9 => h9) rfl d_Ae_setKey_248 ?_
            refine lv_iload X.1 X.2.1 d_Ae_setKey_251 (lv_at hl 6 rfl) ?_
            refine lv_iload_n X.1 X.2.1 d_Ae_setKey_253 rfl (lv_at hl 7 rfl) ?_
            refine lv_isub X.1 X.2.1 d_Ae_setKey_254 ?_
            refine t_eq (y := nI (i - (32))) (pk_sub (by omega)) ?_
            refine q_iald X.1 X.2.1 X.2.2.2.2 Y 1 m_ke e34 rfl (vp_in_nI (by omega) (by omega)) d_Ae_setKey_255 ?_
            obtain ⟨j160, hj160, ej160⟩ := hg36 ((nI (i - (32)))).toNatClampNeg
            refine t_eq ej160 ?_
            refine lv_iload X.1 X.2.1 d_Ae_setKey_256 (lv_at hl 4 rfl) ?_
            refine lv_ixor X.1 X.2.1 d_Ae_setKey_258 ?_
            obtain ⟨j161, hj161, ej161⟩ := by_ixor (a := j160) (b := j155) (by omega) (by omega)
            refine t_eq ej161 ?_
            refine q_iast X.1 X.2.1 X.2.2.2.2 Y 1 m_ke e34 rfl (vp_in_nI (by omega) (by omega)) d_Ae_setKey_259 (fun H locs Y => ?_)
            have hg163 : by8 (upd g35 ((nI i)).toNatClampNeg (nI j161)) := by8_upd hg36 (show j161 < 256 by omega)
            generalize (upd g35 ((nI i)).toNatClampNeg (nI j161)) = g162 at Y hg163
            have e165 : (va_up f30 ke (.inl (E.2.1, 240, .inl g162))) ke = .inl (E.2.1, 240, .inl g162) := q_up
            have e166 : (va_up f30 ke (.inl (E.2.1, 240, .inl g162))) o = .inr (1, [.ref un, .ref tw, .ref ke, .int (nI 14), .ref sta, .ref mo, .ref kp]) := (q_ne (q_tag e32 e34 (show (1 : Nat) ≠ 1000 by decide))).trans e32
            have e167 : (va_up f30 ke (.inl (E.2.1, 240, .inl g162))) tw = .inl (E.2.1, 256, .inl g_tw) := (q_ne ap_tw_ke).trans e33
            have e168 : (va_up f30 ke (.inl (E.2.1, 240, .inl g162))) sta = .inl (E.2.1, 16, .inl g_sta) := (q_ne ap_ke_sta.symm).trans e37
            have e169 : (va_up f30 ke (.inl (E.2.1, 240, .inl g162))) mo = .inl (E.2.1, 16, .inl g_mo) := (q_ne ap_ke_mo.symm).trans e38
            have e170 : (va_up f30 ke (.inl (E.2.1, 240, .inl g162))) ky = .inl (E.1, 32, .inl g_ky) := (q_ne ap_ke_ky.symm).trans e39
            have hF171 : ∀ x, x ≠ o → x ≠ ke → (va_up f30 ke (.inl (E.2.1, 240, .inl g162))) x = f x := fun x h0 h1 => (q_ne h1).trans (hF31 x h0 h1)
            have Y : pH D cCl (pA L sz) s.heap L (va_up f30 ke (.inl (E.2.1, 240, .inl g162))) H locs := Y
            generalize (va_up f30 ke (.inl (E.2.1, 240, .inl g162))) = f164 at Y e165 e166 e167 e168 e169 e170 hF171
            refine lv_aload_n X.1 X.2.1 d_Ae_setKey_260 rfl (lv_at hl 8 rfl) ?_
            refine q_get X.1 X.2.1 X.2.2.1 i_Ae X.2.2.2.1 X.2.2.2.2 Y m_o e166 rfl 2 (by decide) (X.2.2.1 _ lk_Ae_16) (fun _ h9 => h9) rfl d_Ae_setKey_261 ?_
            refine lv_iload X.1 X.2.1 d_Ae_setKey_264 (lv_at hl 6 rfl) ?_
            refine lv_iconst (v := (nI 1)) X.1 X.2.1 d_Ae_setKey_266 (by decide) ?_
            refine lv_iadd X.1 X.2.1 d_Ae_setKey_267 ?_
            refine t_eq (y := nI (i + 1)) (nI_add _ _) ?_
            refine lv_aload_n X.1 X.2.1 d_Ae_setKey_268 rfl (lv_at hl 8 rfl) ?_
            refine q_get X.1 X.2.1 X.2.2.1 i_Ae X.2.2.2.1 X.2.2.2.2 Y m_o e166 rfl 2 (by decide) (X.2.2.1 _ lk_Ae_16) (fun _ h9 => h9) rfl d_Ae_setKey_269 ?_
            refine lv_iload X.1 X.2.1 d_Ae_setKey_272 (lv_at hl 6 rfl) ?_
            refine lv_iconst (v := (nI 1)) X.1 X.2.1 d_Ae_setKey_274 (by decide) ?_
            refine lv_iadd X.1 X.2.1 d_Ae_setKey_275 ?_
            refine t_eq (y := nI (i + 1)) (nI_add _ _) ?_
            refine lv_iload_n X.1 X.2.1 d_Ae_setKey_276 rfl (lv_at hl 7 rfl) ?_
            refine lv_isub X.1 X.2.1 d_Ae_setKey_277 ?_
            refine t_eq (y := nI (i + 1 - (32))) (pk_sub (by omega)) ?_
            refine q_iald X.1 X.2.1 X.2.2.2.2 Y 1 m_ke e165 rfl (vp_in_nI (by omega) (by omega)) d_Ae_setKey_278 ?_
            obtain ⟨j172, hj172, ej172⟩ := hg163 ((nI (i + 1 - (32)))).toNatClampNeg
            refine t_eq ej172 ?_
            refine lv_iload X.1 X.2.1 d_Ae_setKey_279 (lv_at hl 3 rfl) ?_
            refine lv_ixor X.1 X.2.1 d_Ae_setKey_281 ?_
            obtain ⟨j173, hj173, ej173⟩ := by_ixor (a := j172) (b := j156) (by omega) (by omega)
            refine t_eq ej173 ?_
            refine q_iast X.1 X.2.1 X.2.2.2.2 Y 1 m_ke e165 rfl (vp_in_nI (by omega) (by omega)) d_Ae_setKey_282 (fun H locs Y => ?_)
            have hg175 : by8 (upd g162 ((nI (i + 1))).toNatClampNeg (nI j173)) := by8_upd hg163 (show j173 < 256 by omega)
            generalize (upd g162 ((nI (i + 1))).toNatClampNeg (nI j173)) = g174 at Y hg175
            have e177 : (va_up f164 ke (.inl (E.2.1, 240, .inl g174))) ke = .inl (E.2.1, 240, .inl g174) := q_up
            have e178 : (va_up f164 ke (.inl (E.2.1, 240, .inl g174))) o = .inr (1, [.ref un, .ref tw, .ref ke, .int (nI 14), .ref sta, .ref mo, .ref kp]) := (q_ne (q_tag e166 e165 (show (1 : Nat) ≠ 1000 by decide))).trans e166
            have e179 : (va_up f164 ke (.inl (E.2.1, 240, .inl g174))) tw = .inl (E.2.1, 256, .inl g_tw) := (q_ne ap_tw_ke).trans e167
            have e180 : (va_up f164 ke (.inl (E.2.1, 240, .inl g174))) sta = .inl (E.2.1, 16, .inl g_sta) := (q_ne ap_ke_sta.symm).trans e168
            have e181 : (va_up f164 ke (.inl (E.2.1, 240, .inl g174))) mo = .inl (E.2.1, 16, .inl g_mo) := (q_ne ap_ke_mo.symm).trans e169
            have e182 : (va_up f164 ke (.inl (E.2.1, 240, .inl g174))) ky = .inl (E.1, 32, .inl g_ky) := (q_ne ap_ke_ky.symm).trans e170
            have hF183 : ∀ x, x ≠ o → x ≠ ke → (va_up f164 ke (.inl (E.2.1, 240, .inl g174))) x = f x := fun x h0 h1 => (q_ne h1).trans (hF171 x h0 h1)
            have Y : pH D cCl (pA L sz) s.heap L (va_up f164 ke (.inl (E.2.1, 240, .inl g174))) H locs := Y
            generalize (va_up f164 ke (.inl (E.2.1, 240, .inl g174))) = f176 at Y e177 e178 e179 e180 e181 e182 hF183
            refine lv_aload_n X.1 X.2.1 d_Ae_setKey_283 rfl (lv_at hl 8 rfl) ?_
            refine q_get X.1 X.2.1 X.2.2.1 i_Ae X.2.2.2.1 X.2.2.2.2 Y m_o e178 rfl 2 (by decide) (X.2.2.1 _ lk_Ae_16) (fun _ h9 => h9) rfl d_Ae_setKey_284 ?_
            refine lv_iload X.1 X.2.1 d_Ae_setKey_287 (lv_at hl 6 rfl) ?_
            refine lv_iconst (v := (nI 2)) X.1 X.2.1 d_Ae_setKey_289 (by decide) ?_
            refine lv_iadd X.1 X.2.1 d_Ae_setKey_290 ?_
            refine t_eq (y := nI (i + 2)) (nI_add _ _) ?_
            refine lv_aload_n X.1 X.2.1 d_Ae_setKey_291 rfl (lv_at hl 8 rfl) ?_
            refine q_get X.1 X.2.1 X.2.2.1 i_Ae X.2.2.2.1 X.2.2.2.2 Y m_o e178 rfl 2 (by decide) (X.2.2.1 _ lk_Ae_16) (fun _ h9 => h9) rfl d_Ae_setKey_292 ?_
            refine lv_iload X.1 X.2.1 d_Ae_setKey_295 (lv_at hl 6 rfl) ?_
            refine lv_iconst (v := (nI 2)) X.1 X.2.1 d_Ae_setKey_297 (by decide) ?_
            refine lv_iadd X.1 X.2.1 d_Ae_setKey_298 ?_
            refine t_eq (y := nI (i + 2)) (nI_add _ _) ?_
            refine lv_iload_n X.1 X.2.1 d_Ae_setKey_299 rfl (lv_at hl 7 rfl) ?_
            refine lv_isub X.1 X.2.1 d_Ae_setKey_300 ?_
            refine t_eq (y := nI (i + 2 - (32))) (pk_sub (by omega)) ?_
            refine q_iald X.1 X.2.1 X.2.2.2.2 Y 1 m_ke e177 rfl (vp_in_nI (by omega) (by omega)) d_Ae_setKey_301 ?_
            obtain ⟨j184, hj184, ej184⟩ := hg175 ((nI (i + 2 - (32)))).toNatClampNeg
            refine t_eq ej184 ?_
            refine lv_iload X.1 X.2.1 d_Ae_setKey_302 (lv_at hl 2 rfl) ?_
            refine lv_ixor X.1 X.2.1 d_Ae_setKey_304 ?_
            obtain ⟨j185, hj185, ej185⟩ := by_ixor (a := j184) (b := j157) (by omega) (by omega)
            refine t_eq ej185 ?_
            refine q_iast X.1 X.2.1 X.2.2.2.2 Y 1 m_ke e177 rfl (vp_in_nI (by omega) (by omega)) d_Ae_setKey_305 (fun H locs Y => ?_)
            have hg187 : by8 (upd g174 ((nI (i + 2))).toNatClampNeg (nI j185)) := by8_upd hg175 (show j185 < 256 by omega)
            generalize (upd g174 ((nI (i + 2))).toNatClampNeg (nI j185)) = g186 at Y hg187
            have e189 : (va_up f176 ke (.inl (E.2.1, 240, .inl g186))) ke = .inl (E.2.1, 240, .inl g186) := q_up
            have e190 : (va_up f176 ke (.inl (E.2.1, 240, .inl g186))) o = .inr (1, [.ref un, .ref tw, .ref ke, .int (nI 14), .ref sta, .ref mo, .ref kp]) := (q_ne (q_tag e178 e177 (show (1 : Nat) ≠ 1000 by decide))).trans e178
            have e191 : (va_up f176 ke (.inl (E.2.1, 240, .inl g186))) tw = .inl (E.2.1, 256, .inl g_tw) := (q_ne ap_tw_ke).trans e179
            have e192 : (va_up f176 ke (.inl (E.2.1, 240, .inl g186))) sta = .inl (E.2.1, 16, .inl g_sta) := (q_ne ap_ke_sta.symm).trans e180
            have e193 : (va_up f176 ke (.inl (E.2.1, 240, .inl g186))) mo = .inl (E.2.1, 16, .inl g_mo) := (q_ne ap_ke_mo.symm).trans e181
            have e194 : (va_up f176 ke (.inl (E.2.1, 240, .inl g186))) ky = .inl (E.1, 32, .inl g_ky) := (q_ne ap_ke_ky.symm).trans e182
            have hF195 : ∀ x, x ≠ o → x ≠ ke → (va_up f176 ke (.inl (E.2.1, 240, .inl g186))) x = f x := fun x h0 h1 => (q_ne h1).trans (hF183 x h0 h1)
            have Y : pH D cCl (pA L sz) s.heap L (va_up f176 ke (.inl (E.2.1, 240, .inl g186))) H locs := Y
            generalize (va_up f176 ke (.inl (E.2.1, 240, .inl g186))) = f188 at Y e189 e190 e191 e192 e193 e194 hF195
            refine lv_aload_n X.1 X.2.1 d_Ae_setKey_306 rfl (lv_at hl 8 rfl) ?_
            refine q_get X.1 X.2.1 X.2.2.1 i_Ae X.2.2.2.1 X.2.2.2.2 Y m_o e190 rfl 2 (by decide) (X.2.2.1 _ lk_Ae_16) (fun _ h9 => h9) rfl d_Ae_setKey_307 ?_
            refine lv_iload X.1 X.2.1 d_Ae_setKey_310 (lv_at hl 6 rfl) ?_
            refine lv_iconst (v := (nI 3)) X.1 X.2.1 d_Ae_setKey_312 (by decide) ?_
            refine lv_iadd X.1 X.2.1 d_Ae_setKey_313 ?_
            refine t_eq (y := nI (i + 3)) (nI_add _ _) ?_
            refine lv_aload_n X.1 X.2.1 d_Ae_setKey_314 rfl (lv_at hl 8 rfl) ?_
            refine q_get X.1 X.2.1 X.2.2.1 i_Ae X.2.2.2.1 X.2.2.2.2 Y m_o e190 rfl 2 (by decide) (X.2.2.1 _ lk_Ae_16) (fun _ h9 => h9) rfl d_Ae_setKey_315 ?_
            refine lv_iload X.1 X.2.1 d_Ae_setKey_318 (lv_at hl 6 rfl) ?_
            refine lv_iconst (v := (nI 3)) X.1 X.2.1 d_Ae_setKey_320 (by decide) ?_
            refine lv_iadd X.1 X.2.1 d_Ae_setKey_321 ?_
            refine t_eq (y := nI (i + 3)) (nI_add _ _) ?_
            refine lv_iload_n X.1 X.2.1 d_Ae_setKey_322 rfl (lv_at hl 7 rfl) ?_
            refine lv_isub X.1 X.2.1 d_Ae_setKey_323 ?_
            refine t_eq (y := nI (i + 3 - (32))) (pk_sub (by omega)) ?_
            refine q_iald X.1 X.2.1 X.2.2.2.2 Y 1 m_ke e189 rfl (vp_in_nI (by omega) (by omega)) d_Ae_setKey_324 ?_
            obtain ⟨j196, hj196, ej196⟩ := hg187 ((nI (i + 3 - (32)))).toNatClampNeg
            refine t_eq ej196 ?_
            refine lv_iload X.1 X.2.1 d_Ae_setKey_325 (lv_at hl 1 rfl) ?_
            refine lv_ixor X.1 X.2.1 d_Ae_setKey_327 ?_
            obtain ⟨j197, hj197, ej197⟩ := by_ixor (a := j196) (b := j158) (by omega) (by omega)
            refine t_eq ej197 ?_
            refine q_iast X.1 X.2.1 X.2.2.2.2 Y 1 m_ke e189 rfl (vp_in_nI (by omega) (by omega)) d_Ae_setKey_328 (fun H locs Y => ?_)
            have hg199 : by8 (upd g186 ((nI (i + 3))).toNatClampNeg (nI j197)) := by8_upd hg187 (show j197 < 256 by omega)
            generalize (upd g186 ((nI (i + 3))).toNatClampNeg (nI j197)) = g198 at Y hg199
            have e201 : (va_up f188 ke (.inl (E.2.1, 240, .inl g198))) ke = .inl (E.2.1, 240, .inl g198) := q_up
            have e202 : (va_up f188 ke (.inl (E.2.1, 240, .inl g198))) o = .inr (1, [.ref un, .ref tw, .ref ke, .int (nI 14), .ref sta, .ref mo, .ref kp]) := (q_ne (q_tag e190 e189 (show (1 : Nat) ≠ 1000 by decide))).trans e190
            have e203 : (va_up f188 ke (.inl (E.2.1, 240, .inl g198))) tw = .inl (E.2.1, 256, .inl g_tw) := (q_ne ap_tw_ke).trans e191
            have e204 : (va_up f188 ke (.inl (E.2.1, 240, .inl g198))) sta = .inl (E.2.1, 16, .inl g_sta) := (q_ne ap_ke_sta.symm).trans e192
            have e205 : (va_up f188 ke (.inl (E.2.1, 240, .inl g198))) mo = .inl (E.2.1, 16, .inl g_mo) := (q_ne ap_ke_mo.symm).trans e193
            have e206 : (va_up f188 ke (.inl (E.2.1, 240, .inl g198))) ky = .inl (E.1, 32, .inl g_ky) := (q_ne ap_ke_ky.symm).trans e194
            have hF207 : ∀ x, x ≠ o → x ≠ ke → (va_up f188 ke (.inl (E.2.1, 240, .inl g198))) x = f x := fun x h0 h1 => (q_ne h1).trans (hF195 x h0 h1)
            have Y : pH D cCl (pA L sz) s.heap L (va_up f188 ke (.inl (E.2.1, 240, .inl g198))) H locs := Y
            generalize (va_up f188 ke (.inl (E.2.1, 240, .inl g198))) = f200 at Y e201 e202 e203 e204 e205 e206 hF207
            refine lv_iinc (v := (nI (i + 4))) (lv' := [(5, .int (nI (i + 4))), (4, .int (nI j159)), (9, .int (nI j158)), (8, .int (nI j157)), (7, .int (nI j156)), (6, .int (nI j155)), (10, .int (nI j47)), (3, .int (nI 32)), (0, .ref o), (1, .ref ky), (2, .int (nI 32))]) X.1 X.2.1 d_Ae_setKey_329 hl (k := 6) rfl (nI_add _ 4) (by decide) rfl (fun ls hl => ?_)
            refine lv_goto (tgt := 78) X.1 X.2.1 d_Ae_setKey_332 (by decide) ?_
            exact ih29  (i + 4) (j159)    g198 f200 _ _ _ (by omega) (by omega) (by omega) (by omega) (by omega) hg199 e202 e203 e201 e204 e205 e206 hF207 Y (lv_sub hl [0, 1, 7, 8, 9, 10] rfl)
      exact lp27 (52) (32) (1)    g19 f14 _ _ _ (by omega) (by omega) (by omega) (by omega) (by omega) hg20 e16 e17 e18 e21 e22 e23 hF15 Y (lv_sub hl [0, 1, 2, 3, 4, 5] rfl)
    | succ n12 ih13 =>
      intro i g19 f14 H locs ls hm25 hc24 hg20 e16 e17 e18 e21 e22 e23 hF15 Y hl
      refine lv_iload X.1 X.2.1 d_Ae_setKey_34 (lv_at hl 0 rfl) ?_
      refine lv_iload_n X.1 X.2.1 d_Ae_setKey_36 rfl (lv_at hl 1 rfl) ?_
      refine lv_icmp_ge (tgt := 72) X.1 X.2.1 d_Ae_setKey_37 (by decide) (fun c208 => absurd c208 ?_) (fun c208 => ?_)
      · (rw [nI_leI (by omega) (by omega)] <;> omega)
      rw [nI_leI (by omega) (by omega)] at c208
      refine lv_aload_n X.1 X.2.1 d_Ae_setKey_40 rfl (lv_at hl 2 rfl) ?_
      refine q_get X.1 X.2.1 X.2.2.1 i_Ae X.2.2.2.1 X.2.2.2.2 Y m_o e16 rfl 2 (by decide) (X.2.2.1 _ lk_Ae_16) (fun _ h9 => h9) rfl d_Ae_setKey_41 ?_
      refine lv_iload X.1 X.2.1 d_Ae_setKey_44 (lv_at hl 0 rfl) ?_
      refine lv_iload X.1 X.2.1 d_Ae_setKey_46 (lv_at hl 0 rfl) ?_
      refine lv_aload_n X.1 X.2.1 d_Ae_setKey_48 rfl (lv_at hl 3 rfl) ?_
      refine q_alen X.1 X.2.1 X.2.2.2.2 Y 0 m_ky e23 rfl (v := nI (32)) rfl d_Ae_setKey_49 ?_
      refine lv_icmp_ge (tgt := 64) X.1 X.2.1 d_Ae_setKey_50 (by decide) (fun c209 => ?_) (fun c209 => ?_)
      · skip
        rw [nI_leI (by omega) (by omega)] at c209
        refine lv_iconst (v := (nI 0)) X.1 X.2.1 d_Ae_setKey_64 (by decide) ?_
        refine q_iast X.1 X.2.1 X.2.2.2.2 Y 1 m_ke e18 rfl (vp_in_nI (by omega) (by omega)) d_Ae_setKey_65 (fun H locs Y => ?_)
        have hg211 : by8 (upd g19 ((nI i)).toNatClampNeg (nI 0)) := by8_upd hg20 (show 0 < 256 by omega)
        generalize (upd g19 ((nI i)).toNatClampNeg (nI 0)) = g210 at Y hg211
        have e213 : (va_up f14 ke (.inl (E.2.1, 240, .inl g210))) ke = .inl (E.2.1, 240, .inl g210) := q_up
        have e214 : (va_up f14 ke (.inl (E.2.1, 240, .inl g210))) o = .inr (1, [.ref un, .ref tw, .ref ke, .int (nI 14), .ref sta, .ref mo, .ref kp]) := (q_ne (q_tag e16 e18 (show (1 : Nat) ≠ 1000 by decide))).trans e16
        have e215 : (va_up f14 ke (.inl (E.2.1, 240, .inl g210))) tw = .inl (E.2.1, 256, .inl g_tw) := (q_ne ap_tw_ke).trans e17
        have e216 : (va_up f14 ke (.inl (E.2.1, 240, .inl g210))) sta = .inl (E.2.1, 16, .inl g_sta) := (q_ne ap_ke_sta.symm).trans e21
        have e217 : (va_up f14 ke (.inl (E.2.1, 240, .inl g210))) mo = .inl (E.2.1, 16, .inl g_mo) := (q_ne ap_ke_mo.symm).trans e22
        have e218 : (va_up f14 ke (.inl (E.2.1, 240, .inl g210))) ky = .inl (E.1, 32, .inl g_ky) := (q_ne ap_ke_ky.symm).trans e23
        have hF219 : ∀ x, x ≠ o → x ≠ ke → (va_up f14 ke (.inl (E.2.1, 240, .inl g210))) x = f x := fun x h0 h1 => (q_ne h1).trans (hF15 x h0 h1)
        have Y : pH D cCl (pA L sz) s.heap L (va_up f14 ke (.inl (E.2.1, 240, .inl g210))) H locs := Y
        generalize (va_up f14 ke (.inl (E.2.1, 240, .inl g210))) = f212 at Y e213 e214 e215 e216 e217 e218 hF219
        refine lv_iinc (v := (nI (i + 1))) (lv' := [(4, .int (nI (i + 1))), (3, .int (nI 32)), (0, .ref o), (1, .ref ky), (2, .int (nI 32))]) X.1 X.2.1 d_Ae_setKey_66 hl (k := 0) rfl (nI_add _ 1) (by decide) rfl (fun ls hl => ?_)
        refine lv_goto (tgt := 34) X.1 X.2.1 d_Ae_setKey_69 (by decide) ?_
        exact ih13  (i + 1)    g210 f212 _ _ _ (by omega) (by omega) hg211 e214 e215 e213 e216 e217 e218 hF219 Y (lv_sub hl [0, 1, 2, 3, 4] rfl)
      · skip
        rw [nI_leI (by omega) (by omega)] at c209
        refine lv_aload_n X.1 X.2.1 d_Ae_setKey_53 rfl (lv_at hl 3 rfl) ?_
        refine lv_iload X.1 X.2.1 d_Ae_setKey_54 (lv_at hl 0 rfl) ?_
        refine q_bald X.1 X.2.1 X.2.2.2.2 Y 0 m_ky e23 rfl (vp_in_nI (by omega) (by omega)) d_Ae_setKey_56 ?_
        refine t_any (fun v220 => ?_)
        refine lv_sipush (v := (nI 255)) X.1 X.2.1 d_Ae_setKey_57 (by decide) ?_
        refine lv_iand X.1 X.2.1 d_Ae_setKey_60 ?_
        obtain ⟨j221, hj221, ej221⟩ := pk_andE v220 (m := nI 255) 8 (by decide)
        refine t_eq ej221 ?_
        have hj221 : j221 < 256 := hj221
        refine lv_goto (tgt := 65) X.1 X.2.1 d_Ae_setKey_61 (by decide) ?_
        refine q_iast X.1 X.2.1 X.2.2.2.2 Y 1 m_ke e18 rfl (vp_in_nI (by omega) (by omega)) d_Ae_setKey_65 (fun H locs Y => ?_)
        have hg223 : by8 (upd g19 ((nI i)).toNatClampNeg (nI j221)) := by8_upd hg20 (show j221 < 256 by omega)
        generalize (upd g19 ((nI i)).toNatClampNeg (nI j221)) = g222 at Y hg223
        have e225 : (va_up f14 ke (.inl (E.2.1, 240, .inl g222))) ke = .inl (E.2.1, 240, .inl g222) := q_up
        have e226 : (va_up f14 ke (.inl (E.2.1, 240, .inl g222))) o = .inr (1, [.ref un, .ref tw, .ref ke, .int (nI 14), .ref sta, .ref mo, .ref kp]) := (q_ne (q_tag e16 e18 (show (1 : Nat) ≠ 1000 by decide))).trans e16
        have e227 : (va_up f14 ke (.inl (E.2.1, 240, .inl g222))) tw = .inl (E.2.1, 256, .inl g_tw) := (q_ne ap_tw_ke).trans e17
        have e228 : (va_up f14 ke (.inl (E.2.1, 240, .inl g222))) sta = .inl (E.2.1, 16, .inl g_sta) := (q_ne ap_ke_sta.symm).trans e21
        have e229 : (va_up f14 ke (.inl (E.2.1, 240, .inl g222))) mo = .inl (E.2.1, 16, .inl g_mo) := (q_ne ap_ke_mo.symm).trans e22
        have e230 : (va_up f14 ke (.inl (E.2.1, 240, .inl g222))) ky = .inl (E.1, 32, .inl g_ky) := (q_ne ap_ke_ky.symm).trans e23
        have hF231 : ∀ x, x ≠ o → x ≠ ke → (va_up f14 ke (.inl (E.2.1, 240, .inl g222))) x = f x := fun x h0 h1 => (q_ne h1).trans (hF15 x h0 h1)
        have Y : pH D cCl (pA L sz) s.heap L (va_up f14 ke (.inl (E.2.1, 240, .inl g222))) H locs := Y
        generalize (va_up f14 ke (.inl (E.2.1, 240, .inl g222))) = f224 at Y e225 e226 e227 e228 e229 e230 hF231
        refine lv_iinc (v := (nI (i + 1))) (lv' := [(4, .int (nI (i + 1))), (3, .int (nI 32)), (0, .ref o), (1, .ref ky), (2, .int (nI 32))]) X.1 X.2.1 d_Ae_setKey_66 hl (k := 0) rfl (nI_add _ 1) (by decide) rfl (fun ls hl => ?_)
        refine lv_goto (tgt := 34) X.1 X.2.1 d_Ae_setKey_69 (by decide) ?_
        exact ih13  (i + 1)    g222 f224 _ _ _ (by omega) (by omega) hg223 e226 e227 e225 e228 e229 e230 hF231 Y (lv_sub hl [0, 1, 2, 3, 4] rfl)
  exact lp11 (32) (0)    g_ke f3 _ _ _ (by omega) (by omega) f_ke e4 e5 e6 e7 e8 e9 hF10 Y (lv_sub hl [0, 1, 2, 3, 4] rfl)
set_option maxHeartbeats 4000000 in
set_option maxRecDepth 100000 in
theorem c_Ae_encrypt (l : Launch) (D : va_G) (E : cE) (T : cT) (L : List Nat) (f : pF) (sz : Nat) (fr : Nat) (KN o tw ke sta mo ky un kp rd : Nat) (g_tw g_ke g_sta g_mo g_ky : Nat → Int32) (m_o : o ∈ L) (m_tw : tw ∈ L) (m_ke : ke ∈ L) (m_sta : sta ∈ L) (m_mo : mo ∈ L) (m_ky : ky ∈ L) (e_o : f o = .inr (1, [.ref un, .ref tw, .ref ke, .int (nI rd), .ref sta, .ref mo, .ref kp])) (e_tw : f tw = .inl (E.2.1, 256, .inl g_tw)) (e_ke : f ke = .inl (E.2.1, 240, .inl g_ke)) (e_sta : f sta = .inl (E.2.1, 16, .inl g_sta)) (e_mo : f mo = .inl (E.2.1, 16, .inl g_mo)) (e_ky : f ky = .inl (E.1, KN, .inl g_ky)) (f_tw : by8 g_tw) (f_ke : by8 g_ke) (f_sta : by8 g_sta) (f_mo : by8 g_mo) (f_ky : fB g_ky) (ap_tw_ke : tw ≠ ke) (ap_tw_sta : tw ≠ sta) (ap_tw_mo : tw ≠ mo) (ap_tw_ky : tw ≠ ky) (ap_ke_sta : ke ≠ sta) (ap_ke_mo : ke ≠ mo) (ap_ke_ky : ke ≠ ky) (ap_sta_mo : sta ≠ mo) (ap_sta_ky : sta ≠ ky) (ap_mo_ky : mo ≠ ky) (hh0 : rd ≤ 14) (hh1 : fr + 16 ≤ KN) (hh2 : KN < 100000) : Met l y_Ae_encrypt (k_Ae_encrypt :: lw_tg) (kRm 1 26 0 (0)) (va_Pc [.ref o, .ref ky, .int (nI fr)] (kPre D E T L f sz)) (va_Qv (fun (u : cU) => u.1 = L ∧ (∀ x, x ≠ sta → x ≠ mo → x ≠ ky → u.2 x = f x) ∧ ∃ (k_sta k_mo k_ky : Nat → Int32), by8 k_sta ∧ by8 k_mo ∧ fB k_ky ∧ u.2 sta = .inl (E.2.1, 16, .inl k_sta) ∧ u.2 mo = .inl (E.2.1, 16, .inl k_mo) ∧ u.2 ky = .inl (E.1, KN, .inl k_ky)) (cPost D E (pA L sz)) (pA L sz)) 0 (0) (pA L sz) := by
  refine k_enter (own := R_Ae) (by decide) rfl (Nat.le_of_ble_eq_true rfl) (fun p e s m below meth c ls AV QQ H locs hQQ X Y hA hin hr hlk hml hl KS KR => ?_)
  have hl : lv_has ls 5 [(0, .ref o), (1, .ref ky), (2, .int (nI fr))] := hl
  refine lv_iload_n X.1 X.2.1 d_Ae_encrypt_0 rfl (lv_at hl 2 rfl) ?_
  refine lv_if_lt (tgt := 13) X.1 X.2.1 d_Ae_encrypt_1 (by decide) (fun c1 => absurd c1 ?_) (fun c1 => ?_)
  · (rw [← nI_0, nI_ltI (by omega) (by omega)] <;> omega)
  rw [← nI_0] at c1
  rw [nI_ltI (by omega) (by omega)] at c1
  refine lv_iload_n X.1 X.2.1 d_Ae_encrypt_4 rfl (lv_at hl 2 rfl) ?_
  refine lv_aload_n X.1 X.2.1 d_Ae_encrypt_5 rfl (lv_at hl 1 rfl) ?_
  refine q_alen X.1 X.2.1 X.2.2.2.2 Y 0 m_ky e_ky rfl (v := nI (KN)) rfl d_Ae_encrypt_6 ?_
  refine lv_bipush (v := (nI 16)) X.1 X.2.1 d_Ae_encrypt_7 (by decide) ?_
  refine lv_isub X.1 X.2.1 d_Ae_encrypt_9 ?_
  refine t_eq (y := nI (KN - (16))) (pk_sub (by omega)) ?_
  refine lv_icmp_le (tgt := 14) X.1 X.2.1 d_Ae_encrypt_10 (by decide) (fun c2 => ?_) (fun c2 => absurd ?_ c2)
  rotate_left
  · (rw [nI_leI (by omega) (by omega)] <;> omega)
  rw [nI_leI (by omega) (by omega)] at c2
  refine lv_iconst (v := (nI 0)) X.1 X.2.1 d_Ae_encrypt_14 (by decide) ?_
  refine lv_istore_n (lv' := [(3, .int (nI 0)), (0, .ref o), (1, .ref ky), (2, .int (nI fr))]) X.1 X.2.1 d_Ae_encrypt_15 rfl hl (by decide) rfl (fun ls hl => ?_)
  have lp3 : ∀ (n4 i : Nat) (g12 : Nat → Int32) (f6 : pF) (H : Heap) (locs : List Loc) (ls : Array Slot), 16 - i = n4 → (i ≤ 16) → by8 g12 → f6 o = .inr (1, [.ref un, .ref tw, .ref ke, .int (nI rd), .ref sta, .ref mo, .ref kp]) → f6 tw = .inl (E.2.1, 256, .inl g_tw) → f6 ke = .inl (E.2.1, 240, .inl g_ke) → f6 sta = .inl (E.2.1, 16, .inl g12) → f6 mo = .inl (E.2.1, 16, .inl g_mo) → f6 ky = .inl (E.1, KN, .inl g_ky) → (∀ x, x ≠ sta → x ≠ mo → x ≠ ky → f6 x = f x) → pH D cCl (pA L sz) s.heap L f6 H locs → lv_has ls 5 [(3, .int (nI i)), (0, .ref o), (1, .ref ky), (2, .int (nI fr))] → W p l e (kRm 1 26 0 (0)) s m AV below meth c H locs 0 0 QQ (F0 m 16 ls []) := by
    intro n4
    induction n4 with
    | zero =>
      intro i g12 f6 H locs ls hm17 hc16 hg13 e8 e9 e10 e11 e14 e15 hF7 Y hl
      refine lv_iload_n X.1 X.2.1 d_Ae_encrypt_16 rfl (lv_at hl 0 rfl) ?_
      refine lv_bipush (v := (nI 16)) X.1 X.2.1 d_Ae_encrypt_17 (by decide) ?_
      refine lv_icmp_ge (tgt := 50) X.1 X.2.1 d_Ae_encrypt_19 (by decide) (fun c18 => ?_) (fun c18 => absurd ?_ c18)
      rotate_left
      · (rw [nI_leI (by omega) (by omega)] <;> omega)
      rw [nI_leI (by omega) (by omega)] at c18
      refine lv_iconst (v := (nI 1)) X.1 X.2.1 d_Ae_encrypt_50 (by decide) ?_
      refine lv_istore_n (lv' := [(3, .int (nI 1)), (0, .ref o), (1, .ref ky), (2, .int (nI fr))]) X.1 X.2.1 d_Ae_encrypt_51 rfl hl (by decide) rfl (fun ls hl => ?_)
      have lp19 : ∀ (n20 rr : Nat) (g28 : Nat → Int32) (g31 : Nat → Int32) (f22 : pF) (H : Heap) (locs : List Loc) (ls : Array Slot), rd + 1 - rr = n20 → (1 ≤ rr) → (rr ≤ rd + 1) → by8 g28 → by8 g31 → f22 o = .inr (1, [.ref un, .ref tw, .ref ke, .int (nI rd), .ref sta, .ref mo, .ref kp]) → f22 tw = .inl (E.2.1, 256, .inl g_tw) → f22 ke = .inl (E.2.1, 240, .inl g_ke) → f22 sta = .inl (E.2.1, 16, .inl g28) → f22 mo = .inl (E.2.1, 16, .inl g31) → f22 ky = .inl (E.1, KN, .inl g_ky) → (∀ x, x ≠ sta → x ≠ mo → x ≠ ky → f22 x = f x) → pH D cCl (pA L sz) s.heap L f22 H locs → lv_has ls 5 [(3, .int (nI rr)), (0, .ref o), (1, .ref ky), (2, .int (nI fr))] → W p l e (kRm 1 26 0 (0)) s m AV below meth c H locs 0 0 QQ (F0 m 52 ls []) := by
        intro n20
        induction n20 with
        | zero =>
          intro rr g28 g31 f22 H locs ls hm36 hc34 hc35 hg29 hg32 e24 e25 e26 e27 e30 e33 hF23 Y hl
          refine lv_iload_n X.1 X.2.1 d_Ae_encrypt_52 rfl (lv_at hl 0 rfl) ?_
          refine lv_aload_n X.1 X.2.1 d_Ae_encrypt_53 rfl (lv_at hl 1 rfl) ?_
          refine q_get X.1 X.2.1 X.2.2.1 i_Ae X.2.2.2.1 X.2.2.2.2 Y m_o e24 rfl 3 (by decide) (X.2.2.1 _ lk_Ae_32) (fun _ h9 => h9) rfl d_Ae_encrypt_54 ?_
          refine lv_icmp_gt (tgt := 165) X.1 X.2.1 d_Ae_encrypt_57 (by decide) (fun c37 => ?_) (fun c37 => absurd ?_ c37)
          rotate_left
          · (rw [nI_ltI (by omega) (by omega)] <;> omega)
          rw [nI_ltI (by omega) (by omega)] at c37
          refine lv_iconst (v := (nI 0)) X.1 X.2.1 d_Ae_encrypt_165 (by decide) ?_
          refine lv_istore_n (lv' := [(3, .int (nI 0)), (0, .ref o), (1, .ref ky), (2, .int (nI fr))]) X.1 X.2.1 d_Ae_encrypt_166 rfl hl (by decide) rfl (fun ls hl => ?_)
          have lp38 : ∀ (n39 i : Nat) (g49 : Nat → Int32) (f41 : pF) (H : Heap) (locs : List Loc) (ls : Array Slot), 16 - i = n39 → (i ≤ 16) → fB g49 → f41 o = .inr (1, [.ref un, .ref tw, .ref ke, .int (nI rd), .ref sta, .ref mo, .ref kp]) → f41 tw = .inl (E.2.1, 256, .inl g_tw) → f41 ke = .inl (E.2.1, 240, .inl g_ke) → f41 sta = .inl (E.2.1, 16, .inl g28) → f41 mo = .inl (E.2.1, 16, .inl g31) → f41 ky = .inl (E.1, KN, .inl g49) → (∀ x, x ≠ sta → x ≠ mo → x ≠ ky → f41 x = f x) → pH D cCl (pA L sz) s.heap L f41 H locs → lv_has ls 5 [(3, .int (nI i)), (0, .ref o), (1, .ref ky), (2, .int (nI fr))] → W p l e (kRm 1 26 0 (0)) s m AV below meth c H locs 0 0 QQ (F0 m 167 ls []) := by
            intro n39
            induction n39 with
            | zero =>
              intro i g49 f41 H locs ls hm52 hc51 hg50 e43 e44 e45 e46 e47 e48 hF42 Y hl
              refine lv_iload_n X.1 X.2.1 d_Ae_encrypt_167 rfl (lv_at hl 0 rfl) ?_
              refine lv_bipush (v := (nI 16)) X.1 X.2.1 d_Ae_encrypt_168 (by decide) ?_
              refine lv_icmp_ge (tgt := 191) X.1 X.2.1 d_Ae_encrypt_170 (by decide) (fun c53 => ?_) (fun c53 => absurd ?_ c53)
              rotate_left
              · (rw [nI_leI (by omega) (by omega)] <;> omega)
              rw [nI_leI (by omega) (by omega)] at c53
              exact c_retv hQQ X Y hr hlk ⟨rfl, hF42, g28, g31, g49, hg29, hg32, hg50, e46, e47, e48⟩ d_Ae_encrypt_191
            | succ n39 ih40 =>
              intro i g49 f41 H locs ls hm52 hc51 hg50 e43 e44 e45 e46 e47 e48 hF42 Y hl
              refine lv_iload_n X.1 X.2.1 d_Ae_encrypt_167 rfl (lv_at hl 0 rfl) ?_
              refine lv_bipush (v := (nI 16)) X.1 X.2.1 d_Ae_encrypt_168 (by decide) ?_
              refine lv_icmp_ge (tgt := 191) X.1 X.2.1 d_Ae_encrypt_170 (by decide) (fun c54 => absurd c54 ?_) (fun c54 => ?_)
              · (rw [nI_leI (by omega) (by omega)] <;> omega)
              rw [nI_leI (by omega) (by omega)] at c54
              refine lv_aload_n X.1 X.2.1 d_Ae_encrypt_173 rfl (lv_at hl 2 rfl) ?_
              refine lv_iload_n X.1 X.2.1 d_Ae_encrypt_174 rfl (lv_at hl 3 rfl) ?_
              refine lv_iload_n X.1 X.2.1 d_Ae_encrypt_175 rfl (lv_at hl 0 rfl) ?_
              refine lv_iadd X.1 X.2.1 d_Ae_encrypt_176 ?_
              refine t_eq (y := nI (fr + i)) (nI_add _ _) ?_
              refine lv_aload_n X.1 X.2.1 d_Ae_encrypt_177 rfl (lv_at hl 1 rfl) ?_
              refine q_get X.1 X.2.1 X.2.2.1 i_Ae X.2.2.2.1 X.2.2.2.2 Y m_o e43 rfl 4 (by decide) (X.2.2.1 _ lk_Ae_19) (fun _ h9 => h9) rfl d_Ae_encrypt_178 ?_
              refine lv_iload_n X.1 X.2.1 d_Ae_encrypt_181 rfl (lv_at hl 0 rfl) ?_
              refine q_iald X.1 X.2.1 X.2.2.2.2 Y 1 m_sta e46 rfl (vp_in_nI (by omega) (by omega)) d_Ae_encrypt_182 ?_
              obtain ⟨j55, hj55, ej55⟩ := hg29 ((nI i)).toNatClampNeg
              refine t_eq ej55 ?_
              obtain ⟨v56, ev56⟩ : ∃ z : Int32, ((nI j55) : Int32).toInt8.toInt32 = z := ⟨_, rfl⟩
              refine lv_i2b (v := v56) X.1 X.2.1 d_Ae_encrypt_183 ev56 ?_
              refine q_bast X.1 X.2.1 X.2.2.2.2 Y 0 m_ky e48 rfl (vp_in_nI (by omega) (by omega)) d_Ae_encrypt_184 (fun H locs Y => ?_)
              have hg58 : fB (upd g49 ((nI (fr + i))).toNatClampNeg (vp_nar .byte v56)) := fB_upd hg50
              generalize (upd g49 ((nI (fr + i))).toNatClampNeg (vp_nar .byte v56)) = g57 at Y hg58
              have e60 : (va_up f41 ky (.inl (E.1, KN, .inl g57))) ky = .inl (E.1, KN, .inl g57) := q_up
              have e61 : (va_up f41 ky (.inl (E.1, KN, .inl g57))) o = .inr (1, [.ref un, .ref tw, .ref ke, .int (nI rd), .ref sta, .ref mo, .ref kp]) := (q_ne (q_tag e43 e48 (show (1 : Nat) ≠ 1000 by decide))).trans e43
              have e62 : (va_up f41 ky (.inl (E.1, KN, .inl g57))) tw = .inl (E.2.1, 256, .inl g_tw) := (q_ne ap_tw_ky).trans e44
              have e63 : (va_up f41 ky (.inl (E.1, KN, .inl g57))) ke = .inl (E.2.1, 240, .inl g_ke) := (q_ne ap_ke_ky).trans e45
              have e64 : (va_up f41 ky (.inl (E.1, KN, .inl g57))) sta = .inl (E.2.1, 16, .inl g28) := (q_ne ap_sta_ky).trans e46
              have e65 : (va_up f41 ky (.inl (E.1, KN, .inl g57))) mo = .inl (E.2.1, 16, .inl g31) := (q_ne ap_mo_ky).trans e47
              have hF66 : ∀ x, x ≠ sta → x ≠ mo → x ≠ ky → (va_up f41 ky (.inl (E.1, KN, .inl g57))) x = f x := fun x h0 h1 h2 => (q_ne h2).trans (hF42 x h0 h1 h2)
              have Y : pH D cCl (pA L sz) s.heap L (va_up f41 ky (.inl (E.1, KN, .inl g57))) H locs := Y
              generalize (va_up f41 ky (.inl (E.1, KN, .inl g57))) = f59 at Y e60 e61 e62 e63 e64 e65 hF66
              refine lv_iinc (v := (nI (i + 1))) (lv' := [(3, .int (nI (i + 1))), (0, .ref o), (1, .ref ky), (2, .int (nI fr))]) X.1 X.2.1 d_Ae_encrypt_185 hl (k := 0) rfl (nI_add _ 1) (by decide) rfl (fun ls hl => ?_)
              refine lv_goto (tgt := 167) X.1 X.2.1 d_Ae_encrypt_188 (by decide) ?_
              exact ih40  (i + 1)    g57 f59 _ _ _ (by omega) (by omega) hg58 e61 e62 e63 e64 e65 e60 hF66 Y (lv_sub hl [0, 1, 2, 3] rfl)
          exact lp38 (16) (0)    g_ky f22 _ _ _ (by omega) (by omega) f_ky e24 e25 e26 e27 e30 e33 hF23 Y (lv_sub hl [0, 1, 2, 3] rfl)
        | succ n20 ih21 =>
          intro rr g28 g31 f22 H locs ls hm36 hc34 hc35 hg29 hg32 e24 e25 e26 e27 e30 e33 hF23 Y hl
          refine lv_iload_n X.1 X.2.1 d_Ae_encrypt_52 rfl (lv_at hl 0 rfl) ?_
          refine lv_aload_n X.1 X.2.1 d_Ae_encrypt_53 rfl (lv_at hl 1 rfl) ?_
          refine q_get X.1 X.2.1 X.2.2.1 i_Ae X.2.2.2.1 X.2.2.2.2 Y m_o e24 rfl 3 (by decide) (X.2.2.1 _ lk_Ae_32) (fun _ h9 => h9) rfl d_Ae_encrypt_54 ?_
          refine lv_icmp_gt (tgt := 165) X.1 X.2.1 d_Ae_encrypt_57 (by decide) (fun c67 => absurd c67 ?_) (fun c67 => ?_)
          · (rw [nI_ltI (by omega) (by omega)] <;> omega)
          rw [nI_ltI (by omega) (by omega)] at c67
          refine lv_iconst (v := (nI 0)) X.1 X.2.1 d_Ae_encrypt_60 (by decide) ?_
          refine lv_istore (lv' := [(4, .int (nI 0)), (3, .int (nI rr)), (0, .ref o), (1, .ref ky), (2, .int (nI fr))]) X.1 X.2.1 d_Ae_encrypt_61 hl (by decide) rfl (fun ls hl => ?_)
          have lp68 : ∀ (n69 i : Nat) (g78 : Nat → Int32) (f71 : pF) (H : Heap) (locs : List Loc) (ls : Array Slot), 16 - i = n69 → (i ≤ 16) → by8 g78 → f71 o = .inr (1, [.ref un, .ref tw, .ref ke, .int (nI rd), .ref sta, .ref mo, .ref kp]) → f71 tw = .inl (E.2.1, 256, .inl g_tw) → f71 ke = .inl (E.2.1, 240, .inl g_ke) → f71 sta = .inl (E.2.1, 16, .inl g28) → f71 mo = .inl (E.2.1, 16, .inl g78) → f71 ky = .inl (E.1, KN, .inl g_ky) → (∀ x, x ≠ sta → x ≠ mo → x ≠ ky → f71 x = f x) → pH D cCl (pA L sz) s.heap L f71 H locs → lv_has ls 5 [(4, .int (nI i)), (3, .int (nI rr)), (0, .ref o), (1, .ref ky), (2, .int (nI fr))] → W p l e (kRm 1 26 0 (0)) s m AV below meth c H locs 0 0 QQ (F0 m 63 ls []) := by
            intro n69
            induction n69 with
            | zero =>
              intro i g78 f71 H locs ls hm82 hc81 hg79 e73 e74 e75 e76 e77 e80 hF72 Y hl
              refine lv_iload X.1 X.2.1 d_Ae_encrypt_63 (lv_at hl 0 rfl) ?_
              refine lv_bipush (v := (nI 16)) X.1 X.2.1 d_Ae_encrypt_65 (by decide) ?_
              refine lv_icmp_ge (tgt := 104) X.1 X.2.1 d_Ae_encrypt_67 (by decide) (fun c83 => ?_) (fun c83 => absurd ?_ c83)
              rotate_left
              · (rw [nI_leI (by omega) (by omega)] <;> omega)
              rw [nI_leI (by omega) (by omega)] at c83
              refine lv_iload_n X.1 X.2.1 d_Ae_encrypt_104 rfl (lv_at hl 1 rfl) ?_
              refine lv_aload_n X.1 X.2.1 d_Ae_encrypt_105 rfl (lv_at hl 2 rfl) ?_
              refine q_get X.1 X.2.1 X.2.2.1 i_Ae X.2.2.2.1 X.2.2.2.2 Y m_o e73 rfl 3 (by decide) (X.2.2.1 _ lk_Ae_32) (fun _ h9 => h9) rfl d_Ae_encrypt_106 ?_
              refine lv_icmp_ge (tgt := 116) X.1 X.2.1 d_Ae_encrypt_109 (by decide) (fun c84 => ?_) (fun c84 => ?_)
              · skip
                rw [nI_leI (by omega) (by omega)] at c84
                refine lv_iconst (v := (nI 0)) X.1 X.2.1 d_Ae_encrypt_116 (by decide) ?_
                refine lv_istore (lv' := [(4, .int (nI 0)), (3, .int (nI rr)), (0, .ref o), (1, .ref ky), (2, .int (nI fr))]) X.1 X.2.1 d_Ae_encrypt_117 hl (by decide) rfl (fun ls hl => ?_)
                have lp85 : ∀ (n86 i : Nat) (g94 : Nat → Int32) (f88 : pF) (H : Heap) (locs : List Loc) (ls : Array Slot), 16 - i = n86 → (i ≤ 16) → by8 g94 → f88 o = .inr (1, [.ref un, .ref tw, .ref ke, .int (nI rd), .ref sta, .ref mo, .ref kp]) → f88 tw = .inl (E.2.1, 256, .inl g_tw) → f88 ke = .inl (E.2.1, 240, .inl g_ke) → f88 sta = .inl (E.2.1, 16, .inl g94) → f88 mo = .inl (E.2.1, 16, .inl g78) → f88 ky = .inl (E.1, KN, .inl g_ky) → (∀ x, x ≠ sta → x ≠ mo → x ≠ ky → f88 x = f x) → pH D cCl (pA L sz) s.heap L f88 H locs → lv_has ls 5 [(4, .int (nI i)), (3, .int (nI rr)), (0, .ref o), (1, .ref ky), (2, .int (nI fr))] → W p l e (kRm 1 26 0 (0)) s m AV below meth c H locs 0 0 QQ (F0 m 119 ls []) := by
                  intro n86
                  induction n86 with
                  | zero =>
                    intro i g94 f88 H locs ls hm99 hc98 hg95 e90 e91 e92 e93 e96 e97 hF89 Y hl
                    refine lv_iload X.1 X.2.1 d_Ae_encrypt_119 (lv_at hl 0 rfl) ?_
                    refine lv_bipush (v := (nI 16)) X.1 X.2.1 d_Ae_encrypt_121 (by decide) ?_
                    refine lv_icmp_ge (tgt := 159) X.1 X.2.1 d_Ae_encrypt_123 (by decide) (fun c100 => ?_) (fun c100 => absurd ?_ c100)
                    rotate_left
                    · (rw [nI_leI (by omega) (by omega)] <;> omega)
                    rw [nI_leI (by omega) (by omega)] at c100
                    refine lv_iinc (v := (nI (rr + 1))) (lv' := [(3, .int (nI (rr + 1))), (4, .int (nI i)), (0, .ref o), (1, .ref ky), (2, .int (nI fr))]) X.1 X.2.1 d_Ae_encrypt_159 hl (k := 1) rfl (nI_add _ 1) (by decide) rfl (fun ls hl => ?_)
                    refine lv_goto (tgt := 52) X.1 X.2.1 d_Ae_encrypt_162 (by decide) ?_
                    exact ih21  (rr + 1)    g94 g78 f88 _ _ _ (by omega) (by omega) (by omega) hg95 hg79 e90 e91 e92 e93 e96 e97 hF89 Y (lv_sub hl [0, 2, 3, 4] rfl)
                  | succ n86 ih87 =>
                    intro i g94 f88 H locs ls hm99 hc98 hg95 e90 e91 e92 e93 e96 e97 hF89 Y hl
                    refine lv_iload X.1 X.2.1 d_Ae_encrypt_119 (lv_at hl 0 rfl) ?_
                    refine lv_bipush (v := (nI 16)) X.1 X.2.1 d_Ae_encrypt_121 (by decide) ?_
                    refine lv_icmp_ge (tgt := 159) X.1 X.2.1 d_Ae_encrypt_123 (by decide) (fun c101 => absurd c101 ?_) (fun c101 => ?_)
                    · (rw [nI_leI (by omega) (by omega)] <;> omega)
                    rw [nI_leI (by omega) (by omega)] at c101
                    refine lv_aload_n X.1 X.2.1 d_Ae_encrypt_126 rfl (lv_at hl 2 rfl) ?_
                    refine q_get X.1 X.2.1 X.2.2.1 i_Ae X.2.2.2.1 X.2.2.2.2 Y m_o e90 rfl 4 (by decide) (X.2.2.1 _ lk_Ae_19) (fun _ h9 => h9) rfl d_Ae_encrypt_127 ?_
                    refine lv_iload X.1 X.2.1 d_Ae_encrypt_130 (lv_at hl 0 rfl) ?_
                    refine lv_aload_n X.1 X.2.1 d_Ae_encrypt_132 rfl (lv_at hl 2 rfl) ?_
                    refine q_get X.1 X.2.1 X.2.2.1 i_Ae X.2.2.2.1 X.2.2.2.2 Y m_o e90 rfl 5 (by decide) (X.2.2.1 _ lk_Ae_22) (fun _ h9 => h9) rfl d_Ae_encrypt_133 ?_
                    refine lv_iload X.1 X.2.1 d_Ae_encrypt_136 (lv_at hl 0 rfl) ?_
                    refine q_iald X.1 X.2.1 X.2.2.2.2 Y 1 m_mo e96 rfl (vp_in_nI (by omega) (by omega)) d_Ae_encrypt_138 ?_
                    obtain ⟨j102, hj102, ej102⟩ := hg79 ((nI i)).toNatClampNeg
                    refine t_eq ej102 ?_
                    refine lv_aload_n X.1 X.2.1 d_Ae_encrypt_139 rfl (lv_at hl 2 rfl) ?_
                    refine q_get X.1 X.2.1 X.2.2.1 i_Ae X.2.2.2.1 X.2.2.2.2 Y m_o e90 rfl 2 (by decide) (X.2.2.1 _ lk_Ae_16) (fun _ h9 => h9) rfl d_Ae_encrypt_140 ?_
                    refine lv_bipush (v := (nI 16)) X.1 X.2.1 d_Ae_encrypt_143 (by decide) ?_
                    refine lv_iload_n X.1 X.2.1 d_Ae_encrypt_145 rfl (lv_at hl 1 rfl) ?_
                    refine lv_imul X.1 X.2.1 d_Ae_encrypt_146 ?_
                    refine t_eq (y := nI ((16) * (rr))) (pk_mul _ _) ?_
                    refine lv_iload X.1 X.2.1 d_Ae_encrypt_147 (lv_at hl 0 rfl) ?_
                    refine lv_iadd X.1 X.2.1 d_Ae_encrypt_149 ?_
                    refine t_eq (y := nI ((16) * (rr) + i)) (nI_add _ _) ?_
                    refine q_iald X.1 X.2.1 X.2.2.2.2 Y 1 m_ke e92 rfl (vp_in_nI (by omega) (by omega)) d_Ae_encrypt_150 ?_
                    obtain ⟨j103, hj103, ej103⟩ := f_ke ((nI ((16) * (rr) + i))).toNatClampNeg
                    refine t_eq ej103 ?_
                    refine lv_ixor X.1 X.2.1 d_Ae_encrypt_151 ?_
                    obtain ⟨j104, hj104, ej104⟩ := by_ixor (a := j102) (b := j103) (by omega) (by omega)
                    refine t_eq ej104 ?_
                    refine q_iast X.1 X.2.1 X.2.2.2.2 Y 1 m_sta e93 rfl (vp_in_nI (by omega) (by omega)) d_Ae_encrypt_152 (fun H locs Y => ?_)
                    have hg106 : by8 (upd g94 ((nI i)).toNatClampNeg (nI j104)) := by8_upd hg95 (show j104 < 256 by omega)
                    generalize (upd g94 ((nI i)).toNatClampNeg (nI j104)) = g105 at Y hg106
                    have e108 : (va_up f88 sta (.inl (E.2.1, 16, .inl g105))) sta = .inl (E.2.1, 16, .inl g105) := q_up
                    have e109 : (va_up f88 sta (.inl (E.2.1, 16, .inl g105))) o = .inr (1, [.ref un, .ref tw, .ref ke, .int (nI rd), .ref sta, .ref mo, .ref kp]) := (q_ne (q_tag e90 e93 (show (1 : Nat) ≠ 1000 by decide))).trans e90
                    have e110 : (va_up f88 sta (.inl (E.2.1, 16, .inl g105))) tw = .inl (E.2.1, 256, .inl g_tw) := (q_ne ap_tw_sta).trans e91
                    have e111 : (va_up f88 sta (.inl (E.2.1, 16, .inl g105))) ke = .inl (E.2.1, 240, .inl g_ke) := (q_ne ap_ke_sta).trans e92
                    have e112 : (va_up f88 sta (.inl (E.2.1, 16, .inl g105))) mo = .inl (E.2.1, 16, .inl g78) := (q_ne ap_sta_mo.symm).trans e96
                    have e113 : (va_up f88 sta (.inl (E.2.1, 16, .inl g105))) ky = .inl (E.1, KN, .inl g_ky) := (q_ne ap_sta_ky.symm).trans e97
                    have hF114 : ∀ x, x ≠ sta → x ≠ mo → x ≠ ky → (va_up f88 sta (.inl (E.2.1, 16, .inl g105))) x = f x := fun x h0 h1 h2 => (q_ne h0).trans (hF89 x h0 h1 h2)
                    have Y : pH D cCl (pA L sz) s.heap L (va_up f88 sta (.inl (E.2.1, 16, .inl g105))) H locs := Y
                    generalize (va_up f88 sta (.inl (E.2.1, 16, .inl g105))) = f107 at Y e108 e109 e110 e111 e112 e113 hF114
                    refine lv_iinc (v := (nI (i + 1))) (lv' := [(4, .int (nI (i + 1))), (3, .int (nI rr)), (0, .ref o), (1, .ref ky), (2, .int (nI fr))]) X.1 X.2.1 d_Ae_encrypt_153 hl (k := 0) rfl (nI_add _ 1) (by decide) rfl (fun ls hl => ?_)
                    refine lv_goto (tgt := 119) X.1 X.2.1 d_Ae_encrypt_156 (by decide) ?_
                    exact ih87  (i + 1)    g105 f107 _ _ _ (by omega) (by omega) hg106 e109 e110 e111 e108 e112 e113 hF114 Y (lv_sub hl [0, 1, 2, 3, 4] rfl)
                exact lp85 (16) (0)    g28 f71 _ _ _ (by omega) (by omega) hg29 e73 e74 e75 e76 e77 e80 hF72 Y (lv_sub hl [0, 1, 2, 3, 4] rfl)
              · skip
                rw [nI_leI (by omega) (by omega)] at c84
                refine lv_aload_n X.1 X.2.1 d_Ae_encrypt_112 rfl (lv_at hl 2 rfl) ?_
                refine x_v (x_runV (As := []) (rest := []) (n := 0) X Y hml hl.1 (c_Ae_mix l D E T L f71 H.size o tw ke sta mo un kp (rd) g_tw g_ke g28 g78 m_o m_tw m_ke m_sta m_mo e73 e74 e75 e76 e77 f_tw f_ke hg29 hg79 ap_tw_ke ap_tw_sta ap_tw_mo ap_ke_sta ap_ke_mo ap_sta_mo) (ok_k X Y hA KS KR) m_o e73 rfl kl_Ae_Ae_mix ks_Ae_mix kx_Ae_mix ki_Ae_mix ini_Ae ⟨rfl, rfl⟩ hd_Ae_mix ⟨by decide, by decide⟩ rfl (Nat.le_of_ble_eq_true rfl) d_Ae_encrypt_113 ⟨(show 0 + 0 ≤ 0 by omega), (show 0 + (0) ≤ (0) by omega)⟩) X Y hA (fun u H locs hp Y => ?_)
                obtain ⟨L117, f116⟩ := u
                obtain ⟨eL119, hF118, g121, hg122, e123⟩ := hp
                dsimp only at eL119 hF118 e123 Y
                rw [eL119] at Y
                have e124 : f116 o = .inr (1, [.ref un, .ref tw, .ref ke, .int (nI rd), .ref sta, .ref mo, .ref kp]) := (hF118 o (q_tag e73 e77 (show (1 : Nat) ≠ 1000 by decide))).trans e73
                have e125 : f116 tw = .inl (E.2.1, 256, .inl g_tw) := (hF118 tw ap_tw_mo).trans e74
                have e126 : f116 ke = .inl (E.2.1, 240, .inl g_ke) := (hF118 ke ap_ke_mo).trans e75
                have e127 : f116 sta = .inl (E.2.1, 16, .inl g28) := (hF118 sta ap_sta_mo).trans e76
                have e128 : f116 ky = .inl (E.1, KN, .inl g_ky) := (hF118 ky ap_mo_ky.symm).trans e80
                have hF129 : ∀ x, x ≠ sta → x ≠ mo → x ≠ ky → f116 x = f x := fun x h0 h1 h2 => (hF118 x h1).trans (hF72 x h0 h1 h2)
                refine lv_iconst (v := (nI 0)) X.1 X.2.1 d_Ae_encrypt_116 (by decide) ?_
                refine lv_istore (lv' := [(4, .int (nI 0)), (3, .int (nI rr)), (0, .ref o), (1, .ref ky), (2, .int (nI fr))]) X.1 X.2.1 d_Ae_encrypt_117 hl (by decide) rfl (fun ls hl => ?_)
                have lp130 : ∀ (n131 i : Nat) (g139 : Nat → Int32) (f133 : pF) (H : Heap) (locs : List Loc) (ls : Array Slot), 16 - i = n131 → (i ≤ 16) → by8 g139 → f133 o = .inr (1, [.ref un, .ref tw, .ref ke, .int (nI rd), .ref sta, .ref mo, .ref kp]) → f133 tw = .inl (E.2.1, 256, .inl g_tw) → f133 ke = .inl (E.2.1, 240, .inl g_ke) → f133 sta = .inl (E.2.1, 16, .inl g139) → f133 mo = .inl (E.2.1, 16, .inl g121) → f133 ky = .inl (E.1, KN, .inl g_ky) → (∀ x, x ≠ sta → x ≠ mo → x ≠ ky → f133 x = f x) → pH D cCl (pA L sz) s.heap L f133 H locs → lv_has ls 5 [(4, .int (nI i)), (3, .int (nI rr)), (0, .ref o), (1, .ref ky), (2, .int (nI fr))] → W p l e (kRm 1 26 0 (0)) s m AV below meth c H locs 0 0 QQ (F0 m 119 ls []) := by
                  intro n131
                  induction n131 with
                  | zero =>
                    intro i g139 f133 H locs ls hm144 hc143 hg140 e135 e136 e137 e138 e141 e142 hF134 Y hl
                    refine lv_iload X.1 X.2.1 d_Ae_encrypt_119 (lv_at hl 0 rfl) ?_
                    refine lv_bipush (v := (nI 16)) X.1 X.2.1 d_Ae_encrypt_121 (by decide) ?_
                    refine lv_icmp_ge (tgt := 159) X.1 X.2.1 d_Ae_encrypt_123 (by decide) (fun c145 => ?_) (fun c145 => absurd ?_ c145)
                    rotate_left
                    · (rw [nI_leI (by omega) (by omega)] <;> omega)
                    rw [nI_leI (by omega) (by omega)] at c145
                    refine lv_iinc (v := (nI (rr + 1))) (lv' := [(3, .int (nI (rr + 1))), (4, .int (nI i)), (0, .ref o), (1, .ref ky), (2, .int (nI fr))]) X.1 X.2.1 d_Ae_encrypt_159 hl (k := 1) rfl (nI_add _ 1) (by decide) rfl (fun ls hl => ?_)
                    refine lv_goto (tgt := 52) X.1 X.2.1 d_Ae_encrypt_162 (by decide) ?_
                    exact ih21  (rr + 1)    g139 g121 f133 _ _ _ (by omega) (by omega) (by omega) hg140 hg122 e135 e136 e137 e138 e141 e142 hF134 Y (lv_sub hl [0, 2, 3, 4] rfl)
                  | succ n131 ih132 =>
                    intro i g139 f133 H locs ls hm144 hc143 hg140 e135 e136 e137 e138 e141 e142 hF134 Y hl
                    refine lv_iload X.1 X.2.1 d_Ae_encrypt_119 (lv_at hl 0 rfl) ?_
                    refine lv_bipush (v := (nI 16)) X.1 X.2.1 d_Ae_encrypt_121 (by decide) ?_
                    refine lv_icmp_ge (tgt := 159) X.1 X.2.1 d_Ae_encrypt_123 (by decide) (fun c146 => absurd c146 ?_) (fun c146 => ?_)
                    · (rw [nI_leI (by omega) (by omega)] <;> omega)
                    rw [nI_leI (by omega) (by omega)] at c146
                    refine lv_aload_n X.1 X.2.1 d_Ae_encrypt_126 rfl (lv_at hl 2 rfl) ?_
                    refine q_get X.1 X.2.1 X.2.2.1 i_Ae X.2.2.2.1 X.2.2.2.2 Y m_o e135 rfl 4 (by decide) (X.2.2.1 _ lk_Ae_19) (fun _ h9 => h9) rfl d_Ae_encrypt_127 ?_
                    refine lv_iload X.1 X.2.1 d_Ae_encrypt_130 (lv_at hl 0 rfl) ?_
                    refine lv_aload_n X.1 X.2.1 d_Ae_encrypt_132 rfl (lv_at hl 2 rfl) ?_
                    refine q_get X.1 X.2.1 X.2.2.1 i_Ae X.2.2.2.1 X.2.2.2.2 Y m_o e135 rfl 5 (by decide) (X.2.2.1 _ lk_Ae_22) (fun _ h9 => h9) rfl d_Ae_encrypt_133 ?_
                    refine lv_iload X.1 X.2.1 d_Ae_encrypt_136 (lv_at hl 0 rfl) ?_
                    refine q_iald X.1 X.2.1 X.2.2.2.2 Y 1 m_mo e141 rfl (vp_in_nI (by omega) (by omega)) d_Ae_encrypt_138 ?_
                    obtain ⟨j147, hj147, ej147⟩ := hg122 ((nI i)).toNatClampNeg
                    refine t_eq ej147 ?_
                    refine lv_aload_n X.1 X.2.1 d_Ae_encrypt_139 rfl (lv_at hl 2 rfl) ?_
                    refine q_get X.1 X.2.1 X.2.2.1 i_Ae X.2.2.2.1 X.2.2.2.2 Y m_o e135 rfl 2 (by decide) (X.2.2.1 _ lk_Ae_16) (fun _ h9 => h9) rfl d_Ae_encrypt_140 ?_
                    refine lv_bipush (v := (nI 16)) X.1 X.2.1 d_Ae_encrypt_143 (by decide) ?_
                    refine lv_iload_n X.1 X.2.1 d_Ae_encrypt_145 rfl (lv_at hl 1 rfl) ?_
                    refine lv_imul X.1 X.2.1 d_Ae_encrypt_146 ?_
                    refine t_eq (y := nI ((16) * (rr))) (pk_mul _ _) ?_
                    refine lv_iload X.1 X.2.1 d_Ae_encrypt_147 (lv_at hl 0 rfl) ?_
                    refine lv_iadd X.1 X.2.1 d_Ae_encrypt_149 ?_
                    refine t_eq (y := nI ((16) * (rr) + i)) (nI_add _ _) ?_
                    refine q_iald X.1 X.2.1 X.2.2.2.2 Y 1 m_ke e137 rfl (vp_in_nI (by omega) (by omega)) d_Ae_encrypt_150 ?_
                    obtain ⟨j148, hj148, ej148⟩ := f_ke ((nI ((16) * (rr) + i))).toNatClampNeg
                    refine t_eq ej148 ?_
                    refine lv_ixor X.1 X.2.1 d_Ae_encrypt_151 ?_
                    obtain ⟨j149, hj149, ej149⟩ := by_ixor (a := j147) (b := j148) (by omega) (by omega)
                    refine t_eq ej149 ?_
                    refine q_iast X.1 X.2.1 X.2.2.2.2 Y 1 m_sta e138 rfl (vp_in_nI (by omega) (by omega)) d_Ae_encrypt_152 (fun H locs Y => ?_)
                    have hg151 : by8 (upd g139 ((nI i)).toNatClampNeg (nI j149)) := by8_upd hg140 (show j149 < 256 by omega)
                    generalize (upd g139 ((nI i)).toNatClampNeg (nI j149)) = g150 at Y hg151
                    have e153 : (va_up f133 sta (.inl (E.2.1, 16, .inl g150))) sta = .inl (E.2.1, 16, .inl g150) := q_up
                    have e154 : (va_up f133 sta (.inl (E.2.1, 16, .inl g150))) o = .inr (1, [.ref un, .ref tw, .ref ke, .int (nI rd), .ref sta, .ref mo, .ref kp]) := (q_ne (q_tag e135 e138 (show (1 : Nat) ≠ 1000 by decide))).trans e135
                    have e155 : (va_up f133 sta (.inl (E.2.1, 16, .inl g150))) tw = .inl (E.2.1, 256, .inl g_tw) := (q_ne ap_tw_sta).trans e136
                    have e156 : (va_up f133 sta (.inl (E.2.1, 16, .inl g150))) ke = .inl (E.2.1, 240, .inl g_ke) := (q_ne ap_ke_sta).trans e137
                    have e157 : (va_up f133 sta (.inl (E.2.1, 16, .inl g150))) mo = .inl (E.2.1, 16, .inl g121) := (q_ne ap_sta_mo.symm).trans e141
                    have e158 : (va_up f133 sta (.inl (E.2.1, 16, .inl g150))) ky = .inl (E.1, KN, .inl g_ky) := (q_ne ap_sta_ky.symm).trans e142
                    have hF159 : ∀ x, x ≠ sta → x ≠ mo → x ≠ ky → (va_up f133 sta (.inl (E.2.1, 16, .inl g150))) x = f x := fun x h0 h1 h2 => (q_ne h0).trans (hF134 x h0 h1 h2)
                    have Y : pH D cCl (pA L sz) s.heap L (va_up f133 sta (.inl (E.2.1, 16, .inl g150))) H locs := Y
                    generalize (va_up f133 sta (.inl (E.2.1, 16, .inl g150))) = f152 at Y e153 e154 e155 e156 e157 e158 hF159
                    refine lv_iinc (v := (nI (i + 1))) (lv' := [(4, .int (nI (i + 1))), (3, .int (nI rr)), (0, .ref o), (1, .ref ky), (2, .int (nI fr))]) X.1 X.2.1 d_Ae_encrypt_153 hl (k := 0) rfl (nI_add _ 1) (by decide) rfl (fun ls hl => ?_)
                    refine lv_goto (tgt := 119) X.1 X.2.1 d_Ae_encrypt_156 (by decide) ?_
                    exact ih132  (i + 1)    g150 f152 _ _ _ (by omega) (by omega) hg151 e154 e155 e156 e153 e157 e158 hF159 Y (lv_sub hl [0, 1, 2, 3, 4] rfl)
                exact lp130 (16) (0)    g28 f116 _ _ _ (by omega) (by omega) hg29 e124 e125 e126 e127 e123 e128 hF129 Y (lv_sub hl [0, 1, 2, 3, 4] rfl)
            | succ n69 ih70 =>
              intro i g78 f71 H locs ls hm82 hc81 hg79 e73 e74 e75 e76 e77 e80 hF72 Y hl
              refine lv_iload X.1 X.2.1 d_Ae_encrypt_63 (lv_at hl 0 rfl) ?_
              refine lv_bipush (v := (nI 16)) X.1 X.2.1 d_Ae_encrypt_65 (by decide) ?_
              refine lv_icmp_ge (tgt := 104) X.1 X.2.1 d_Ae_encrypt_67 (by decide) (fun c160 => absurd c160 ?_) (fun c160 => ?_)
              · (rw [nI_leI (by omega) (by omega)] <;> omega)
              rw [nI_leI (by omega) (by omega)] at c160
              refine lv_aload_n X.1 X.2.1 d_Ae_encrypt_70 rfl (lv_at hl 2 rfl) ?_
              refine q_get X.1 X.2.1 X.2.2.1 i_Ae X.2.2.2.1 X.2.2.2.2 Y m_o e73 rfl 5 (by decide) (X.2.2.1 _ lk_Ae_22) (fun _ h9 => h9) rfl d_Ae_encrypt_71 ?_
              refine lv_iload X.1 X.2.1 d_Ae_encrypt_74 (lv_at hl 0 rfl) ?_
              refine k_gets 1 (by decide) X Y KS sk_Ae_29 d_Ae_encrypt_76 ?_
              refine lv_aload_n X.1 X.2.1 d_Ae_encrypt_79 rfl (lv_at hl 2 rfl) ?_
              refine q_get X.1 X.2.1 X.2.2.1 i_Ae X.2.2.2.1 X.2.2.2.2 Y m_o e73 rfl 4 (by decide) (X.2.2.1 _ lk_Ae_19) (fun _ h9 => h9) rfl d_Ae_encrypt_80 ?_
              refine lv_iload X.1 X.2.1 d_Ae_encrypt_83 (lv_at hl 0 rfl) ?_
              refine lv_iconst (v := (nI 4)) X.1 X.2.1 d_Ae_encrypt_85 (by decide) ?_
              refine lv_iload X.1 X.2.1 d_Ae_encrypt_86 (lv_at hl 0 rfl) ?_
              refine lv_iconst (v := (nI 3)) X.1 X.2.1 d_Ae_encrypt_88 (by decide) ?_
              refine lv_iand X.1 X.2.1 d_Ae_encrypt_89 ?_
              obtain ⟨j161, hj161, ej161⟩ := pk_andE (nI i) (m := nI 3) 2 (by decide)
              refine t_eq ej161 ?_
              have hj161 : j161 < 4 := hj161
              refine lv_imul X.1 X.2.1 d_Ae_encrypt_90 ?_
              refine t_eq (y := nI ((4) * (j161))) (pk_mul _ _) ?_
              refine lv_iadd X.1 X.2.1 d_Ae_encrypt_91 ?_
              refine t_eq (y := nI (i + (4) * (j161))) (nI_add _ _) ?_
              refine lv_bipush (v := (nI 15)) X.1 X.2.1 d_Ae_encrypt_92 (by decide) ?_
              refine lv_iand X.1 X.2.1 d_Ae_encrypt_94 ?_
              obtain ⟨j162, hj162, ej162⟩ := pk_andE (nI (i + (4) * (j161))) (m := nI 15) 4 (by decide)
              refine t_eq ej162 ?_
              have hj162 : j162 < 16 := hj162
              refine q_iald X.1 X.2.1 X.2.2.2.2 Y 1 m_sta e76 rfl (vp_in_nI (by omega) (by omega)) d_Ae_encrypt_95 ?_
              obtain ⟨j163, hj163, ej163⟩ := hg29 ((nI j162)).toNatClampNeg
              refine t_eq ej163 ?_
              refine k_iald 1 (by decide) rfl X Y KS (vp_in_nI (show j163 < sL 1 by first | decide | exact (by omega : j163 < 256)) (by decide)) d_Ae_encrypt_96 ?_
              obtain ⟨j164, hj164, ej164⟩ := sBOX_lt ((nI j163)).toNatClampNeg
              refine t_eq ej164 ?_
              refine q_iast X.1 X.2.1 X.2.2.2.2 Y 1 m_mo e77 rfl (vp_in_nI (by omega) (by omega)) d_Ae_encrypt_97 (fun H locs Y => ?_)
              have hg166 : by8 (upd g78 ((nI i)).toNatClampNeg (nI j164)) := by8_upd hg79 (show j164 < 256 by omega)
              generalize (upd g78 ((nI i)).toNatClampNeg (nI j164)) = g165 at Y hg166
              have e168 : (va_up f71 mo (.inl (E.2.1, 16, .inl g165))) mo = .inl (E.2.1, 16, .inl g165) := q_up
              have e169 : (va_up f71 mo (.inl (E.2.1, 16, .inl g165))) o = .inr (1, [.ref un, .ref tw, .ref ke, .int (nI rd), .ref sta, .ref mo, .ref kp]) := (q_ne (q_tag e73 e77 (show (1 : Nat) ≠ 1000 by decide))).trans e73
              have e170 : (va_up f71 mo (.inl (E.2.1, 16, .inl g165))) tw = .inl (E.2.1, 256, .inl g_tw) := (q_ne ap_tw_mo).trans e74
              have e171 : (va_up f71 mo (.inl (E.2.1, 16, .inl g165))) ke = .inl (E.2.1, 240, .inl g_ke) := (q_ne ap_ke_mo).trans e75
              have e172 : (va_up f71 mo (.inl (E.2.1, 16, .inl g165))) sta = .inl (E.2.1, 16, .inl g28) := (q_ne ap_sta_mo).trans e76
              have e173 : (va_up f71 mo (.inl (E.2.1, 16, .inl g165))) ky = .inl (E.1, KN, .inl g_ky) := (q_ne ap_mo_ky.symm).trans e80
              have hF174 : ∀ x, x ≠ sta → x ≠ mo → x ≠ ky → (va_up f71 mo (.inl (E.2.1, 16, .inl g165))) x = f x := fun x h0 h1 h2 => (q_ne h1).trans (hF72 x h0 h1 h2)
              have Y : pH D cCl (pA L sz) s.heap L (va_up f71 mo (.inl (E.2.1, 16, .inl g165))) H locs := Y
              generalize (va_up f71 mo (.inl (E.2.1, 16, .inl g165))) = f167 at Y e168 e169 e170 e171 e172 e173 hF174
              refine lv_iinc (v := (nI (i + 1))) (lv' := [(4, .int (nI (i + 1))), (3, .int (nI rr)), (0, .ref o), (1, .ref ky), (2, .int (nI fr))]) X.1 X.2.1 d_Ae_encrypt_98 hl (k := 0) rfl (nI_add _ 1) (by decide) rfl (fun ls hl => ?_)
              refine lv_goto (tgt := 63) X.1 X.2.1 d_Ae_encrypt_101 (by decide) ?_
              exact ih70  (i + 1)    g165 f167 _ _ _ (by omega) (by omega) hg166 e169 e170 e171 e172 e168 e173 hF174 Y (lv_sub hl [0, 1, 2, 3, 4] rfl)
          exact lp68 (16) (0)    g31 f22 _ _ _ (by omega) (by omega) hg32 e24 e25 e26 e27 e30 e33 hF23 Y (lv_sub hl [0, 1, 2, 3, 4] rfl)
      exact lp19 (rd) (1)    g12 g_mo f6 _ _ _ (by omega) (by omega) (by omega) hg13 f_mo e8 e9 e10 e11 e14 e15 hF7 Y (lv_sub hl [0, 1, 2, 3] rfl)
    | succ n4 ih5 =>
      intro i g12 f6 H locs ls hm17 hc16 hg13 e8 e9 e10 e11 e14 e15 hF7 Y hl
      refine lv_iload_n X.1 X.2.1 d_Ae_encrypt_16 rfl (lv_at hl 0 rfl) ?_
      refine lv_bipush (v := (nI 16)) X.1 X.2.1 d_Ae_encrypt_17 (by decide) ?_
      refine lv_icmp_ge (tgt := 50) X.1 X.2.1 d_Ae_encrypt_19 (by decide) (fun c175 => absurd c175 ?_) (fun c175 => ?_)
      · (rw [nI_leI (by omega) (by omega)] <;> omega)
      rw [nI_leI (by omega) (by omega)] at c175
      refine lv_aload_n X.1 X.2.1 d_Ae_encrypt_22 rfl (lv_at hl 1 rfl) ?_
      refine q_get X.1 X.2.1 X.2.2.1 i_Ae X.2.2.2.1 X.2.2.2.2 Y m_o e8 rfl 4 (by decide) (X.2.2.1 _ lk_Ae_19) (fun _ h9 => h9) rfl d_Ae_encrypt_23 ?_
      refine lv_iload_n X.1 X.2.1 d_Ae_encrypt_26 rfl (lv_at hl 0 rfl) ?_
      refine lv_aload_n X.1 X.2.1 d_Ae_encrypt_27 rfl (lv_at hl 2 rfl) ?_
      refine lv_iload_n X.1 X.2.1 d_Ae_encrypt_28 rfl (lv_at hl 3 rfl) ?_
      refine lv_iload_n X.1 X.2.1 d_Ae_encrypt_29 rfl (lv_at hl 0 rfl) ?_
      refine lv_iadd X.1 X.2.1 d_Ae_encrypt_30 ?_
      refine t_eq (y := nI (fr + i)) (nI_add _ _) ?_
      refine q_bald X.1 X.2.1 X.2.2.2.2 Y 0 m_ky e15 rfl (vp_in_nI (by omega) (by omega)) d_Ae_encrypt_31 ?_
      refine t_any (fun v176 => ?_)
      refine lv_sipush (v := (nI 255)) X.1 X.2.1 d_Ae_encrypt_32 (by decide) ?_
      refine lv_iand X.1 X.2.1 d_Ae_encrypt_35 ?_
      obtain ⟨j177, hj177, ej177⟩ := pk_andE v176 (m := nI 255) 8 (by decide)
      refine t_eq ej177 ?_
      have hj177 : j177 < 256 := hj177
      refine lv_aload_n X.1 X.2.1 d_Ae_encrypt_36 rfl (lv_at hl 1 rfl) ?_
      refine q_get X.1 X.2.1 X.2.2.1 i_Ae X.2.2.2.1 X.2.2.2.2 Y m_o e8 rfl 2 (by decide) (X.2.2.1 _ lk_Ae_16) (fun _ h9 => h9) rfl d_Ae_encrypt_37 ?_
      refine lv_iload_n X.1 X.2.1 d_Ae_encrypt_40 rfl (lv_at hl 0 rfl) ?_
      refine q_iald X.1 X.2.1 X.2.2.2.2 Y 1 m_ke e10 rfl (vp_in_nI (by omega) (by omega)) d_Ae_encrypt_41 ?_
      obtain ⟨j178, hj178, ej178⟩ := f_ke ((nI i)).toNatClampNeg
      refine t_eq ej178 ?_
      refine lv_ixor X.1 X.2.1 d_Ae_encrypt_42 ?_
      obtain ⟨j179, hj179, ej179⟩ := by_ixor (a := j177) (b := j178) (by omega) (by omega)
      refine t_eq ej179 ?_
      refine q_iast X.1 X.2.1 X.2.2.2.2 Y 1 m_sta e11 rfl (vp_in_nI (by omega) (by omega)) d_Ae_encrypt_43 (fun H locs Y => ?_)
      have hg181 : by8 (upd g12 ((nI i)).toNatClampNeg (nI j179)) := by8_upd hg13 (show j179 < 256 by omega)
      generalize (upd g12 ((nI i)).toNatClampNeg (nI j179)) = g180 at Y hg181
      have e183 : (va_up f6 sta (.inl (E.2.1, 16, .inl g180))) sta = .inl (E.2.1, 16, .inl g180) := q_up
      have e184 : (va_up f6 sta (.inl (E.2.1, 16, .inl g180))) o = .inr (1, [.ref un, .ref tw, .ref ke, .int (nI rd), .ref sta, .ref mo, .ref kp]) := (q_ne (q_tag e8 e11 (show (1 : Nat) ≠ 1000 by decide))).trans e8
      have e185 : (va_up f6 sta (.inl (E.2.1, 16, .inl g180))) tw = .inl (E.2.1, 256, .inl g_tw) := (q_ne ap_tw_sta).trans e9
      have e186 : (va_up f6 sta (.inl (E.2.1, 16, .inl g180))) ke = .inl (E.2.1, 240, .inl g_ke) := (q_ne ap_ke_sta).trans e10
      have e187 : (va_up f6 sta (.inl (E.2.1, 16, .inl g180))) mo = .inl (E.2.1, 16, .inl g_mo) := (q_ne ap_sta_mo.symm).trans e14
      have e188 : (va_up f6 sta (.inl (E.2.1, 16, .inl g180))) ky = .inl (E.1, KN, .inl g_ky) := (q_ne ap_sta_ky.symm).trans e15
      have hF189 : ∀ x, x ≠ sta → x ≠ mo → x ≠ ky → (va_up f6 sta (.inl (E.2.1, 16, .inl g180))) x = f x := fun x h0 h1 h2 => (q_ne h0).trans (hF7 x h0 h1 h2)
      have Y : pH D cCl (pA L sz) s.heap L (va_up f6 sta (.inl (E.2.1, 16, .inl g180))) H locs := Y
      generalize (va_up f6 sta (.inl (E.2.1, 16, .inl g180))) = f182 at Y e183 e184 e185 e186 e187 e188 hF189
      refine lv_iinc (v := (nI (i + 1))) (lv' := [(3, .int (nI (i + 1))), (0, .ref o), (1, .ref ky), (2, .int (nI fr))]) X.1 X.2.1 d_Ae_encrypt_44 hl (k := 0) rfl (nI_add _ 1) (by decide) rfl (fun ls hl => ?_)
      refine lv_goto (tgt := 16) X.1 X.2.1 d_Ae_encrypt_47 (by decide) ?_
      exact ih5  (i + 1)    g180 f182 _ _ _ (by omega) (by omega) hg181 e184 e185 e186 e183 e187 e188 hF189 Y (lv_sub hl [0, 1, 2, 3] rfl)
  exact lp3 (16) (0)    g_sta f _ _ _ (by omega) (by omega) f_sta e_o e_tw e_ke e_sta e_mo e_ky (fun _ _ _ _ => rfl) Y (lv_sub hl [0, 1, 2, 3] rfl)
