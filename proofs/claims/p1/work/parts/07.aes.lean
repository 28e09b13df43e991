abbrev b_makeBox : ByteArray := prog_14_method_17_code
def y_makeBox : MethodName := ⟨R_M, "makeBox", "()V"⟩
abbrev k_makeBox : Cond := .code y_makeBox b_makeBox 6 none
theorem ki_makeBox : k_makeBox ∈ lw_tg := in_t 1853 (by decide +kernel)
theorem ks_makeBox : Cond.instanceMethod y_makeBox ∈ lw_tg := in_t 1852 (by decide +kernel)
theorem kl_makeBox : Cond.methodLink R_M 392 y_makeBox ∈ lw_tg := in_t 1850 (by decide +kernel)
theorem d_makeBox_0 : decode b_makeBox 0 = .ok (.aload_n 0, 1) := by decide +kernel
theorem d_makeBox_1 : decode b_makeBox 1 = .ok (.iconst 1, 1) := by decide +kernel
theorem d_makeBox_2 : decode b_makeBox 2 = .ok (.putfield 385, 3) := by decide +kernel
theorem d_makeBox_5 : decode b_makeBox 5 = .ok (.iconst 0, 1) := by decide +kernel
theorem d_makeBox_6 : decode b_makeBox 6 = .ok (.istore_n 1, 1) := by decide +kernel
theorem d_makeBox_7 : decode b_makeBox 7 = .ok (.iload_n 1, 1) := by decide +kernel
theorem d_makeBox_8 : decode b_makeBox 8 = .ok (.sipush 256, 3) := by decide +kernel
theorem d_makeBox_11 : decode b_makeBox 11 = .ok (.if_icmp .ge 128, 3) := by decide +kernel
theorem d_makeBox_14 : decode b_makeBox 14 = .ok (.iconst 1, 1) := by decide +kernel
theorem d_makeBox_15 : decode b_makeBox 15 = .ok (.istore_n 2, 1) := by decide +kernel
theorem d_makeBox_16 : decode b_makeBox 16 = .ok (.iconst 0, 1) := by decide +kernel
theorem d_makeBox_17 : decode b_makeBox 17 = .ok (.istore_n 3, 1) := by decide +kernel
theorem d_makeBox_18 : decode b_makeBox 18 = .ok (.iload_n 3, 1) := by decide +kernel
theorem d_makeBox_19 : decode b_makeBox 19 = .ok (.sipush 254, 3) := by decide +kernel
theorem d_makeBox_22 : decode b_makeBox 22 = .ok (.if_icmp .ge 15, 3) := by decide +kernel
theorem d_makeBox_25 : decode b_makeBox 25 = .ok (.iload_n 2, 1) := by decide +kernel
theorem d_makeBox_26 : decode b_makeBox 26 = .ok (.iload_n 1, 1) := by decide +kernel
theorem d_makeBox_27 : decode b_makeBox 27 = .ok (.invokestatic 389, 3) := by decide +kernel
theorem d_makeBox_30 : decode b_makeBox 30 = .ok (.istore_n 2, 1) := by decide +kernel
theorem d_makeBox_31 : decode b_makeBox 31 = .ok (.iinc 3 1, 3) := by decide +kernel
theorem d_makeBox_34 : decode b_makeBox 34 = .ok (.goto (-16), 3) := by decide +kernel
theorem d_makeBox_37 : decode b_makeBox 37 = .ok (.iconst 0, 1) := by decide +kernel
theorem d_makeBox_38 : decode b_makeBox 38 = .ok (.istore_n 3, 1) := by decide +kernel
theorem d_makeBox_39 : decode b_makeBox 39 = .ok (.iconst 0, 1) := by decide +kernel
theorem d_makeBox_40 : decode b_makeBox 40 = .ok (.istore 4, 2) := by decide +kernel
theorem d_makeBox_42 : decode b_makeBox 42 = .ok (.iload 4, 2) := by decide +kernel
theorem d_makeBox_44 : decode b_makeBox 44 = .ok (.bipush 8, 2) := by decide +kernel
theorem d_makeBox_46 : decode b_makeBox 46 = .ok (.if_icmp .ge 73, 3) := by decide +kernel
theorem d_makeBox_49 : decode b_makeBox 49 = .ok (.iload_n 2, 1) := by decide +kernel
theorem d_makeBox_50 : decode b_makeBox 50 = .ok (.iload 4, 2) := by decide +kernel
theorem d_makeBox_52 : decode b_makeBox 52 = .ok (.ishr, 1) := by decide +kernel
theorem d_makeBox_53 : decode b_makeBox 53 = .ok (.iload_n 2, 1) := by decide +kernel
theorem d_makeBox_54 : decode b_makeBox 54 = .ok (.iload 4, 2) := by decide +kernel
theorem d_makeBox_56 : decode b_makeBox 56 = .ok (.iconst 4, 1) := by decide +kernel
theorem d_makeBox_57 : decode b_makeBox 57 = .ok (.iadd, 1) := by decide +kernel
theorem d_makeBox_58 : decode b_makeBox 58 = .ok (.bipush 8, 2) := by decide +kernel
theorem d_makeBox_60 : decode b_makeBox 60 = .ok (.irem, 1) := by decide +kernel
theorem d_makeBox_61 : decode b_makeBox 61 = .ok (.ishr, 1) := by decide +kernel
theorem d_makeBox_62 : decode b_makeBox 62 = .ok (.ixor, 1) := by decide +kernel
theorem d_makeBox_63 : decode b_makeBox 63 = .ok (.iload_n 2, 1) := by decide +kernel
theorem d_makeBox_64 : decode b_makeBox 64 = .ok (.iload 4, 2) := by decide +kernel
theorem d_makeBox_66 : decode b_makeBox 66 = .ok (.iconst 5, 1) := by decide +kernel
theorem d_makeBox_67 : decode b_makeBox 67 = .ok (.iadd, 1) := by decide +kernel
theorem d_makeBox_68 : decode b_makeBox 68 = .ok (.bipush 8, 2) := by decide +kernel
theorem d_makeBox_70 : decode b_makeBox 70 = .ok (.irem, 1) := by decide +kernel
theorem d_makeBox_71 : decode b_makeBox 71 = .ok (.ishr, 1) := by decide +kernel
theorem d_makeBox_72 : decode b_makeBox 72 = .ok (.ixor, 1) := by decide +kernel
theorem d_makeBox_73 : decode b_makeBox 73 = .ok (.iload_n 2, 1) := by decide +kernel
theorem d_makeBox_74 : decode b_makeBox 74 = .ok (.iload 4, 2) := by decide +kernel
theorem d_makeBox_76 : decode b_makeBox 76 = .ok (.bipush 6, 2) := by decide +kernel
theorem d_makeBox_78 : decode b_makeBox 78 = .ok (.iadd, 1) := by decide +kernel
theorem d_makeBox_79 : decode b_makeBox 79 = .ok (.bipush 8, 2) := by decide +kernel
theorem d_makeBox_81 : decode b_makeBox 81 = .ok (.irem, 1) := by decide +kernel
theorem d_makeBox_82 : decode b_makeBox 82 = .ok (.ishr, 1) := by decide +kernel
theorem d_makeBox_83 : decode b_makeBox 83 = .ok (.ixor, 1) := by decide +kernel
theorem d_makeBox_84 : decode b_makeBox 84 = .ok (.iload_n 2, 1) := by decide +kernel
theorem d_makeBox_85 : decode b_makeBox 85 = .ok (.iload 4, 2) := by decide +kernel
theorem d_makeBox_87 : decode b_makeBox 87 = .ok (.bipush 7, 2) := by decide +kernel
theorem d_makeBox_89 : decode b_makeBox 89 = .ok (.iadd, 1) := by decide +kernel
theorem d_makeBox_90 : decode b_makeBox 90 = .ok (.bipush 8, 2) := by decide +kernel
theorem d_makeBox_92 : decode b_makeBox 92 = .ok (.irem, 1) := by decide +kernel
theorem d_makeBox_93 : decode b_makeBox 93 = .ok (.ishr, 1) := by decide +kernel
theorem d_makeBox_94 : decode b_makeBox 94 = .ok (.ixor, 1) := by decide +kernel
theorem d_makeBox_95 : decode b_makeBox 95 = .ok (.bipush 99, 2) := by decide +kernel
theorem d_makeBox_97 : decode b_makeBox 97 = .ok (.iload 4, 2) := by decide +kernel
theorem d_makeBox_99 : decode b_makeBox 99 = .ok (.ishr, 1) := by decide +kernel
theorem d_makeBox_100 : decode b_makeBox 100 = .ok (.ixor, 1) := by decide +kernel
theorem d_makeBox_101 : decode b_makeBox 101 = .ok (.istore 5, 2) := by decide +kernel
theorem d_makeBox_103 : decode b_makeBox 103 = .ok (.iload_n 3, 1) := by decide +kernel
theorem d_makeBox_104 : decode b_makeBox 104 = .ok (.iload 5, 2) := by decide +kernel
theorem d_makeBox_106 : decode b_makeBox 106 = .ok (.iconst 1, 1) := by decide +kernel
theorem d_makeBox_107 : decode b_makeBox 107 = .ok (.iand, 1) := by decide +kernel
theorem d_makeBox_108 : decode b_makeBox 108 = .ok (.iload 4, 2) := by decide +kernel
theorem d_makeBox_110 : decode b_makeBox 110 = .ok (.ishl, 1) := by decide +kernel
theorem d_makeBox_111 : decode b_makeBox 111 = .ok (.ior, 1) := by decide +kernel
theorem d_makeBox_112 : decode b_makeBox 112 = .ok (.istore_n 3, 1) := by decide +kernel
theorem d_makeBox_113 : decode b_makeBox 113 = .ok (.iinc 4 1, 3) := by decide +kernel
theorem d_makeBox_116 : decode b_makeBox 116 = .ok (.goto (-74), 3) := by decide +kernel
theorem d_makeBox_119 : decode b_makeBox 119 = .ok (.aload_n 0, 1) := by decide +kernel
theorem d_makeBox_120 : decode b_makeBox 120 = .ok (.getfield 41, 3) := by decide +kernel
theorem d_makeBox_123 : decode b_makeBox 123 = .ok (.iload_n 1, 1) := by decide +kernel
theorem d_makeBox_124 : decode b_makeBox 124 = .ok (.iload_n 3, 1) := by decide +kernel
theorem d_makeBox_125 : decode b_makeBox 125 = .ok (.iastore, 1) := by decide +kernel
theorem d_makeBox_126 : decode b_makeBox 126 = .ok (.aload_n 0, 1) := by decide +kernel
theorem d_makeBox_127 : decode b_makeBox 127 = .ok (.getfield 44, 3) := by decide +kernel
theorem d_makeBox_130 : decode b_makeBox 130 = .ok (.iload_n 3, 1) := by decide +kernel
theorem d_makeBox_131 : decode b_makeBox 131 = .ok (.iload_n 1, 1) := by decide +kernel
theorem d_makeBox_132 : decode b_makeBox 132 = .ok (.iastore, 1) := by decide +kernel
theorem d_makeBox_133 : decode b_makeBox 133 = .ok (.iinc 1 1, 3) := by decide +kernel
theorem d_makeBox_136 : decode b_makeBox 136 = .ok (.goto (-129), 3) := by decide +kernel
theorem d_makeBox_139 : decode b_makeBox 139 = .ok (.return_, 1) := by decide +kernel
abbrev b_boxed : ByteArray := prog_14_method_18_code
def y_boxed : MethodName := ⟨R_M, "boxed", "(I)I"⟩
abbrev k_boxed : Cond := .code y_boxed b_boxed 2 (some .int)
theorem ki_boxed : k_boxed ∈ lw_tg := in_t 1863 (by decide +kernel)
theorem ks_boxed : Cond.instanceMethod y_boxed ∈ lw_tg := in_t 1862 (by decide +kernel)
theorem kl_boxed : Cond.methodLink R_M 398 y_boxed ∈ lw_tg := in_t 1860 (by decide +kernel)
theorem d_boxed_0 : decode b_boxed 0 = .ok (.aload_n 0, 1) := by decide +kernel
theorem d_boxed_1 : decode b_boxed 1 = .ok (.getfield 41, 3) := by decide +kernel
theorem d_boxed_4 : decode b_boxed 4 = .ok (.iload_n 1, 1) := by decide +kernel
theorem d_boxed_5 : decode b_boxed 5 = .ok (.bipush 24, 2) := by decide +kernel
theorem d_boxed_7 : decode b_boxed 7 = .ok (.iushr, 1) := by decide +kernel
theorem d_boxed_8 : decode b_boxed 8 = .ok (.iaload, 1) := by decide +kernel
theorem d_boxed_9 : decode b_boxed 9 = .ok (.bipush 24, 2) := by decide +kernel
theorem d_boxed_11 : decode b_boxed 11 = .ok (.ishl, 1) := by decide +kernel
theorem d_boxed_12 : decode b_boxed 12 = .ok (.aload_n 0, 1) := by decide +kernel
theorem d_boxed_13 : decode b_boxed 13 = .ok (.getfield 41, 3) := by decide +kernel
theorem d_boxed_16 : decode b_boxed 16 = .ok (.iload_n 1, 1) := by decide +kernel
theorem d_boxed_17 : decode b_boxed 17 = .ok (.bipush 16, 2) := by decide +kernel
theorem d_boxed_19 : decode b_boxed 19 = .ok (.iushr, 1) := by decide +kernel
theorem d_boxed_20 : decode b_boxed 20 = .ok (.sipush 255, 3) := by decide +kernel
theorem d_boxed_23 : decode b_boxed 23 = .ok (.iand, 1) := by decide +kernel
theorem d_boxed_24 : decode b_boxed 24 = .ok (.iaload, 1) := by decide +kernel
theorem d_boxed_25 : decode b_boxed 25 = .ok (.bipush 16, 2) := by decide +kernel
theorem d_boxed_27 : decode b_boxed 27 = .ok (.ishl, 1) := by decide +kernel
theorem d_boxed_28 : decode b_boxed 28 = .ok (.ior, 1) := by decide +kernel
theorem d_boxed_29 : decode b_boxed 29 = .ok (.aload_n 0, 1) := by decide +kernel
theorem d_boxed_30 : decode b_boxed 30 = .ok (.getfield 41, 3) := by decide +kernel
theorem d_boxed_33 : decode b_boxed 33 = .ok (.iload_n 1, 1) := by decide +kernel
theorem d_boxed_34 : decode b_boxed 34 = .ok (.bipush 8, 2) := by decide +kernel
theorem d_boxed_36 : decode b_boxed 36 = .ok (.iushr, 1) := by decide +kernel
theorem d_boxed_37 : decode b_boxed 37 = .ok (.sipush 255, 3) := by decide +kernel
theorem d_boxed_40 : decode b_boxed 40 = .ok (.iand, 1) := by decide +kernel
theorem d_boxed_41 : decode b_boxed 41 = .ok (.iaload, 1) := by decide +kernel
theorem d_boxed_42 : decode b_boxed 42 = .ok (.bipush 8, 2) := by decide +kernel
theorem d_boxed_44 : decode b_boxed 44 = .ok (.ishl, 1) := by decide +kernel
theorem d_boxed_45 : decode b_boxed 45 = .ok (.ior, 1) := by decide +kernel
theorem d_boxed_46 : decode b_boxed 46 = .ok (.aload_n 0, 1) := by decide +kernel
theorem d_boxed_47 : decode b_boxed 47 = .ok (.getfield 41, 3) := by decide +kernel
theorem d_boxed_50 : decode b_boxed 50 = .ok (.iload_n 1, 1) := by decide +kernel
theorem d_boxed_51 : decode b_boxed 51 = .ok (.sipush 255, 3) := by decide +kernel
theorem d_boxed_54 : decode b_boxed 54 = .ok (.iand, 1) := by decide +kernel
theorem d_boxed_55 : decode b_boxed 55 = .ok (.iaload, 1) := by decide +kernel
theorem d_boxed_56 : decode b_boxed 56 = .ok (.ior, 1) := by decide +kernel
theorem d_boxed_57 : decode b_boxed 57 = .ok (.ireturn, 1) := by decide +kernel
abbrev b_aesKey : ByteArray := prog_14_method_19_code
def y_aesKey : MethodName := ⟨R_M, "aesKey", "([BI)V"⟩
abbrev k_aesKey : Cond := .code y_aesKey b_aesKey 7 none
theorem ki_aesKey : k_aesKey ∈ lw_tg := in_t 1849 (by decide +kernel)
theorem ks_aesKey : Cond.instanceMethod y_aesKey ∈ lw_tg := in_t 1848 (by decide +kernel)
theorem kl_aesKey : Cond.methodLink R_M 408 y_aesKey ∈ lw_tg := in_t 1846 (by decide +kernel)
theorem d_aesKey_0 : decode b_aesKey 0 = .ok (.aload_n 0, 1) := by decide +kernel
theorem d_aesKey_1 : decode b_aesKey 1 = .ok (.getfield 385, 3) := by decide +kernel
theorem d_aesKey_4 : decode b_aesKey 4 = .ok (.ifCond .ne 7, 3) := by decide +kernel
theorem d_aesKey_7 : decode b_aesKey 7 = .ok (.aload_n 0, 1) := by decide +kernel
theorem d_aesKey_8 : decode b_aesKey 8 = .ok (.invokevirtual 392, 3) := by decide +kernel
theorem d_aesKey_11 : decode b_aesKey 11 = .ok (.iload_n 2, 1) := by decide +kernel
theorem d_aesKey_12 : decode b_aesKey 12 = .ok (.iconst 4, 1) := by decide +kernel
theorem d_aesKey_13 : decode b_aesKey 13 = .ok (.idiv, 1) := by decide +kernel
theorem d_aesKey_14 : decode b_aesKey 14 = .ok (.istore_n 3, 1) := by decide +kernel
theorem d_aesKey_15 : decode b_aesKey 15 = .ok (.aload_n 0, 1) := by decide +kernel
theorem d_aesKey_16 : decode b_aesKey 16 = .ok (.iload_n 3, 1) := by decide +kernel
theorem d_aesKey_17 : decode b_aesKey 17 = .ok (.bipush 6, 2) := by decide +kernel
theorem d_aesKey_19 : decode b_aesKey 19 = .ok (.iadd, 1) := by decide +kernel
theorem d_aesKey_20 : decode b_aesKey 20 = .ok (.putfield 395, 3) := by decide +kernel
theorem d_aesKey_23 : decode b_aesKey 23 = .ok (.iconst 0, 1) := by decide +kernel
theorem d_aesKey_24 : decode b_aesKey 24 = .ok (.istore 4, 2) := by decide +kernel
theorem d_aesKey_26 : decode b_aesKey 26 = .ok (.iload 4, 2) := by decide +kernel
theorem d_aesKey_28 : decode b_aesKey 28 = .ok (.iload_n 3, 1) := by decide +kernel
theorem d_aesKey_29 : decode b_aesKey 29 = .ok (.if_icmp .ge 70, 3) := by decide +kernel
theorem d_aesKey_32 : decode b_aesKey 32 = .ok (.aload_n 0, 1) := by decide +kernel
theorem d_aesKey_33 : decode b_aesKey 33 = .ok (.getfield 47, 3) := by decide +kernel
theorem d_aesKey_36 : decode b_aesKey 36 = .ok (.iload 4, 2) := by decide +kernel
theorem d_aesKey_38 : decode b_aesKey 38 = .ok (.aload_n 1, 1) := by decide +kernel
theorem d_aesKey_39 : decode b_aesKey 39 = .ok (.iconst 4, 1) := by decide +kernel
theorem d_aesKey_40 : decode b_aesKey 40 = .ok (.iload 4, 2) := by decide +kernel
theorem d_aesKey_42 : decode b_aesKey 42 = .ok (.imul, 1) := by decide +kernel
theorem d_aesKey_43 : decode b_aesKey 43 = .ok (.baload, 1) := by decide +kernel
theorem d_aesKey_44 : decode b_aesKey 44 = .ok (.bipush 24, 2) := by decide +kernel
theorem d_aesKey_46 : decode b_aesKey 46 = .ok (.ishl, 1) := by decide +kernel
theorem d_aesKey_47 : decode b_aesKey 47 = .ok (.aload_n 1, 1) := by decide +kernel
theorem d_aesKey_48 : decode b_aesKey 48 = .ok (.iconst 4, 1) := by decide +kernel
theorem d_aesKey_49 : decode b_aesKey 49 = .ok (.iload 4, 2) := by decide +kernel
theorem d_aesKey_51 : decode b_aesKey 51 = .ok (.imul, 1) := by decide +kernel
theorem d_aesKey_52 : decode b_aesKey 52 = .ok (.iconst 1, 1) := by decide +kernel
theorem d_aesKey_53 : decode b_aesKey 53 = .ok (.iadd, 1) := by decide +kernel
theorem d_aesKey_54 : decode b_aesKey 54 = .ok (.baload, 1) := by decide +kernel
theorem d_aesKey_55 : decode b_aesKey 55 = .ok (.sipush 255, 3) := by decide +kernel
theorem d_aesKey_58 : decode b_aesKey 58 = .ok (.iand, 1) := by decide +kernel
theorem d_aesKey_59 : decode b_aesKey 59 = .ok (.bipush 16, 2) := by decide +kernel
theorem d_aesKey_61 : decode b_aesKey 61 = .ok (.ishl, 1) := by decide +kernel
theorem d_aesKey_62 : decode b_aesKey 62 = .ok (.ior, 1) := by decide +kernel
theorem d_aesKey_63 : decode b_aesKey 63 = .ok (.aload_n 1, 1) := by decide +kernel
theorem d_aesKey_64 : decode b_aesKey 64 = .ok (.iconst 4, 1) := by decide +kernel
theorem d_aesKey_65 : decode b_aesKey 65 = .ok (.iload 4, 2) := by decide +kernel
theorem d_aesKey_67 : decode b_aesKey 67 = .ok (.imul, 1) := by decide +kernel
theorem d_aesKey_68 : decode b_aesKey 68 = .ok (.iconst 2, 1) := by decide +kernel
theorem d_aesKey_69 : decode b_aesKey 69 = .ok (.iadd, 1) := by decide +kernel
theorem d_aesKey_70 : decode b_aesKey 70 = .ok (.baload, 1) := by decide +kernel
theorem d_aesKey_71 : decode b_aesKey 71 = .ok (.sipush 255, 3) := by decide +kernel
theorem d_aesKey_74 : decode b_aesKey 74 = .ok (.iand, 1) := by decide +kernel
theorem d_aesKey_75 : decode b_aesKey 75 = .ok (.bipush 8, 2) := by decide +kernel
theorem d_aesKey_77 : decode b_aesKey 77 = .ok (.ishl, 1) := by decide +kernel
theorem d_aesKey_78 : decode b_aesKey 78 = .ok (.ior, 1) := by decide +kernel
theorem d_aesKey_79 : decode b_aesKey 79 = .ok (.aload_n 1, 1) := by decide +kernel
theorem d_aesKey_80 : decode b_aesKey 80 = .ok (.iconst 4, 1) := by decide +kernel
theorem d_aesKey_81 : decode b_aesKey 81 = .ok (.iload 4, 2) := by decide +kernel
theorem d_aesKey_83 : decode b_aesKey 83 = .ok (.imul, 1) := by decide +kernel
theorem d_aesKey_84 : decode b_aesKey 84 = .ok (.iconst 3, 1) := by decide +kernel
theorem d_aesKey_85 : decode b_aesKey 85 = .ok (.iadd, 1) := by decide +kernel
theorem d_aesKey_86 : decode b_aesKey 86 = .ok (.baload, 1) := by decide +kernel
theorem d_aesKey_87 : decode b_aesKey 87 = .ok (.sipush 255, 3) := by decide +kernel
theorem d_aesKey_90 : decode b_aesKey 90 = .ok (.iand, 1) := by decide +kernel
theorem d_aesKey_91 : decode b_aesKey 91 = .ok (.ior, 1) := by decide +kernel
theorem d_aesKey_92 : decode b_aesKey 92 = .ok (.iastore, 1) := by decide +kernel
theorem d_aesKey_93 : decode b_aesKey 93 = .ok (.iinc 4 1, 3) := by decide +kernel
theorem d_aesKey_96 : decode b_aesKey 96 = .ok (.goto (-70), 3) := by decide +kernel
theorem d_aesKey_99 : decode b_aesKey 99 = .ok (.iconst 1, 1) := by decide +kernel
theorem d_aesKey_100 : decode b_aesKey 100 = .ok (.istore 4, 2) := by decide +kernel
theorem d_aesKey_102 : decode b_aesKey 102 = .ok (.iload_n 3, 1) := by decide +kernel
theorem d_aesKey_103 : decode b_aesKey 103 = .ok (.istore 5, 2) := by decide +kernel
theorem d_aesKey_105 : decode b_aesKey 105 = .ok (.iload 5, 2) := by decide +kernel
theorem d_aesKey_107 : decode b_aesKey 107 = .ok (.iconst 4, 1) := by decide +kernel
theorem d_aesKey_108 : decode b_aesKey 108 = .ok (.aload_n 0, 1) := by decide +kernel
theorem d_aesKey_109 : decode b_aesKey 109 = .ok (.getfield 395, 3) := by decide +kernel
theorem d_aesKey_112 : decode b_aesKey 112 = .ok (.iconst 1, 1) := by decide +kernel
theorem d_aesKey_113 : decode b_aesKey 113 = .ok (.iadd, 1) := by decide +kernel
theorem d_aesKey_114 : decode b_aesKey 114 = .ok (.imul, 1) := by decide +kernel
theorem d_aesKey_115 : decode b_aesKey 115 = .ok (.if_icmp .ge 97, 3) := by decide +kernel
theorem d_aesKey_118 : decode b_aesKey 118 = .ok (.aload_n 0, 1) := by decide +kernel
theorem d_aesKey_119 : decode b_aesKey 119 = .ok (.getfield 47, 3) := by decide +kernel
theorem d_aesKey_122 : decode b_aesKey 122 = .ok (.iload 5, 2) := by decide +kernel
theorem d_aesKey_124 : decode b_aesKey 124 = .ok (.iconst 1, 1) := by decide +kernel
theorem d_aesKey_125 : decode b_aesKey 125 = .ok (.isub, 1) := by decide +kernel
theorem d_aesKey_126 : decode b_aesKey 126 = .ok (.iaload, 1) := by decide +kernel
theorem d_aesKey_127 : decode b_aesKey 127 = .ok (.istore 6, 2) := by decide +kernel
theorem d_aesKey_129 : decode b_aesKey 129 = .ok (.iload 5, 2) := by decide +kernel
theorem d_aesKey_131 : decode b_aesKey 131 = .ok (.iload_n 3, 1) := by decide +kernel
theorem d_aesKey_132 : decode b_aesKey 132 = .ok (.irem, 1) := by decide +kernel
theorem d_aesKey_133 : decode b_aesKey 133 = .ok (.ifCond .ne 32, 3) := by decide +kernel
theorem d_aesKey_136 : decode b_aesKey 136 = .ok (.aload_n 0, 1) := by decide +kernel
theorem d_aesKey_137 : decode b_aesKey 137 = .ok (.iload 6, 2) := by decide +kernel
theorem d_aesKey_139 : decode b_aesKey 139 = .ok (.bipush 8, 2) := by decide +kernel
theorem d_aesKey_141 : decode b_aesKey 141 = .ok (.invokestatic 360, 3) := by decide +kernel
theorem d_aesKey_144 : decode b_aesKey 144 = .ok (.invokevirtual 398, 3) := by decide +kernel
theorem d_aesKey_147 : decode b_aesKey 147 = .ok (.iload 4, 2) := by decide +kernel
theorem d_aesKey_149 : decode b_aesKey 149 = .ok (.bipush 24, 2) := by decide +kernel
theorem d_aesKey_151 : decode b_aesKey 151 = .ok (.ishl, 1) := by decide +kernel
theorem d_aesKey_152 : decode b_aesKey 152 = .ok (.ixor, 1) := by decide +kernel
theorem d_aesKey_153 : decode b_aesKey 153 = .ok (.istore 6, 2) := by decide +kernel
theorem d_aesKey_155 : decode b_aesKey 155 = .ok (.iload 4, 2) := by decide +kernel
theorem d_aesKey_157 : decode b_aesKey 157 = .ok (.invokestatic 381, 3) := by decide +kernel
theorem d_aesKey_160 : decode b_aesKey 160 = .ok (.istore 4, 2) := by decide +kernel
theorem d_aesKey_162 : decode b_aesKey 162 = .ok (.goto 25, 3) := by decide +kernel
theorem d_aesKey_165 : decode b_aesKey 165 = .ok (.iload_n 3, 1) := by decide +kernel
theorem d_aesKey_166 : decode b_aesKey 166 = .ok (.bipush 6, 2) := by decide +kernel
theorem d_aesKey_168 : decode b_aesKey 168 = .ok (.if_icmp .le 19, 3) := by decide +kernel
theorem d_aesKey_171 : decode b_aesKey 171 = .ok (.iload 5, 2) := by decide +kernel
theorem d_aesKey_173 : decode b_aesKey 173 = .ok (.iload_n 3, 1) := by decide +kernel
theorem d_aesKey_174 : decode b_aesKey 174 = .ok (.irem, 1) := by decide +kernel
theorem d_aesKey_175 : decode b_aesKey 175 = .ok (.iconst 4, 1) := by decide +kernel
theorem d_aesKey_176 : decode b_aesKey 176 = .ok (.if_icmp .ne 11, 3) := by decide +kernel
theorem d_aesKey_179 : decode b_aesKey 179 = .ok (.aload_n 0, 1) := by decide +kernel
theorem d_aesKey_180 : decode b_aesKey 180 = .ok (.iload 6, 2) := by decide +kernel
theorem d_aesKey_182 : decode b_aesKey 182 = .ok (.invokevirtual 398, 3) := by decide +kernel
theorem d_aesKey_185 : decode b_aesKey 185 = .ok (.istore 6, 2) := by decide +kernel
theorem d_aesKey_187 : decode b_aesKey 187 = .ok (.aload_n 0, 1) := by decide +kernel
theorem d_aesKey_188 : decode b_aesKey 188 = .ok (.getfield 47, 3) := by decide +kernel
theorem d_aesKey_191 : decode b_aesKey 191 = .ok (.iload 5, 2) := by decide +kernel
theorem d_aesKey_193 : decode b_aesKey 193 = .ok (.aload_n 0, 1) := by decide +kernel
theorem d_aesKey_194 : decode b_aesKey 194 = .ok (.getfield 47, 3) := by decide +kernel
theorem d_aesKey_197 : decode b_aesKey 197 = .ok (.iload 5, 2) := by decide +kernel
theorem d_aesKey_199 : decode b_aesKey 199 = .ok (.iload_n 3, 1) := by decide +kernel
theorem d_aesKey_200 : decode b_aesKey 200 = .ok (.isub, 1) := by decide +kernel
theorem d_aesKey_201 : decode b_aesKey 201 = .ok (.iaload, 1) := by decide +kernel
theorem d_aesKey_202 : decode b_aesKey 202 = .ok (.iload 6, 2) := by decide +kernel
theorem d_aesKey_204 : decode b_aesKey 204 = .ok (.ixor, 1) := by decide +kernel
theorem d_aesKey_205 : decode b_aesKey 205 = .ok (.iastore, 1) := by decide +kernel
theorem d_aesKey_206 : decode b_aesKey 206 = .ok (.iinc 5 1, 3) := by decide +kernel
theorem d_aesKey_209 : decode b_aesKey 209 = .ok (.goto (-104), 3) := by decide +kernel
theorem d_aesKey_212 : decode b_aesKey 212 = .ok (.return_, 1) := by decide +kernel
abbrev b_addKey : ByteArray := prog_14_method_20_code
def y_addKey : MethodName := ⟨R_M, "addKey", "(I)V"⟩
abbrev k_addKey : Cond := .code y_addKey b_addKey 3 none
theorem ki_addKey : k_addKey ∈ lw_tg := in_t 1871 (by decide +kernel)
theorem ks_addKey : Cond.instanceMethod y_addKey ∈ lw_tg := in_t 1870 (by decide +kernel)
theorem kl_addKey : Cond.methodLink R_M 401 y_addKey ∈ lw_tg := in_t 1868 (by decide +kernel)
theorem d_addKey_0 : decode b_addKey 0 = .ok (.iconst 0, 1) := by decide +kernel
theorem d_addKey_1 : decode b_addKey 1 = .ok (.istore_n 2, 1) := by decide +kernel
theorem d_addKey_2 : decode b_addKey 2 = .ok (.iload_n 2, 1) := by decide +kernel
theorem d_addKey_3 : decode b_addKey 3 = .ok (.bipush 16, 2) := by decide +kernel
theorem d_addKey_5 : decode b_addKey 5 = .ok (.if_icmp .ge 44, 3) := by decide +kernel
theorem d_addKey_8 : decode b_addKey 8 = .ok (.aload_n 0, 1) := by decide +kernel
theorem d_addKey_9 : decode b_addKey 9 = .ok (.getfield 50, 3) := by decide +kernel
theorem d_addKey_12 : decode b_addKey 12 = .ok (.iload_n 2, 1) := by decide +kernel
theorem d_addKey_13 : decode b_addKey 13 = .ok (.dup2, 1) := by decide +kernel
theorem d_addKey_14 : decode b_addKey 14 = .ok (.iaload, 1) := by decide +kernel
theorem d_addKey_15 : decode b_addKey 15 = .ok (.aload_n 0, 1) := by decide +kernel
theorem d_addKey_16 : decode b_addKey 16 = .ok (.getfield 47, 3) := by decide +kernel
theorem d_addKey_19 : decode b_addKey 19 = .ok (.iconst 4, 1) := by decide +kernel
theorem d_addKey_20 : decode b_addKey 20 = .ok (.iload_n 1, 1) := by decide +kernel
theorem d_addKey_21 : decode b_addKey 21 = .ok (.imul, 1) := by decide +kernel
theorem d_addKey_22 : decode b_addKey 22 = .ok (.iload_n 2, 1) := by decide +kernel
theorem d_addKey_23 : decode b_addKey 23 = .ok (.iconst 4, 1) := by decide +kernel
theorem d_addKey_24 : decode b_addKey 24 = .ok (.idiv, 1) := by decide +kernel
theorem d_addKey_25 : decode b_addKey 25 = .ok (.iadd, 1) := by decide +kernel
theorem d_addKey_26 : decode b_addKey 26 = .ok (.iaload, 1) := by decide +kernel
theorem d_addKey_27 : decode b_addKey 27 = .ok (.bipush 24, 2) := by decide +kernel
theorem d_addKey_29 : decode b_addKey 29 = .ok (.bipush 8, 2) := by decide +kernel
theorem d_addKey_31 : decode b_addKey 31 = .ok (.iload_n 2, 1) := by decide +kernel
theorem d_addKey_32 : decode b_addKey 32 = .ok (.iconst 4, 1) := by decide +kernel
theorem d_addKey_33 : decode b_addKey 33 = .ok (.irem, 1) := by decide +kernel
theorem d_addKey_34 : decode b_addKey 34 = .ok (.imul, 1) := by decide +kernel
theorem d_addKey_35 : decode b_addKey 35 = .ok (.isub, 1) := by decide +kernel
theorem d_addKey_36 : decode b_addKey 36 = .ok (.iushr, 1) := by decide +kernel
theorem d_addKey_37 : decode b_addKey 37 = .ok (.sipush 255, 3) := by decide +kernel
theorem d_addKey_40 : decode b_addKey 40 = .ok (.iand, 1) := by decide +kernel
theorem d_addKey_41 : decode b_addKey 41 = .ok (.ixor, 1) := by decide +kernel
theorem d_addKey_42 : decode b_addKey 42 = .ok (.iastore, 1) := by decide +kernel
theorem d_addKey_43 : decode b_addKey 43 = .ok (.iinc 2 1, 3) := by decide +kernel
theorem d_addKey_46 : decode b_addKey 46 = .ok (.goto (-44), 3) := by decide +kernel
theorem d_addKey_49 : decode b_addKey 49 = .ok (.return_, 1) := by decide +kernel
abbrev b_cover : ByteArray := prog_14_method_21_code
def y_cover : MethodName := ⟨R_M, "cover", "()V"⟩
abbrev k_cover : Cond := .code y_cover b_cover 6 none
theorem ki_cover : k_cover ∈ lw_tg := in_t 1867 (by decide +kernel)
theorem ks_cover : Cond.instanceMethod y_cover ∈ lw_tg := in_t 1866 (by decide +kernel)
theorem kl_cover : Cond.methodLink R_M 411 y_cover ∈ lw_tg := in_t 1864 (by decide +kernel)
theorem d_cover_0 : decode b_cover 0 = .ok (.aload_n 0, 1) := by decide +kernel
theorem d_cover_1 : decode b_cover 1 = .ok (.iconst 0, 1) := by decide +kernel
theorem d_cover_2 : decode b_cover 2 = .ok (.invokevirtual 401, 3) := by decide +kernel
theorem d_cover_5 : decode b_cover 5 = .ok (.iconst 1, 1) := by decide +kernel
theorem d_cover_6 : decode b_cover 6 = .ok (.istore_n 1, 1) := by decide +kernel
theorem d_cover_7 : decode b_cover 7 = .ok (.iload_n 1, 1) := by decide +kernel
theorem d_cover_8 : decode b_cover 8 = .ok (.aload_n 0, 1) := by decide +kernel
theorem d_cover_9 : decode b_cover 9 = .ok (.getfield 395, 3) := by decide +kernel
theorem d_cover_12 : decode b_cover 12 = .ok (.if_icmp .gt 166, 3) := by decide +kernel
theorem d_cover_15 : decode b_cover 15 = .ok (.iconst 0, 1) := by decide +kernel
theorem d_cover_16 : decode b_cover 16 = .ok (.istore_n 2, 1) := by decide +kernel
theorem d_cover_17 : decode b_cover 17 = .ok (.iload_n 2, 1) := by decide +kernel
theorem d_cover_18 : decode b_cover 18 = .ok (.bipush 16, 2) := by decide +kernel
theorem d_cover_20 : decode b_cover 20 = .ok (.if_icmp .ge 35, 3) := by decide +kernel
theorem d_cover_23 : decode b_cover 23 = .ok (.aload_n 0, 1) := by decide +kernel
theorem d_cover_24 : decode b_cover 24 = .ok (.getfield 53, 3) := by decide +kernel
theorem d_cover_27 : decode b_cover 27 = .ok (.iload_n 2, 1) := by decide +kernel
theorem d_cover_28 : decode b_cover 28 = .ok (.aload_n 0, 1) := by decide +kernel
theorem d_cover_29 : decode b_cover 29 = .ok (.getfield 41, 3) := by decide +kernel
theorem d_cover_32 : decode b_cover 32 = .ok (.aload_n 0, 1) := by decide +kernel
theorem d_cover_33 : decode b_cover 33 = .ok (.getfield 50, 3) := by decide +kernel
theorem d_cover_36 : decode b_cover 36 = .ok (.iload_n 2, 1) := by decide +kernel
theorem d_cover_37 : decode b_cover 37 = .ok (.iconst 4, 1) := by decide +kernel
theorem d_cover_38 : decode b_cover 38 = .ok (.iload_n 2, 1) := by decide +kernel
theorem d_cover_39 : decode b_cover 39 = .ok (.iconst 4, 1) := by decide +kernel
theorem d_cover_40 : decode b_cover 40 = .ok (.irem, 1) := by decide +kernel
theorem d_cover_41 : decode b_cover 41 = .ok (.imul, 1) := by decide +kernel
theorem d_cover_42 : decode b_cover 42 = .ok (.iadd, 1) := by decide +kernel
theorem d_cover_43 : decode b_cover 43 = .ok (.bipush 16, 2) := by decide +kernel
theorem d_cover_45 : decode b_cover 45 = .ok (.irem, 1) := by decide +kernel
theorem d_cover_46 : decode b_cover 46 = .ok (.iaload, 1) := by decide +kernel
theorem d_cover_47 : decode b_cover 47 = .ok (.iaload, 1) := by decide +kernel
theorem d_cover_48 : decode b_cover 48 = .ok (.iastore, 1) := by decide +kernel
theorem d_cover_49 : decode b_cover 49 = .ok (.iinc 2 1, 3) := by decide +kernel
theorem d_cover_52 : decode b_cover 52 = .ok (.goto (-35), 3) := by decide +kernel
theorem d_cover_55 : decode b_cover 55 = .ok (.iconst 0, 1) := by decide +kernel
theorem d_cover_56 : decode b_cover 56 = .ok (.istore_n 2, 1) := by decide +kernel
theorem d_cover_57 : decode b_cover 57 = .ok (.iload_n 2, 1) := by decide +kernel
theorem d_cover_58 : decode b_cover 58 = .ok (.bipush 16, 2) := by decide +kernel
theorem d_cover_60 : decode b_cover 60 = .ok (.if_icmp .ge 107, 3) := by decide +kernel
theorem d_cover_63 : decode b_cover 63 = .ok (.iconst 0, 1) := by decide +kernel
theorem d_cover_64 : decode b_cover 64 = .ok (.istore_n 3, 1) := by decide +kernel
theorem d_cover_65 : decode b_cover 65 = .ok (.iload_n 3, 1) := by decide +kernel
theorem d_cover_66 : decode b_cover 66 = .ok (.iconst 4, 1) := by decide +kernel
theorem d_cover_67 : decode b_cover 67 = .ok (.if_icmp .ge 94, 3) := by decide +kernel
theorem d_cover_70 : decode b_cover 70 = .ok (.aload_n 0, 1) := by decide +kernel
theorem d_cover_71 : decode b_cover 71 = .ok (.getfield 53, 3) := by decide +kernel
theorem d_cover_74 : decode b_cover 74 = .ok (.iload_n 2, 1) := by decide +kernel
theorem d_cover_75 : decode b_cover 75 = .ok (.iload_n 3, 1) := by decide +kernel
theorem d_cover_76 : decode b_cover 76 = .ok (.iadd, 1) := by decide +kernel
theorem d_cover_77 : decode b_cover 77 = .ok (.iaload, 1) := by decide +kernel
theorem d_cover_78 : decode b_cover 78 = .ok (.istore 4, 2) := by decide +kernel
theorem d_cover_80 : decode b_cover 80 = .ok (.aload_n 0, 1) := by decide +kernel
theorem d_cover_81 : decode b_cover 81 = .ok (.getfield 53, 3) := by decide +kernel
theorem d_cover_84 : decode b_cover 84 = .ok (.iload_n 2, 1) := by decide +kernel
theorem d_cover_85 : decode b_cover 85 = .ok (.iload_n 3, 1) := by decide +kernel
theorem d_cover_86 : decode b_cover 86 = .ok (.iconst 1, 1) := by decide +kernel
theorem d_cover_87 : decode b_cover 87 = .ok (.iadd, 1) := by decide +kernel
theorem d_cover_88 : decode b_cover 88 = .ok (.iconst 4, 1) := by decide +kernel
theorem d_cover_89 : decode b_cover 89 = .ok (.irem, 1) := by decide +kernel
theorem d_cover_90 : decode b_cover 90 = .ok (.iadd, 1) := by decide +kernel
theorem d_cover_91 : decode b_cover 91 = .ok (.iaload, 1) := by decide +kernel
theorem d_cover_92 : decode b_cover 92 = .ok (.istore 5, 2) := by decide +kernel
theorem d_cover_94 : decode b_cover 94 = .ok (.aload_n 0, 1) := by decide +kernel
theorem d_cover_95 : decode b_cover 95 = .ok (.getfield 50, 3) := by decide +kernel
theorem d_cover_98 : decode b_cover 98 = .ok (.iload_n 2, 1) := by decide +kernel
theorem d_cover_99 : decode b_cover 99 = .ok (.iload_n 3, 1) := by decide +kernel
theorem d_cover_100 : decode b_cover 100 = .ok (.iadd, 1) := by decide +kernel
theorem d_cover_101 : decode b_cover 101 = .ok (.iload_n 1, 1) := by decide +kernel
theorem d_cover_102 : decode b_cover 102 = .ok (.aload_n 0, 1) := by decide +kernel
theorem d_cover_103 : decode b_cover 103 = .ok (.getfield 395, 3) := by decide +kernel
theorem d_cover_106 : decode b_cover 106 = .ok (.if_icmp .ne 8, 3) := by decide +kernel
theorem d_cover_109 : decode b_cover 109 = .ok (.iload 4, 2) := by decide +kernel
theorem d_cover_111 : decode b_cover 111 = .ok (.goto 43, 3) := by decide +kernel
theorem d_cover_114 : decode b_cover 114 = .ok (.iload 4, 2) := by decide +kernel
theorem d_cover_116 : decode b_cover 116 = .ok (.invokestatic 381, 3) := by decide +kernel
theorem d_cover_119 : decode b_cover 119 = .ok (.iload 5, 2) := by decide +kernel
theorem d_cover_121 : decode b_cover 121 = .ok (.invokestatic 381, 3) := by decide +kernel
theorem d_cover_124 : decode b_cover 124 = .ok (.ixor, 1) := by decide +kernel
theorem d_cover_125 : decode b_cover 125 = .ok (.iload 5, 2) := by decide +kernel
theorem d_cover_127 : decode b_cover 127 = .ok (.ixor, 1) := by decide +kernel
theorem d_cover_128 : decode b_cover 128 = .ok (.aload_n 0, 1) := by decide +kernel
theorem d_cover_129 : decode b_cover 129 = .ok (.getfield 53, 3) := by decide +kernel
theorem d_cover_132 : decode b_cover 132 = .ok (.iload_n 2, 1) := by decide +kernel
theorem d_cover_133 : decode b_cover 133 = .ok (.iload_n 3, 1) := by decide +kernel
theorem d_cover_134 : decode b_cover 134 = .ok (.iconst 2, 1) := by decide +kernel
theorem d_cover_135 : decode b_cover 135 = .ok (.iadd, 1) := by decide +kernel
theorem d_cover_136 : decode b_cover 136 = .ok (.iconst 4, 1) := by decide +kernel
theorem d_cover_137 : decode b_cover 137 = .ok (.irem, 1) := by decide +kernel
theorem d_cover_138 : decode b_cover 138 = .ok (.iadd, 1) := by decide +kernel
theorem d_cover_139 : decode b_cover 139 = .ok (.iaload, 1) := by decide +kernel
theorem d_cover_140 : decode b_cover 140 = .ok (.ixor, 1) := by decide +kernel
theorem d_cover_141 : decode b_cover 141 = .ok (.aload_n 0, 1) := by decide +kernel
theorem d_cover_142 : decode b_cover 142 = .ok (.getfield 53, 3) := by decide +kernel
theorem d_cover_145 : decode b_cover 145 = .ok (.iload_n 2, 1) := by decide +kernel
theorem d_cover_146 : decode b_cover 146 = .ok (.iload_n 3, 1) := by decide +kernel
theorem d_cover_147 : decode b_cover 147 = .ok (.iconst 3, 1) := by decide +kernel
theorem d_cover_148 : decode b_cover 148 = .ok (.iadd, 1) := by decide +kernel
theorem d_cover_149 : decode b_cover 149 = .ok (.iconst 4, 1) := by decide +kernel
theorem d_cover_150 : decode b_cover 150 = .ok (.irem, 1) := by decide +kernel
theorem d_cover_151 : decode b_cover 151 = .ok (.iadd, 1) := by decide +kernel
theorem d_cover_152 : decode b_cover 152 = .ok (.iaload, 1) := by decide +kernel
theorem d_cover_153 : decode b_cover 153 = .ok (.ixor, 1) := by decide +kernel
theorem d_cover_154 : decode b_cover 154 = .ok (.iastore, 1) := by decide +kernel
theorem d_cover_155 : decode b_cover 155 = .ok (.iinc 3 1, 3) := by decide +kernel
theorem d_cover_158 : decode b_cover 158 = .ok (.goto (-93), 3) := by decide +kernel
theorem d_cover_161 : decode b_cover 161 = .ok (.iinc 2 4, 3) := by decide +kernel
theorem d_cover_164 : decode b_cover 164 = .ok (.goto (-107), 3) := by decide +kernel
theorem d_cover_167 : decode b_cover 167 = .ok (.aload_n 0, 1) := by decide +kernel
theorem d_cover_168 : decode b_cover 168 = .ok (.iload_n 1, 1) := by decide +kernel
theorem d_cover_169 : decode b_cover 169 = .ok (.invokevirtual 401, 3) := by decide +kernel
theorem d_cover_172 : decode b_cover 172 = .ok (.iinc 1 1, 3) := by decide +kernel
theorem d_cover_175 : decode b_cover 175 = .ok (.goto (-168), 3) := by decide +kernel
theorem d_cover_178 : decode b_cover 178 = .ok (.return_, 1) := by decide +kernel
theorem kx_makeBox : Cond.selects R_M y_makeBox y_makeBox ∈ lw_tg := List.mem_filter.mpr ⟨List.mem_append_left _ (List.mem_of_getElem? (i := 89) (by decide +kernel)), rfl⟩
theorem hd_makeBox : y_makeBox.cls = R_M ∧ y_makeBox.cls ≠ "java/lang/invoke/MethodHandle" ∧ y_makeBox.cls ≠ "java/lang/invoke/VarHandle" ∧ (parseMethodDescriptor y_makeBox.desc).map (fun d => d.parameters.length) = some 0 := by decide +kernel
theorem kx_boxed : Cond.selects R_M y_boxed y_boxed ∈ lw_tg := List.mem_filter.mpr ⟨List.mem_append_left _ (List.mem_of_getElem? (i := 90) (by decide +kernel)), rfl⟩
theorem hd_boxed : y_boxed.cls = R_M ∧ y_boxed.cls ≠ "java/lang/invoke/MethodHandle" ∧ y_boxed.cls ≠ "java/lang/invoke/VarHandle" ∧ (parseMethodDescriptor y_boxed.desc).map (fun d => d.parameters.length) = some 1 := by decide +kernel
theorem kx_aesKey : Cond.selects R_M y_aesKey y_aesKey ∈ lw_tg := List.mem_filter.mpr ⟨List.mem_append_left _ (List.mem_of_getElem? (i := 88) (by decide +kernel)), rfl⟩
theorem hd_aesKey : y_aesKey.cls = R_M ∧ y_aesKey.cls ≠ "java/lang/invoke/MethodHandle" ∧ y_aesKey.cls ≠ "java/lang/invoke/VarHandle" ∧ (parseMethodDescriptor y_aesKey.desc).map (fun d => d.parameters.length) = some 2 := by decide +kernel
theorem kx_addKey : Cond.selects R_M y_addKey y_addKey ∈ lw_tg := List.mem_filter.mpr ⟨List.mem_append_left _ (List.mem_of_getElem? (i := 92) (by decide +kernel)), rfl⟩
theorem hd_addKey : y_addKey.cls = R_M ∧ y_addKey.cls ≠ "java/lang/invoke/MethodHandle" ∧ y_addKey.cls ≠ "java/lang/invoke/VarHandle" ∧ (parseMethodDescriptor y_addKey.desc).map (fun d => d.parameters.length) = some 1 := by decide +kernel
theorem kx_cover : Cond.selects R_M y_cover y_cover ∈ lw_tg := List.mem_filter.mpr ⟨List.mem_append_left _ (List.mem_of_getElem? (i := 91) (by decide +kernel)), rfl⟩
theorem hd_cover : y_cover.cls = R_M ∧ y_cover.cls ≠ "java/lang/invoke/MethodHandle" ∧ y_cover.cls ≠ "java/lang/invoke/VarHandle" ∧ (parseMethodDescriptor y_cover.desc).map (fun d => d.parameters.length) = some 0 := by decide +kernel
set_option maxHeartbeats 4000000 in
set_option maxRecDepth 100000 in
theorem c_product (l : Launch) (a0 a1 : Nat) (h0 : a0 < 256) (h1 : a1 < 256) : Met l y_product (k_product :: lw_tg) (mR 1 20) (va_Pc [.int (nI a0), .int (nI a1)] pPre) (va_Qi (fun (r : Int32) (_ : Unit) => ∃ n, n < 256 ∧ r = nI n) (fun _ _ => True) (fun _ => False)) 0 0 (fun _ => False) := by
  refine p_enter (by decide) rfl (Nat.le_of_ble_eq_true rfl) (fun p e s m below meth c ls AV QQ H locs hQQ hS X hr hlk hml hl => ?_)
  have hl : lv_has ls 5 [(0, .int (nI a0)), (1, .int (nI a1))] := hl
  refine lv_iconst (v := (nI 0)) X.1 X.2.1 d_product_0 (by decide) ?_
  refine lv_istore_n (lv' := [(2, .int (nI 0)), (0, .int (nI a0)), (1, .int (nI a1))]) X.1 X.2.1 d_product_1 rfl hl (by decide) rfl (fun ls hl => ?_)
  refine lv_iload_n X.1 X.2.1 d_product_2 rfl (lv_at hl 1 rfl) ?_
  refine lv_istore_n (lv' := [(3, .int (nI a0)), (2, .int (nI 0)), (0, .int (nI a0)), (1, .int (nI a1))]) X.1 X.2.1 d_product_3 rfl hl (by decide) rfl (fun ls hl => ?_)
  refine lv_iload_n X.1 X.2.1 d_product_4 rfl (lv_at hl 3 rfl) ?_
  refine lv_istore (lv' := [(4, .int (nI a1)), (3, .int (nI a0)), (2, .int (nI 0)), (0, .int (nI a0)), (1, .int (nI a1))]) X.1 X.2.1 d_product_5 hl (by decide) rfl (fun ls hl => ?_)
  have lp : ∀ (n b a v : Nat) (H : Heap) (locs : List Loc) (ls : Array Slot), b ≤ n → b < 256 → a < 256 → v < 256 → va_S (fun _ => False) s.heap H locs → lv_has ls 5 [(4, .int (nI b)), (3, .int (nI a)), (2, .int (nI v)), (0, .int (nI a0)), (1, .int (nI a1))] → W p l e (mR 1 20) s m AV below meth c H locs 0 0 QQ (F0 m 7 ls []) := by
    intro n
    induction n with
    | zero =>
      intro b a v H locs ls hb hb2 ha hv hS hl
      refine lv_iload X.1 X.2.1 d_product_7 (lv_at hl 0 rfl) ?_
      refine lv_if_le (tgt := 38) X.1 X.2.1 d_product_9 (by decide) (fun c1 => ?_) (fun c1 => absurd ?_ c1)
      rotate_left
      · (rw [← nI_0, nI_leI (by omega) (by omega)] <;> omega)
      rw [← nI_0] at c1
      rw [nI_leI (by omega) (by omega)] at c1
      refine lv_iload_n X.1 X.2.1 d_product_38 rfl (lv_at hl 2 rfl) ?_
      exact p_reti hQQ hS X hr hlk ⟨_, (show v < 256 by omega), rfl⟩ d_product_39
    | succ n ih =>
      intro b a v H locs ls hb hb2 ha hv hS hl
      refine lv_iload X.1 X.2.1 d_product_7 (lv_at hl 0 rfl) ?_
      refine lv_if_le (tgt := 38) X.1 X.2.1 d_product_9 (by decide) (fun c2 => ?_) (fun c2 => ?_)
      · skip
        rw [← nI_0] at c2
        rw [nI_leI (by omega) (by omega)] at c2
        refine lv_iload_n X.1 X.2.1 d_product_38 rfl (lv_at hl 2 rfl) ?_
        exact p_reti hQQ hS X hr hlk ⟨_, (show v < 256 by omega), rfl⟩ d_product_39
      · skip
        rw [← nI_0] at c2
        rw [nI_leI (by omega) (by omega)] at c2
        refine lv_iload X.1 X.2.1 d_product_12 (lv_at hl 0 rfl) ?_
        refine lv_iconst (v := (nI 1)) X.1 X.2.1 d_product_14 (by decide) ?_
        refine lv_iand X.1 X.2.1 d_product_15 ?_
        obtain ⟨j3, hj3, ej3⟩ := pk_andE (nI b) (m := nI 1) 1 (by decide)
        refine t_eq ej3 ?_
        have hj3 : j3 < 2 := hj3
        refine lv_iconst (v := (nI 1)) X.1 X.2.1 d_product_16 (by decide) ?_
        refine lv_icmp_ne (tgt := 24) X.1 X.2.1 d_product_17 (by decide) (fun c4 => ?_) (fun c4 => ?_)
        · skip
          rw [nI_eq (by omega) (by omega)] at c4
          refine lv_iload_n X.1 X.2.1 d_product_24 rfl (lv_at hl 1 rfl) ?_
          refine pp_calli (As := [.int (nI a)]) (rest := []) (n := 1) hS X hml hl.1 (c_twice l (nI a)) kl_twice ks_twice ki_twice ini_M (by decide +kernel) ⟨by decide, by decide⟩ rfl (Nat.le_of_ble_eq_true rfl) d_product_25 (fun r5 H locs hpr5 hS => ?_)
          obtain ⟨j6, hj6, ej6⟩ := hpr5
          refine t_eq ej6 ?_
          refine lv_istore_n (lv' := [(3, .int (nI j6)), (4, .int (nI b)), (2, .int (nI v)), (0, .int (nI a0)), (1, .int (nI a1))]) X.1 X.2.1 d_product_28 rfl hl (by decide) rfl (fun ls hl => ?_)
          refine lv_iload X.1 X.2.1 d_product_29 (lv_at hl 1 rfl) ?_
          refine lv_iconst (v := (nI 1)) X.1 X.2.1 d_product_31 (by decide) ?_
          refine lv_ishr X.1 X.2.1 d_product_32 ?_
          refine t_eq (y := nI (b / 2 ^ 1)) (pk_shrN (by omega) _ 1 (by decide)) ?_
          refine lv_istore (lv' := [(4, .int (nI (b / 2 ^ 1))), (3, .int (nI j6)), (2, .int (nI v)), (0, .int (nI a0)), (1, .int (nI a1))]) X.1 X.2.1 d_product_33 hl (by decide) rfl (fun ls hl => ?_)
          refine lv_goto (tgt := 7) X.1 X.2.1 d_product_35 (by decide) ?_
          exact ih (b / 2 ^ 1) (j6) (v) _ _ _ (by omega) (by omega) (by omega) (by omega) hS (lv_sub hl [0, 1, 2, 3, 4] rfl)
        · skip
          rw [nI_eq (by omega) (by omega)] at c4
          refine lv_iload_n X.1 X.2.1 d_product_20 rfl (lv_at hl 2 rfl) ?_
          refine lv_iload_n X.1 X.2.1 d_product_21 rfl (lv_at hl 1 rfl) ?_
          refine lv_ixor X.1 X.2.1 d_product_22 ?_
          obtain ⟨j7, hj7, ej7⟩ := by_ixor (a := v) (b := a) (by omega) (by omega)
          refine t_eq ej7 ?_
          refine lv_istore_n (lv' := [(2, .int (nI j7)), (4, .int (nI b)), (3, .int (nI a)), (0, .int (nI a0)), (1, .int (nI a1))]) X.1 X.2.1 d_product_23 rfl hl (by decide) rfl (fun ls hl => ?_)
          refine lv_iload_n X.1 X.2.1 d_product_24 rfl (lv_at hl 2 rfl) ?_
          refine pp_calli (As := [.int (nI a)]) (rest := []) (n := 1) hS X hml hl.1 (c_twice l (nI a)) kl_twice ks_twice ki_twice ini_M (by decide +kernel) ⟨by decide, by decide⟩ rfl (Nat.le_of_ble_eq_true rfl) d_product_25 (fun r8 H locs hpr8 hS => ?_)
          obtain ⟨j9, hj9, ej9⟩ := hpr8
          refine t_eq ej9 ?_
          refine lv_istore_n (lv' := [(3, .int (nI j9)), (2, .int (nI j7)), (4, .int (nI b)), (0, .int (nI a0)), (1, .int (nI a1))]) X.1 X.2.1 d_product_28 rfl hl (by decide) rfl (fun ls hl => ?_)
          refine lv_iload X.1 X.2.1 d_product_29 (lv_at hl 2 rfl) ?_
          refine lv_iconst (v := (nI 1)) X.1 X.2.1 d_product_31 (by decide) ?_
          refine lv_ishr X.1 X.2.1 d_product_32 ?_
          refine t_eq (y := nI (b / 2 ^ 1)) (pk_shrN (by omega) _ 1 (by decide)) ?_
          refine lv_istore (lv' := [(4, .int (nI (b / 2 ^ 1))), (3, .int (nI j9)), (2, .int (nI j7)), (0, .int (nI a0)), (1, .int (nI a1))]) X.1 X.2.1 d_product_33 hl (by decide) rfl (fun ls hl => ?_)
          refine lv_goto (tgt := 7) X.1 X.2.1 d_product_35 (by decide) ?_
          exact ih (b / 2 ^ 1) (j9) (j7) _ _ _ (by omega) (by omega) (by omega) (by omega) hS (lv_sub hl [0, 1, 2, 3, 4] rfl)
  exact lp a1 a1 a0 0 _ _ _ (by omega) (by omega) (by omega) (by omega) hS (lv_sub hl [0, 1, 2, 3, 4] rfl)
set_option maxHeartbeats 4000000 in
set_option maxRecDepth 100000 in
theorem c_makeBox (l : Launch) (D : mD) (E : mE) (h : Nat) (q : Nat → Nat) (sz : Nat) (I : Nat → Int32) (J : Nat → Int64) (B : Nat → Nat → Int32) (G : Nat → Nat → Int64)  (y12 : by8 (B 12)) (y13 : by8 (B 13)) : Met l y_makeBox (k_makeBox :: lw_tg) (mR 2 44) (va_Pc [.ref h] (mPre D E h q (I, J, B, G) sz)) (va_Qv (fun (u : mS) => (∀ j, j ≠ 14 → u.1 j = I j) ∧ u.2.1 = J ∧ (∀ j, j ≠ 12 → j ≠ 13 → u.2.2.1 j = B j) ∧ u.2.2.2 = G ∧ u.1 14 = nI (1) ∧ by8 (u.2.2.1 12) ∧ by8 (u.2.2.1 13)) (mPost D E h q (mA E h q sz)) (mA E h q sz)) 0 0 (mA E h q sz) := by
  refine m_enter (by decide) rfl (Nat.le_of_ble_eq_true rfl) (fun p e s m below meth c ls AV QQ H locs hQQ X Y hZ hA hr hlk hml hl => ?_)
  have Y : mH D E (mA E h q sz) s.heap h q I J B G H locs := Y
  have hl : lv_has ls 6 [(0, .ref h)] := hl
  refine lv_aload_n X.1 X.2.1 d_makeBox_0 rfl (lv_at hl 0 rfl) ?_
  refine lv_iconst (v := (nI 1)) X.1 X.2.1 d_makeBox_1 (by decide) ?_
  refine m_puti X Y 14 (by decide) lk_hasBox rfl rfl (t_M_ok 14 (by decide)) rfl rfl (sf_hasBox _ _ _ _) (Nat.le_of_ble_eq_true rfl) d_makeBox_2 (fun H locs Y => ?_)
  refine lv_iconst (v := (nI 0)) X.1 X.2.1 d_makeBox_5 (by decide) ?_
  refine lv_istore_n (lv' := [(1, .int (nI 0)), (0, .ref h)]) X.1 X.2.1 d_makeBox_6 rfl hl (by decide) rfl (fun ls hl => ?_)
  have lp4 : ∀ (n1 i2 : Nat) (B5 : Nat → Nat → Int32) (H : Heap) (locs : List Loc) (ls : Array Slot), i2 + n1 = 256 → 0 ≤ i2 → (∀ j, j ≠ 12 → j ≠ 13 → B5 j = B j) → by8 (B5 12) → by8 (B5 13) → mH D E (mA E h q sz) s.heap h q (upd I 14 (nI 1)) J B5 G H locs → lv_has ls 6 [(1, .int (nI i2)), (0, .ref h)] → W p l e (mR 2 44) s m AV below meth c H locs 0 0 QQ (F0 m 7 ls []) := by
    intro n1
    induction n1 with
    | zero =>
      intro i2 B5 H locs ls hii2 hsi2 hB6 y7 y8  Y hl
      refine lv_iload_n X.1 X.2.1 d_makeBox_7 rfl (lv_at hl 0 rfl) ?_
      refine lv_sipush (v := (nI 256)) X.1 X.2.1 d_makeBox_8 (by decide) ?_
      refine lv_icmp_ge (tgt := 139) X.1 X.2.1 d_makeBox_11 (by decide) (fun c9 => ?_) (fun c9 => absurd ?_ c9)
      rotate_left
      · (rw [nI_leI (by omega) (by omega)] <;> omega)
      rw [nI_leI (by omega) (by omega)] at c9
      exact m_retv hQQ X Y hr hlk ⟨(fun j h14 => ((if_neg h14).trans rfl)), rfl, (fun j h12 h13 => (hB6 j h12 h13)), rfl, (show (upd I 14 (nI 1)) 14 = nI (1) from (show (upd I 14 (nI 1)) 14 = nI (1) from pk_us).trans (congrArg nI (show (1 : Nat) = 1 by omega))), (show by8 (B5 12) from y7), (show by8 (B5 13) from y8)⟩ d_makeBox_139
    | succ n1 ih3 =>
      intro i2 B5 H locs ls hii2 hsi2 hB6 y7 y8  Y hl
      refine lv_iload_n X.1 X.2.1 d_makeBox_7 rfl (lv_at hl 0 rfl) ?_
      refine lv_sipush (v := (nI 256)) X.1 X.2.1 d_makeBox_8 (by decide) ?_
      refine lv_icmp_ge (tgt := 139) X.1 X.2.1 d_makeBox_11 (by decide) (fun c10 => absurd c10 ?_) (fun c10 => ?_)
      · (rw [nI_leI (by omega) (by omega)] <;> omega)
      rw [nI_leI (by omega) (by omega)] at c10
      refine lv_iconst (v := (nI 1)) X.1 X.2.1 d_makeBox_14 (by decide) ?_
      refine lv_istore_n (lv' := [(2, .int (nI 1)), (1, .int (nI i2)), (0, .ref h)]) X.1 X.2.1 d_makeBox_15 rfl hl (by decide) rfl (fun ls hl => ?_)
      refine lv_iconst (v := (nI 0)) X.1 X.2.1 d_makeBox_16 (by decide) ?_
      refine lv_istore_n (lv' := [(3, .int (nI 0)), (2, .int (nI 1)), (1, .int (nI i2)), (0, .ref h)]) X.1 X.2.1 d_makeBox_17 rfl hl (by decide) rfl (fun ls hl => ?_)
      have lp14 : ∀ (n11 i12 : Nat) (x15 : Nat) (H : Heap) (locs : List Loc) (ls : Array Slot), i12 + n11 = 254 → 0 ≤ i12 → x15 < 256 → mH D E (mA E h q sz) s.heap h q (upd I 14 (nI 1)) J B5 G H locs → lv_has ls 6 [(3, .int (nI i12)), (2, .int (nI x15)), (1, .int (nI i2)), (0, .ref h)] → W p l e (mR 2 44) s m AV below meth c H locs 0 0 QQ (F0 m 18 ls []) := by
        intro n11
        induction n11 with
        | zero =>
          intro i12 x15 H locs ls hii12 hsi12 hxx15  Y hl
          refine lv_iload_n X.1 X.2.1 d_makeBox_18 rfl (lv_at hl 0 rfl) ?_
          refine lv_sipush (v := (nI 254)) X.1 X.2.1 d_makeBox_19 (by decide) ?_
          refine lv_icmp_ge (tgt := 37) X.1 X.2.1 d_makeBox_22 (by decide) (fun c16 => ?_) (fun c16 => absurd ?_ c16)
          rotate_left
          · (rw [nI_leI (by omega) (by omega)] <;> omega)
          rw [nI_leI (by omega) (by omega)] at c16
          refine lv_iconst (v := (nI 0)) X.1 X.2.1 d_makeBox_37 (by decide) ?_
          refine lv_istore_n (lv' := [(3, .int (nI 0)), (2, .int (nI x15)), (1, .int (nI i2)), (0, .ref h)]) X.1 X.2.1 d_makeBox_38 rfl hl (by decide) rfl (fun ls hl => ?_)
          refine lv_iconst (v := (nI 0)) X.1 X.2.1 d_makeBox_39 (by decide) ?_
          refine lv_istore (lv' := [(4, .int (nI 0)), (3, .int (nI 0)), (2, .int (nI x15)), (1, .int (nI i2)), (0, .ref h)]) X.1 X.2.1 d_makeBox_40 hl (by decide) rfl (fun ls hl => ?_)
          have lp20 : ∀ (n17 i18 : Nat) (x21 : Nat) (H : Heap) (locs : List Loc) (ls : Array Slot), i18 + n17 = 8 → 0 ≤ i18 → x21 < 256 → mH D E (mA E h q sz) s.heap h q (upd I 14 (nI 1)) J B5 G H locs → lv_has ls 6 [(4, .int (nI i18)), (3, .int (nI x21)), (2, .int (nI x15)), (1, .int (nI i2)), (0, .ref h)] → W p l e (mR 2 44) s m AV below meth c H locs 0 0 QQ (F0 m 42 ls []) := by
            intro n17
            induction n17 with
            | zero =>
              intro i18 x21 H locs ls hii18 hsi18 hxx21  Y hl
              refine lv_iload X.1 X.2.1 d_makeBox_42 (lv_at hl 0 rfl) ?_
              refine lv_bipush (v := (nI 8)) X.1 X.2.1 d_makeBox_44 (by decide) ?_
              refine lv_icmp_ge (tgt := 119) X.1 X.2.1 d_makeBox_46 (by decide) (fun c22 => ?_) (fun c22 => absurd ?_ c22)
              rotate_left
              · (rw [nI_leI (by omega) (by omega)] <;> omega)
              rw [nI_leI (by omega) (by omega)] at c22
              refine lv_aload_n X.1 X.2.1 d_makeBox_119 rfl (lv_at hl 4 rfl) ?_
              refine m_get X Y 12 (by decide) lk_box (gf_box _ _ _) rfl d_makeBox_120 ?_
              refine lv_iload_n X.1 X.2.1 d_makeBox_123 rfl (lv_at hl 3 rfl) ?_
              refine lv_iload_n X.1 X.2.1 d_makeBox_124 rfl (lv_at hl 1 rfl) ?_
              refine m_iast X Y (aw_box _ _ _ _ _ _ _) (vp_in_nI (by omega) (by decide)) (sw_box _ _ _ _ _ _ _ _) d_makeBox_125 (fun H locs Y => ?_)
              have y24 : by8 (upd (B5 12) ((nI i2)).toNatClampNeg (nI x21)) := by8_upd y7 (show x21 < 256 by omega)
              generalize (upd (B5 12) ((nI i2)).toNatClampNeg (nI x21)) = f23 at Y y24
              refine lv_aload_n X.1 X.2.1 d_makeBox_126 rfl (lv_at hl 4 rfl) ?_
              refine m_get X Y 13 (by decide) lk_back (gf_back _ _ _) rfl d_makeBox_127 ?_
              refine lv_iload_n X.1 X.2.1 d_makeBox_130 rfl (lv_at hl 1 rfl) ?_
              refine lv_iload_n X.1 X.2.1 d_makeBox_131 rfl (lv_at hl 3 rfl) ?_
              refine m_iast X Y (aw_back _ _ _ _ _ _ _) (vp_in_nI (by omega) (by decide)) (sw_back _ _ _ _ _ _ _ _) d_makeBox_132 (fun H locs Y => ?_)
              have y26 : by8 (upd ((upB B5 12 f23) 13) ((nI x21)).toNatClampNeg (nI i2)) := by8_upd y8 (show i2 < 256 by omega)
              generalize (upd ((upB B5 12 f23) 13) ((nI x21)).toNatClampNeg (nI i2)) = f25 at Y y26
              refine lv_iinc (v := (nI (i2 + 1))) (lv' := [(1, .int (nI (i2 + 1))), (4, .int (nI i18)), (3, .int (nI x21)), (2, .int (nI x15)), (0, .ref h)]) X.1 X.2.1 d_makeBox_133 hl (k := 3) rfl (nI_add _ 1) (by decide) rfl (fun ls hl => ?_)
              refine lv_goto (tgt := 7) X.1 X.2.1 d_makeBox_136 (by decide) ?_
              exact ih3 (i2 + 1) (upB (upB B5 12 f23) 13 f25) _ _ _ (by omega) (by omega) (fun j h12 h13 => ((if_neg h13).trans ((if_neg h12).trans (hB6 j h12 h13)))) (show by8 ((upB (upB B5 12 f23) 13 f25) 12) from y24) (show by8 ((upB (upB B5 12 f23) 13 f25) 13) from y26)  Y (lv_sub hl [0, 4] rfl)
            | succ n17 ih19 =>
              intro i18 x21 H locs ls hii18 hsi18 hxx21  Y hl
              refine lv_iload X.1 X.2.1 d_makeBox_42 (lv_at hl 0 rfl) ?_
              refine lv_bipush (v := (nI 8)) X.1 X.2.1 d_makeBox_44 (by decide) ?_
              refine lv_icmp_ge (tgt := 119) X.1 X.2.1 d_makeBox_46 (by decide) (fun c27 => absurd c27 ?_) (fun c27 => ?_)
              · (rw [nI_leI (by omega) (by omega)] <;> omega)
              rw [nI_leI (by omega) (by omega)] at c27
              refine lv_iload_n X.1 X.2.1 d_makeBox_49 rfl (lv_at hl 2 rfl) ?_
              refine lv_iload X.1 X.2.1 d_makeBox_50 (lv_at hl 0 rfl) ?_
              refine lv_ishr X.1 X.2.1 d_makeBox_52 ?_
              refine t_any (fun v28 => ?_)
              refine lv_iload_n X.1 X.2.1 d_makeBox_53 rfl (lv_at hl 2 rfl) ?_
              refine lv_iload X.1 X.2.1 d_makeBox_54 (lv_at hl 0 rfl) ?_
              refine lv_iconst (v := (nI 4)) X.1 X.2.1 d_makeBox_56 (by decide) ?_
              refine lv_iadd X.1 X.2.1 d_makeBox_57 ?_
              refine t_eq (y := nI (i18 + 4)) (nI_add _ _) ?_
              refine lv_bipush (v := (nI 8)) X.1 X.2.1 d_makeBox_58 (by decide) ?_
              refine lv_irem X.1 X.2.1 d_makeBox_60 (nI_ne0 (by omega) (by omega)) ?_
              refine t_eq (y := nI ((i18 + 4) % (8))) (pk_rem (by omega) (by omega) (by omega)) ?_
              refine lv_ishr X.1 X.2.1 d_makeBox_61 ?_
              refine t_any (fun v29 => ?_)
              refine lv_ixor X.1 X.2.1 d_makeBox_62 ?_
              refine t_any (fun v30 => ?_)
              refine lv_iload_n X.1 X.2.1 d_makeBox_63 rfl (lv_at hl 2 rfl) ?_
              refine lv_iload X.1 X.2.1 d_makeBox_64 (lv_at hl 0 rfl) ?_
              refine lv_iconst (v := (nI 5)) X.1 X.2.1 d_makeBox_66 (by decide) ?_
              refine lv_iadd X.1 X.2.1 d_makeBox_67 ?_
              refine t_eq (y := nI (i18 + 5)) (nI_add _ _) ?_
              refine lv_bipush (v := (nI 8)) X.1 X.2.1 d_makeBox_68 (by decide) ?_
              refine lv_irem X.1 X.2.1 d_makeBox_70 (nI_ne0 (by omega) (by omega)) ?_
              refine t_eq (y := nI ((i18 + 5) % (8))) (pk_rem (by omega) (by omega) (by omega)) ?_
              refine lv_ishr X.1 X.2.1 d_makeBox_71 ?_
              refine t_any (fun v31 => ?_)
              refine lv_ixor X.1 X.2.1 d_makeBox_72 ?_
              refine t_any (fun v32 => ?_)
              refine lv_iload_n X.1 X.2.1 d_makeBox_73 rfl (lv_at hl 2 rfl) ?_
              refine lv_iload X.1 X.2.1 d_makeBox_74 (lv_at hl 0 rfl) ?_
              refine lv_bipush (v := (nI 6)) X.1 X.2.1 d_makeBox_76 (by decide) ?_
              refine lv_iadd X.1 X.2.1 d_makeBox_78 ?_
              refine t_eq (y := nI (i18 + 6)) (nI_add _ _) ?_
              refine lv_bipush (v := (nI 8)) X.1 X.2.1 d_makeBox_79 (by decide) ?_
              refine lv_irem X.1 X.2.1 d_makeBox_81 (nI_ne0 (by omega) (by omega)) ?_
              refine t_eq (y := nI ((i18 + 6) % (8))) (pk_rem (by omega) (by omega) (by omega)) ?_
              refine lv_ishr X.1 X.2.1 d_makeBox_82 ?_
              refine t_any (fun v33 => ?_)
              refine lv_ixor X.1 X.2.1 d_makeBox_83 ?_
              refine t_any (fun v34 => ?_)
              refine lv_iload_n X.1 X.2.1 d_makeBox_84 rfl (lv_at hl 2 rfl) ?_
              refine lv_iload X.1 X.2.1 d_makeBox_85 (lv_at hl 0 rfl) ?_
              refine lv_bipush (v := (nI 7)) X.1 X.2.1 d_makeBox_87 (by decide) ?_
              refine lv_iadd X.1 X.2.1 d_makeBox_89 ?_
              refine t_eq (y := nI (i18 + 7)) (nI_add _ _) ?_
              refine lv_bipush (v := (nI 8)) X.1 X.2.1 d_makeBox_90 (by decide) ?_
              refine lv_irem X.1 X.2.1 d_makeBox_92 (nI_ne0 (by omega) (by omega)) ?_
              refine t_eq (y := nI ((i18 + 7) % (8))) (pk_rem (by omega) (by omega) (by omega)) ?_
              refine lv_ishr X.1 X.2.1 d_makeBox_93 ?_
              refine t_any (fun v35 => ?_)
              refine lv_ixor X.1 X.2.1 d_makeBox_94 ?_
              refine t_any (fun v36 => ?_)
              refine lv_bipush (v := (nI 99)) X.1 X.2.1 d_makeBox_95 (by decide) ?_
              refine lv_iload X.1 X.2.1 d_makeBox_97 (lv_at hl 0 rfl) ?_
              refine lv_ishr X.1 X.2.1 d_makeBox_99 ?_
              refine t_any (fun v37 => ?_)
              refine lv_ixor X.1 X.2.1 d_makeBox_100 ?_
              refine t_any (fun v38 => ?_)
              refine lv_istore (lv' := [(5, .int v38), (4, .int (nI i18)), (3, .int (nI x21)), (2, .int (nI x15)), (1, .int (nI i2)), (0, .ref h)]) X.1 X.2.1 d_makeBox_101 hl (by decide) rfl (fun ls hl => ?_)
              refine lv_iload_n X.1 X.2.1 d_makeBox_103 rfl (lv_at hl 2 rfl) ?_
              refine lv_iload X.1 X.2.1 d_makeBox_104 (lv_at hl 0 rfl) ?_
              refine lv_iconst (v := (nI 1)) X.1 X.2.1 d_makeBox_106 (by decide) ?_
              refine lv_iand X.1 X.2.1 d_makeBox_107 ?_
              obtain ⟨j39, hj39, ej39⟩ := pk_andE v38 (m := nI 1) 1 (by decide)
              refine t_eq ej39 ?_
              have hj39 : j39 < 2 := hj39
              refine lv_iload X.1 X.2.1 d_makeBox_108 (lv_at hl 1 rfl) ?_
              refine lv_ishl X.1 X.2.1 d_makeBox_110 ?_
              obtain ⟨j40, hj40, ej40⟩ := by_bit (i18) (by omega) (j39) (by omega)
              refine t_eq ej40 ?_
              refine lv_ior X.1 X.2.1 d_makeBox_111 ?_
              obtain ⟨j41, hj41, ej41⟩ := by_ior (a := x21) (b := j40) (by omega) (by omega)
              refine t_eq ej41 ?_
              refine lv_istore_n (lv' := [(3, .int (nI j41)), (5, .int v38), (4, .int (nI i18)), (2, .int (nI x15)), (1, .int (nI i2)), (0, .ref h)]) X.1 X.2.1 d_makeBox_112 rfl hl (by decide) rfl (fun ls hl => ?_)
              refine lv_iinc (v := (nI (i18 + 1))) (lv' := [(4, .int (nI (i18 + 1))), (3, .int (nI j41)), (5, .int v38), (2, .int (nI x15)), (1, .int (nI i2)), (0, .ref h)]) X.1 X.2.1 d_makeBox_113 hl (k := 2) rfl (nI_add _ 1) (by decide) rfl (fun ls hl => ?_)
              refine lv_goto (tgt := 42) X.1 X.2.1 d_makeBox_116 (by decide) ?_
              exact ih19 (i18 + 1) (j41) _ _ _ (by omega) (by omega) (by omega)  Y (lv_sub hl [0, 1, 3, 4, 5] rfl)
          exact lp20 (8) 0 (0) _ _ _ (by omega) (by omega) (by omega)  Y (lv_sub hl [0, 1, 2, 3, 4] rfl)
        | succ n11 ih13 =>
          intro i12 x15 H locs ls hii12 hsi12 hxx15  Y hl
          refine lv_iload_n X.1 X.2.1 d_makeBox_18 rfl (lv_at hl 0 rfl) ?_
          refine lv_sipush (v := (nI 254)) X.1 X.2.1 d_makeBox_19 (by decide) ?_
          refine lv_icmp_ge (tgt := 37) X.1 X.2.1 d_makeBox_22 (by decide) (fun c42 => absurd c42 ?_) (fun c42 => ?_)
          · (rw [nI_leI (by omega) (by omega)] <;> omega)
          rw [nI_leI (by omega) (by omega)] at c42
          refine lv_iload_n X.1 X.2.1 d_makeBox_25 rfl (lv_at hl 1 rfl) ?_
          refine lv_iload_n X.1 X.2.1 d_makeBox_26 rfl (lv_at hl 2 rfl) ?_
          refine p_calli (As := [.int (nI x15), .int (nI i2)]) (rest := []) (n := 2) X Y hml hl.1 (c_product l (x15) (i2) (by omega) (by omega)) kl_product ks_product ki_product ini_M (by decide +kernel) ⟨by decide, by decide⟩ rfl (Nat.le_of_ble_eq_true rfl) d_makeBox_27 ⟨Nat.le_refl _, Nat.le_refl _⟩ (fun r43 H locs hpr43 Y => ?_)
          obtain ⟨j44, hj44, ej44⟩ := hpr43
          refine t_eq ej44 ?_
          refine lv_istore_n (lv' := [(2, .int (nI j44)), (3, .int (nI i12)), (1, .int (nI i2)), (0, .ref h)]) X.1 X.2.1 d_makeBox_30 rfl hl (by decide) rfl (fun ls hl => ?_)
          refine lv_iinc (v := (nI (i12 + 1))) (lv' := [(3, .int (nI (i12 + 1))), (2, .int (nI j44)), (1, .int (nI i2)), (0, .ref h)]) X.1 X.2.1 d_makeBox_31 hl (k := 1) rfl (nI_add _ 1) (by decide) rfl (fun ls hl => ?_)
          refine lv_goto (tgt := 18) X.1 X.2.1 d_makeBox_34 (by decide) ?_
          exact ih13 (i12 + 1) (j44) _ _ _ (by omega) (by omega) (by omega)  Y (lv_sub hl [0, 1, 2, 3] rfl)
      exact lp14 (254) 0 (1) _ _ _ (by omega) (by omega) (by omega)  Y (lv_sub hl [0, 1, 2, 3] rfl)
  exact lp4 (256) 0 B _ _ _ (by omega) (by omega) (fun j h12 h13 => rfl) (show by8 (B 12) from y12) (show by8 (B 13) from y13)  Y (lv_sub hl [0, 1] rfl)
set_option maxHeartbeats 4000000 in
set_option maxRecDepth 100000 in
theorem c_boxed (l : Launch) (D : mD) (E : mE) (h : Nat) (q : Nat → Nat) (sz : Nat) (I : Nat → Int32) (J : Nat → Int64) (B : Nat → Nat → Int32) (G : Nat → Nat → Int64) (a1 : Int32) : Met l y_boxed (k_boxed :: lw_tg) (mR 0 0) (va_Pc [.ref h, .int a1] (mPre D E h q (I, J, B, G) sz)) (va_Qi (fun (r : Int32) (u : mS) => (∀ j, u.1 j = I j) ∧ u.2.1 = J ∧ (∀ j, u.2.2.1 j = B j) ∧ u.2.2.2 = G ∧ (True)) (mPost D E h q (mA E h q sz)) (mA E h q sz)) 0 0 (mA E h q sz) := by
  refine m_enter (by decide) rfl (Nat.le_of_ble_eq_true rfl) (fun p e s m below meth c ls AV QQ H locs hQQ X Y hZ hA hr hlk hml hl => ?_)
  have Y : mH D E (mA E h q sz) s.heap h q I J B G H locs := Y
  have hl : lv_has ls 2 [(0, .ref h), (1, .int a1)] := hl
  refine lv_aload_n X.1 X.2.1 d_boxed_0 rfl (lv_at hl 0 rfl) ?_
  refine m_get X Y 12 (by decide) lk_box (gf_box _ _ _) rfl d_boxed_1 ?_
  refine lv_iload_n X.1 X.2.1 d_boxed_4 rfl (lv_at hl 1 rfl) ?_
  refine lv_bipush (v := (nI 24)) X.1 X.2.1 d_boxed_5 (by decide) ?_
  obtain ⟨j2, hj2, ej2⟩ := by_us24 a1
  refine lv_iushr (v := nI j2) X.1 X.2.1 d_boxed_7 ej2 ?_
  refine m_iald X Y (aw_box _ _ _ _ _ _ _) (vp_in_nI (by omega) (by decide)) d_boxed_8 ?_
  refine t_any (fun v3 => ?_)
  refine lv_bipush (v := (nI 24)) X.1 X.2.1 d_boxed_9 (by decide) ?_
  refine lv_ishl X.1 X.2.1 d_boxed_11 ?_
  refine t_any (fun v4 => ?_)
  refine lv_aload_n X.1 X.2.1 d_boxed_12 rfl (lv_at hl 0 rfl) ?_
  refine m_get X Y 12 (by decide) lk_box (gf_box _ _ _) rfl d_boxed_13 ?_
  refine lv_iload_n X.1 X.2.1 d_boxed_16 rfl (lv_at hl 1 rfl) ?_
  refine lv_bipush (v := (nI 16)) X.1 X.2.1 d_boxed_17 (by decide) ?_
  obtain ⟨v5, ev5⟩ : ∃ z : Int32, ((a1 : Int32).toUInt32 >>> (((nI 16) : Int32).toUInt32 &&& Int32.toUInt32 31)).toInt32 = z := ⟨_, rfl⟩
  refine lv_iushr (v := v5) X.1 X.2.1 d_boxed_19 ev5 ?_
  refine lv_sipush (v := (nI 255)) X.1 X.2.1 d_boxed_20 (by decide) ?_
  refine lv_iand X.1 X.2.1 d_boxed_23 ?_
  obtain ⟨j6, hj6, ej6⟩ := pk_andE v5 (m := nI 255) 8 (by decide)
  refine t_eq ej6 ?_
  have hj6 : j6 < 256 := hj6
  refine m_iald X Y (aw_box _ _ _ _ _ _ _) (vp_in_nI (by omega) (by decide)) d_boxed_24 ?_
  refine t_any (fun v7 => ?_)
  refine lv_bipush (v := (nI 16)) X.1 X.2.1 d_boxed_25 (by decide) ?_
  refine lv_ishl X.1 X.2.1 d_boxed_27 ?_
  refine t_any (fun v8 => ?_)
  refine lv_ior X.1 X.2.1 d_boxed_28 ?_
  refine t_any (fun v9 => ?_)
  refine lv_aload_n X.1 X.2.1 d_boxed_29 rfl (lv_at hl 0 rfl) ?_
  refine m_get X Y 12 (by decide) lk_box (gf_box _ _ _) rfl d_boxed_30 ?_
  refine lv_iload_n X.1 X.2.1 d_boxed_33 rfl (lv_at hl 1 rfl) ?_
  refine lv_bipush (v := (nI 8)) X.1 X.2.1 d_boxed_34 (by decide) ?_
  obtain ⟨v10, ev10⟩ : ∃ z : Int32, ((a1 : Int32).toUInt32 >>> (((nI 8) : Int32).toUInt32 &&& Int32.toUInt32 31)).toInt32 = z := ⟨_, rfl⟩
  refine lv_iushr (v := v10) X.1 X.2.1 d_boxed_36 ev10 ?_
  refine lv_sipush (v := (nI 255)) X.1 X.2.1 d_boxed_37 (by decide) ?_
  refine lv_iand X.1 X.2.1 d_boxed_40 ?_
  obtain ⟨j11, hj11, ej11⟩ := pk_andE v10 (m := nI 255) 8 (by decide)
  refine t_eq ej11 ?_
  have hj11 : j11 < 256 := hj11
  refine m_iald X Y (aw_box _ _ _ _ _ _ _) (vp_in_nI (by omega) (by decide)) d_boxed_41 ?_
  refine t_any (fun v12 => ?_)
  refine lv_bipush (v := (nI 8)) X.1 X.2.1 d_boxed_42 (by decide) ?_
  refine lv_ishl X.1 X.2.1 d_boxed_44 ?_
  refine t_any (fun v13 => ?_)
  refine lv_ior X.1 X.2.1 d_boxed_45 ?_
  refine t_any (fun v14 => ?_)
  refine lv_aload_n X.1 X.2.1 d_boxed_46 rfl (lv_at hl 0 rfl) ?_
  refine m_get X Y 12 (by decide) lk_box (gf_box _ _ _) rfl d_boxed_47 ?_
  refine lv_iload_n X.1 X.2.1 d_boxed_50 rfl (lv_at hl 1 rfl) ?_
  refine lv_sipush (v := (nI 255)) X.1 X.2.1 d_boxed_51 (by decide) ?_
  refine lv_iand X.1 X.2.1 d_boxed_54 ?_
  obtain ⟨j15, hj15, ej15⟩ := pk_andE a1 (m := nI 255) 8 (by decide)
  refine t_eq ej15 ?_
  have hj15 : j15 < 256 := hj15
  refine m_iald X Y (aw_box _ _ _ _ _ _ _) (vp_in_nI (by omega) (by decide)) d_boxed_55 ?_
  refine t_any (fun v16 => ?_)
  refine lv_ior X.1 X.2.1 d_boxed_56 ?_
  refine t_any (fun v17 => ?_)
  exact m_reti hQQ X Y hr hlk ⟨(fun j  => rfl), rfl, (fun j  => rfl), rfl, trivial⟩ d_boxed_57
set_option maxHeartbeats 4000000 in
set_option maxRecDepth 100000 in
theorem c_aesKey_long0_16 (l : Launch) (D : mD) (E : mE) (h : Nat) (q : Nat → Nat) (sz : Nat) (I : Nat → Int32) (J : Nat → Int64) (B : Nat → Nat → Int32) (G : Nat → Nat → Int64)  (y12 : by8 (B 12)) (y13 : by8 (B 13)) : Met l y_aesKey (k_aesKey :: lw_tg) (mR 3 69) (va_Pc [.ref h, .ref (q 27), .int (nI 16)] (mPre D E h q (I, J, B, G) sz)) (va_Qv (fun (u : mS) => (∀ j, j ≠ 14 → j ≠ 18 → u.1 j = I j) ∧ u.2.1 = J ∧ (∀ j, j ≠ 12 → j ≠ 13 → j ≠ 15 → u.2.2.1 j = B j) ∧ u.2.2.2 = G ∧ u.1 18 = nI (10) ∧ by8 (u.2.2.1 12) ∧ by8 (u.2.2.1 13)) (mPost D E h q (mA E h q sz)) (mA E h q sz)) 0 0 (mA E h q sz) := by
  refine m_enter (by decide) rfl (Nat.le_of_ble_eq_true rfl) (fun p e s m below meth c ls AV QQ H locs hQQ X Y hZ hA hr hlk hml hl => ?_)
  have Y : mH D E (mA E h q sz) s.heap h q I J B G H locs := Y
  have hl : lv_has ls 7 [(0, .ref h), (1, .ref (q 27)), (2, .int (nI 16))] := hl
  refine lv_aload_n X.1 X.2.1 d_aesKey_0 rfl (lv_at hl 0 rfl) ?_
  refine m_get X Y 14 (by decide) lk_hasBox (gf_hasBox _ _ _) rfl d_aesKey_1 ?_
  refine lv_if_ne (tgt := 11) X.1 X.2.1 d_aesKey_4 (by decide) (fun c1 => ?_) (fun c1 => ?_)
  · skip
    refine lv_iload_n X.1 X.2.1 d_aesKey_11 rfl (lv_at hl 2 rfl) ?_
    refine lv_iconst (v := (nI 4)) X.1 X.2.1 d_aesKey_12 (by decide) ?_
    refine lv_idiv X.1 X.2.1 d_aesKey_13 (nI_ne0 (by omega) (by omega)) ?_
    refine t_eq (y := nI 4) (by decide) ?_
    refine lv_istore_n (lv' := [(3, .int (nI 4)), (0, .ref h), (1, .ref (q 27)), (2, .int (nI 16))]) X.1 X.2.1 d_aesKey_14 rfl hl (by decide) rfl (fun ls hl => ?_)
    refine lv_aload_n X.1 X.2.1 d_aesKey_15 rfl (lv_at hl 1 rfl) ?_
    refine lv_iload_n X.1 X.2.1 d_aesKey_16 rfl (lv_at hl 0 rfl) ?_
    refine lv_bipush (v := (nI 6)) X.1 X.2.1 d_aesKey_17 (by decide) ?_
    refine lv_iadd X.1 X.2.1 d_aesKey_19 ?_
    refine t_eq (y := nI 10) (by decide) ?_
    refine m_puti X Y 18 (by decide) lk_rounds rfl rfl (t_M_ok 18 (by decide)) rfl rfl (sf_rounds _ _ _ _) (Nat.le_of_ble_eq_true rfl) d_aesKey_20 (fun H locs Y => ?_)
    refine lv_iconst (v := (nI 0)) X.1 X.2.1 d_aesKey_23 (by decide) ?_
    refine lv_istore (lv' := [(4, .int (nI 0)), (3, .int (nI 4)), (0, .ref h), (1, .ref (q 27)), (2, .int (nI 16))]) X.1 X.2.1 d_aesKey_24 hl (by decide) rfl (fun ls hl => ?_)
    have lp5 : ∀ (n2 i3 : Nat) (B6 : Nat → Nat → Int32) (H : Heap) (locs : List Loc) (ls : Array Slot), i3 + n2 = 4 → 0 ≤ i3 → (∀ j, j ≠ 12 → j ≠ 13 → j ≠ 15 → B6 j = B j) → by8 (B6 12) → by8 (B6 13) → mH D E (mA E h q sz) s.heap h q (upd I 18 (nI 10)) J B6 G H locs → lv_has ls 7 [(4, .int (nI i3)), (3, .int (nI 4)), (0, .ref h), (1, .ref (q 27)), (2, .int (nI 16))] → W p l e (mR 3 69) s m AV below meth c H locs 0 0 QQ (F0 m 26 ls []) := by
      intro n2
      induction n2 with
      | zero =>
        intro i3 B6 H locs ls hii3 hsi3 hB7 y8 y9  Y hl
        refine lv_iload X.1 X.2.1 d_aesKey_26 (lv_at hl 0 rfl) ?_
        refine lv_iload_n X.1 X.2.1 d_aesKey_28 rfl (lv_at hl 1 rfl) ?_
        refine lv_icmp_ge (tgt := 99) X.1 X.2.1 d_aesKey_29 (by decide) (fun c10 => ?_) (fun c10 => absurd ?_ c10)
        rotate_left
        · (rw [nI_leI (by omega) (by omega)] <;> omega)
        rw [nI_leI (by omega) (by omega)] at c10
        refine lv_iconst (v := (nI 1)) X.1 X.2.1 d_aesKey_99 (by decide) ?_
        refine lv_istore (lv' := [(4, .int (nI 1)), (3, .int (nI 4)), (0, .ref h), (1, .ref (q 27)), (2, .int (nI 16))]) X.1 X.2.1 d_aesKey_100 hl (by decide) rfl (fun ls hl => ?_)
        refine lv_iload_n X.1 X.2.1 d_aesKey_102 rfl (lv_at hl 1 rfl) ?_
        refine lv_istore (lv' := [(5, .int (nI 4)), (4, .int (nI 1)), (3, .int (nI 4)), (0, .ref h), (1, .ref (q 27)), (2, .int (nI 16))]) X.1 X.2.1 d_aesKey_103 hl (by decide) rfl (fun ls hl => ?_)
        have lp14 : ∀ (n11 i12 : Nat) (B15 : Nat → Nat → Int32) (x16 : Nat) (H : Heap) (locs : List Loc) (ls : Array Slot), i12 + n11 = 44 → 4 ≤ i12 → (∀ j, j ≠ 12 → j ≠ 13 → j ≠ 15 → B15 j = B j) → by8 (B15 12) → by8 (B15 13) → x16 < 256 → mH D E (mA E h q sz) s.heap h q (upd I 18 (nI 10)) J B15 G H locs → lv_has ls 7 [(5, .int (nI i12)), (4, .int (nI x16)), (3, .int (nI 4)), (0, .ref h), (1, .ref (q 27)), (2, .int (nI 16))] → W p l e (mR 3 69) s m AV below meth c H locs 0 0 QQ (F0 m 105 ls []) := by
          intro n11
          induction n11 with
          | zero =>
            intro i12 B15 x16 H locs ls hii12 hsi12 hB17 y18 y19 hxx16  Y hl
            refine lv_iload X.1 X.2.1 d_aesKey_105 (lv_at hl 0 rfl) ?_
            refine lv_iconst (v := (nI 4)) X.1 X.2.1 d_aesKey_107 (by decide) ?_
            refine lv_aload_n X.1 X.2.1 d_aesKey_108 rfl (lv_at hl 3 rfl) ?_
            refine m_get X Y 18 (by decide) lk_rounds (gf_rounds _ _ _) rfl d_aesKey_109 ?_
            refine t_eq (show (upd I 18 (nI 10)) 18 = nI (10) from pk_us) ?_
            refine lv_iconst (v := (nI 1)) X.1 X.2.1 d_aesKey_112 (by decide) ?_
            refine lv_iadd X.1 X.2.1 d_aesKey_113 ?_
            refine t_eq (y := nI 11) (by decide) ?_
            refine lv_imul X.1 X.2.1 d_aesKey_114 ?_
            refine t_eq (y := nI 44) (by decide) ?_
            refine lv_icmp_ge (tgt := 212) X.1 X.2.1 d_aesKey_115 (by decide) (fun c20 => ?_) (fun c20 => absurd ?_ c20)
            rotate_left
            · (rw [nI_leI (by omega) (by omega)] <;> omega)
            rw [nI_leI (by omega) (by omega)] at c20
            exact m_retv hQQ X Y hr hlk ⟨(fun j h14 h18 => ((if_neg h18).trans rfl)), rfl, (fun j h12 h13 h15 => (hB17 j h12 h13 h15)), rfl, (show (upd I 18 (nI 10)) 18 = nI (10) from (show (upd I 18 (nI 10)) 18 = nI (10) from pk_us).trans (congrArg nI (show (10 : Nat) = 10 by omega))), (show by8 (B15 12) from y18), (show by8 (B15 13) from y19)⟩ d_aesKey_212
          | succ n11 ih13 =>
            intro i12 B15 x16 H locs ls hii12 hsi12 hB17 y18 y19 hxx16  Y hl
            refine lv_iload X.1 X.2.1 d_aesKey_105 (lv_at hl 0 rfl) ?_
            refine lv_iconst (v := (nI 4)) X.1 X.2.1 d_aesKey_107 (by decide) ?_
            refine lv_aload_n X.1 X.2.1 d_aesKey_108 rfl (lv_at hl 3 rfl) ?_
            refine m_get X Y 18 (by decide) lk_rounds (gf_rounds _ _ _) rfl d_aesKey_109 ?_
            refine t_eq (show (upd I 18 (nI 10)) 18 = nI (10) from pk_us) ?_
            refine lv_iconst (v := (nI 1)) X.1 X.2.1 d_aesKey_112 (by decide) ?_
            refine lv_iadd X.1 X.2.1 d_aesKey_113 ?_
            refine t_eq (y := nI 11) (by decide) ?_
            refine lv_imul X.1 X.2.1 d_aesKey_114 ?_
            refine t_eq (y := nI 44) (by decide) ?_
            refine lv_icmp_ge (tgt := 212) X.1 X.2.1 d_aesKey_115 (by decide) (fun c21 => absurd c21 ?_) (fun c21 => ?_)
            · (rw [nI_leI (by omega) (by omega)] <;> omega)
            rw [nI_leI (by omega) (by omega)] at c21
            refine lv_aload_n X.1 X.2.1 d_aesKey_118 rfl (lv_at hl 3 rfl) ?_
            refine m_get X Y 15 (by decide) lk_schedule (gf_schedule _ _ _) rfl d_aesKey_119 ?_
            refine lv_iload X.1 X.2.1 d_aesKey_122 (lv_at hl 0 rfl) ?_
            refine lv_iconst (v := (nI 1)) X.1 X.2.1 d_aesKey_124 (by decide) ?_
            refine lv_isub X.1 X.2.1 d_aesKey_125 ?_
            refine t_eq (y := nI (i12 - (1))) (pk_sub (by omega)) ?_
            refine m_iald X Y (aw_schedule _ _ _ _ _ _ _) (vp_in_nI (by omega) (by decide)) d_aesKey_126 ?_
            refine t_any (fun v22 => ?_)
            refine lv_istore (lv' := [(6, .int v22), (5, .int (nI i12)), (4, .int (nI x16)), (3, .int (nI 4)), (0, .ref h), (1, .ref (q 27)), (2, .int (nI 16))]) X.1 X.2.1 d_aesKey_127 hl (by decide) rfl (fun ls hl => ?_)
            refine lv_iload X.1 X.2.1 d_aesKey_129 (lv_at hl 1 rfl) ?_
            refine lv_iload_n X.1 X.2.1 d_aesKey_131 rfl (lv_at hl 3 rfl) ?_
            refine lv_irem X.1 X.2.1 d_aesKey_132 (nI_ne0 (by omega) (by omega)) ?_
            refine t_eq (y := nI ((i12) % (4))) (pk_rem (by omega) (by omega) (by omega)) ?_
            refine lv_if_ne (tgt := 165) X.1 X.2.1 d_aesKey_133 (by decide) (fun c23 => ?_) (fun c23 => ?_)
            · skip
              rw [← nI_0] at c23
              rw [nI_eq (by omega) (by omega)] at c23
              refine lv_iload_n X.1 X.2.1 d_aesKey_165 rfl (lv_at hl 3 rfl) ?_
              refine lv_bipush (v := (nI 6)) X.1 X.2.1 d_aesKey_166 (by decide) ?_
              refine lv_icmp_le (tgt := 187) X.1 X.2.1 d_aesKey_168 (by decide) (fun c24 => ?_) (fun c24 => absurd ?_ c24)
              rotate_left
              · (rw [nI_leI (by omega) (by omega)] <;> omega)
              rw [nI_leI (by omega) (by omega)] at c24
              refine lv_aload_n X.1 X.2.1 d_aesKey_187 rfl (lv_at hl 4 rfl) ?_
              refine m_get X Y 15 (by decide) lk_schedule (gf_schedule _ _ _) rfl d_aesKey_188 ?_
              refine lv_iload X.1 X.2.1 d_aesKey_191 (lv_at hl 1 rfl) ?_
              refine lv_aload_n X.1 X.2.1 d_aesKey_193 rfl (lv_at hl 4 rfl) ?_
              refine m_get X Y 15 (by decide) lk_schedule (gf_schedule _ _ _) rfl d_aesKey_194 ?_
              refine lv_iload X.1 X.2.1 d_aesKey_197 (lv_at hl 1 rfl) ?_
              refine lv_iload_n X.1 X.2.1 d_aesKey_199 rfl (lv_at hl 3 rfl) ?_
              refine lv_isub X.1 X.2.1 d_aesKey_200 ?_
              refine t_eq (y := nI (i12 - (4))) (pk_sub (by omega)) ?_
              refine m_iald X Y (aw_schedule _ _ _ _ _ _ _) (vp_in_nI (by omega) (by decide)) d_aesKey_201 ?_
              refine t_any (fun v25 => ?_)
              refine lv_iload X.1 X.2.1 d_aesKey_202 (lv_at hl 0 rfl) ?_
              refine lv_ixor X.1 X.2.1 d_aesKey_204 ?_
              refine t_any (fun v26 => ?_)
              refine m_iast X Y (aw_schedule _ _ _ _ _ _ _) (vp_in_nI (by omega) (by decide)) (sw_schedule _ _ _ _ _ _ _ _) d_aesKey_205 (fun H locs Y => ?_)
              generalize (upd (B15 15) ((nI i12)).toNatClampNeg v26) = f27 at Y
              refine lv_iinc (v := (nI (i12 + 1))) (lv' := [(5, .int (nI (i12 + 1))), (6, .int v22), (4, .int (nI x16)), (3, .int (nI 4)), (0, .ref h), (1, .ref (q 27)), (2, .int (nI 16))]) X.1 X.2.1 d_aesKey_206 hl (k := 1) rfl (nI_add _ 1) (by decide) rfl (fun ls hl => ?_)
              refine lv_goto (tgt := 105) X.1 X.2.1 d_aesKey_209 (by decide) ?_
              exact ih13 (i12 + 1) (upB B15 15 f27) (x16) _ _ _ (by omega) (by omega) (fun j h12 h13 h15 => ((if_neg h15).trans (hB17 j h12 h13 h15))) (show by8 ((upB B15 15 f27) 12) from y18) (show by8 ((upB B15 15 f27) 13) from y19) (by omega)  Y (lv_sub hl [0, 2, 3, 4, 5, 6] rfl)
            · skip
              rw [← nI_0] at c23
              rw [nI_eq (by omega) (by omega)] at c23
              refine lv_aload_n X.1 X.2.1 d_aesKey_136 rfl (lv_at hl 4 rfl) ?_
              refine lv_iload X.1 X.2.1 d_aesKey_137 (lv_at hl 0 rfl) ?_
              refine lv_bipush (v := (nI 8)) X.1 X.2.1 d_aesKey_139 (by decide) ?_
              refine p_calli (As := [.int v22, .int (nI 8)]) (rest := [.ref h]) (n := 2) X Y hml hl.1 (c_left l v22 (nI 8)) kl_left ks_left ki_left ini_M (by decide +kernel) ⟨by decide, by decide⟩ rfl (Nat.le_of_ble_eq_true rfl) d_aesKey_141 ⟨Nat.le_refl _, Nat.le_refl _⟩ (fun r28 H locs hpr28 Y => ?_)
              refine m_calli (As := [.int r28]) (rest := []) (n := 1) X Y hZ hA hml hl.1 (c_boxed l D E h q H.size (upd I 18 (nI 10)) J B15 G r28) kl_boxed ks_boxed kx_boxed ki_boxed ini_M hd_boxed ⟨by decide, by decide⟩ rfl (Nat.le_of_ble_eq_true rfl) d_aesKey_144 ⟨Nat.le_refl _, Nat.le_refl _⟩ (fun r37 u H locs hp Y => ?_)
              obtain ⟨I29, J30, B31, G32⟩ := u
              obtain ⟨hI33, eJ35, hB34, eG36, pr37⟩ := hp
              dsimp only at hI33 eJ35 hB34 eG36 pr37 Y
              rw [eJ35, eG36] at Y
              rw [show I29 = (upd I 18 (nI 10)) from funext hI33] at Y
              rw [show B31 = B15 from funext hB34] at Y
              refine lv_iload X.1 X.2.1 d_aesKey_147 (lv_at hl 2 rfl) ?_
              refine lv_bipush (v := (nI 24)) X.1 X.2.1 d_aesKey_149 (by decide) ?_
              refine lv_ishl X.1 X.2.1 d_aesKey_151 ?_
              refine t_any (fun v40 => ?_)
              refine lv_ixor X.1 X.2.1 d_aesKey_152 ?_
              refine t_any (fun v41 => ?_)
              refine lv_istore (lv' := [(6, .int v41), (5, .int (nI i12)), (4, .int (nI x16)), (3, .int (nI 4)), (0, .ref h), (1, .ref (q 27)), (2, .int (nI 16))]) X.1 X.2.1 d_aesKey_153 hl (by decide) rfl (fun ls hl => ?_)
              refine lv_iload X.1 X.2.1 d_aesKey_155 (lv_at hl 2 rfl) ?_
              refine p_calli (As := [.int (nI x16)]) (rest := []) (n := 1) X Y hml hl.1 (c_twice l (nI x16)) kl_twice ks_twice ki_twice ini_M (by decide +kernel) ⟨by decide, by decide⟩ rfl (Nat.le_of_ble_eq_true rfl) d_aesKey_157 ⟨Nat.le_refl _, Nat.le_refl _⟩ (fun r42 H locs hpr42 Y => ?_)
              obtain ⟨j43, hj43, ej43⟩ := hpr42
              refine t_eq ej43 ?_
              refine lv_istore (lv' := [(4, .int (nI j43)), (6, .int v41), (5, .int (nI i12)), (3, .int (nI 4)), (0, .ref h), (1, .ref (q 27)), (2, .int (nI 16))]) X.1 X.2.1 d_aesKey_160 hl (by decide) rfl (fun ls hl => ?_)
              refine lv_goto (tgt := 187) X.1 X.2.1 d_aesKey_162 (by decide) ?_
              refine lv_aload_n X.1 X.2.1 d_aesKey_187 rfl (lv_at hl 4 rfl) ?_
              refine m_get X Y 15 (by decide) lk_schedule (gf_schedule _ _ _) rfl d_aesKey_188 ?_
              refine lv_iload X.1 X.2.1 d_aesKey_191 (lv_at hl 2 rfl) ?_
              refine lv_aload_n X.1 X.2.1 d_aesKey_193 rfl (lv_at hl 4 rfl) ?_
              refine m_get X Y 15 (by decide) lk_schedule (gf_schedule _ _ _) rfl d_aesKey_194 ?_
              refine lv_iload X.1 X.2.1 d_aesKey_197 (lv_at hl 2 rfl) ?_
              refine lv_iload_n X.1 X.2.1 d_aesKey_199 rfl (lv_at hl 3 rfl) ?_
              refine lv_isub X.1 X.2.1 d_aesKey_200 ?_
              refine t_eq (y := nI (i12 - (4))) (pk_sub (by omega)) ?_
              refine m_iald X Y (aw_schedule _ _ _ _ _ _ _) (vp_in_nI (by omega) (by decide)) d_aesKey_201 ?_
              refine t_any (fun v44 => ?_)
              refine lv_iload X.1 X.2.1 d_aesKey_202 (lv_at hl 1 rfl) ?_
              refine lv_ixor X.1 X.2.1 d_aesKey_204 ?_
              refine t_any (fun v45 => ?_)
              refine m_iast X Y (aw_schedule _ _ _ _ _ _ _) (vp_in_nI (by omega) (by decide)) (sw_schedule _ _ _ _ _ _ _ _) d_aesKey_205 (fun H locs Y => ?_)
              generalize (upd (B15 15) ((nI i12)).toNatClampNeg v45) = f46 at Y
              refine lv_iinc (v := (nI (i12 + 1))) (lv' := [(5, .int (nI (i12 + 1))), (4, .int (nI j43)), (6, .int v41), (3, .int (nI 4)), (0, .ref h), (1, .ref (q 27)), (2, .int (nI 16))]) X.1 X.2.1 d_aesKey_206 hl (k := 2) rfl (nI_add _ 1) (by decide) rfl (fun ls hl => ?_)
              refine lv_goto (tgt := 105) X.1 X.2.1 d_aesKey_209 (by decide) ?_
              exact ih13 (i12 + 1) (upB B15 15 f46) (j43) _ _ _ (by omega) (by omega) (fun j h12 h13 h15 => ((if_neg h15).trans (hB17 j h12 h13 h15))) (show by8 ((upB B15 15 f46) 12) from y18) (show by8 ((upB B15 15 f46) 13) from y19) (by omega)  Y (lv_sub hl [0, 1, 3, 4, 5, 6] rfl)
        exact lp14 (44 - 4) 4 B6 (1) _ _ _ (by omega) (by omega) (fun j h12 h13 h15 => (hB7 j h12 h13 h15)) (show by8 (B6 12) from y8) (show by8 (B6 13) from y9) (by omega)  Y (lv_sub hl [0, 1, 2, 3, 4, 5] rfl)
      | succ n2 ih4 =>
        intro i3 B6 H locs ls hii3 hsi3 hB7 y8 y9  Y hl
        refine lv_iload X.1 X.2.1 d_aesKey_26 (lv_at hl 0 rfl) ?_
        refine lv_iload_n X.1 X.2.1 d_aesKey_28 rfl (lv_at hl 1 rfl) ?_
        refine lv_icmp_ge (tgt := 99) X.1 X.2.1 d_aesKey_29 (by decide) (fun c47 => absurd c47 ?_) (fun c47 => ?_)
        · (rw [nI_leI (by omega) (by omega)] <;> omega)
        rw [nI_leI (by omega) (by omega)] at c47
        refine lv_aload_n X.1 X.2.1 d_aesKey_32 rfl (lv_at hl 2 rfl) ?_
        refine m_get X Y 15 (by decide) lk_schedule (gf_schedule _ _ _) rfl d_aesKey_33 ?_
        refine lv_iload X.1 X.2.1 d_aesKey_36 (lv_at hl 0 rfl) ?_
        refine lv_aload_n X.1 X.2.1 d_aesKey_38 rfl (lv_at hl 3 rfl) ?_
        refine lv_iconst (v := (nI 4)) X.1 X.2.1 d_aesKey_39 (by decide) ?_
        refine lv_iload X.1 X.2.1 d_aesKey_40 (lv_at hl 0 rfl) ?_
        refine lv_imul X.1 X.2.1 d_aesKey_42 ?_
        refine t_eq (y := nI ((4) * (i3))) (pk_mul _ _) ?_
        refine m_bald X Y (aw_long0 _ _ _ _ _ _ _) (vp_in_nI (by omega) (by decide)) d_aesKey_43 ?_
        refine t_any (fun v48 => ?_)
        refine lv_bipush (v := (nI 24)) X.1 X.2.1 d_aesKey_44 (by decide) ?_
        refine lv_ishl X.1 X.2.1 d_aesKey_46 ?_
        refine t_any (fun v49 => ?_)
        refine lv_aload_n X.1 X.2.1 d_aesKey_47 rfl (lv_at hl 3 rfl) ?_
        refine lv_iconst (v := (nI 4)) X.1 X.2.1 d_aesKey_48 (by decide) ?_
        refine lv_iload X.1 X.2.1 d_aesKey_49 (lv_at hl 0 rfl) ?_
        refine lv_imul X.1 X.2.1 d_aesKey_51 ?_
        refine t_eq (y := nI ((4) * (i3))) (pk_mul _ _) ?_
        refine lv_iconst (v := (nI 1)) X.1 X.2.1 d_aesKey_52 (by decide) ?_
        refine lv_iadd X.1 X.2.1 d_aesKey_53 ?_
        refine t_eq (y := nI ((4) * (i3) + 1)) (nI_add _ _) ?_
        refine m_bald X Y (aw_long0 _ _ _ _ _ _ _) (vp_in_nI (by omega) (by decide)) d_aesKey_54 ?_
        refine t_any (fun v50 => ?_)
        refine lv_sipush (v := (nI 255)) X.1 X.2.1 d_aesKey_55 (by decide) ?_
        refine lv_iand X.1 X.2.1 d_aesKey_58 ?_
        obtain ⟨j51, hj51, ej51⟩ := pk_andE v50 (m := nI 255) 8 (by decide)
        refine t_eq ej51 ?_
        have hj51 : j51 < 256 := hj51
        refine lv_bipush (v := (nI 16)) X.1 X.2.1 d_aesKey_59 (by decide) ?_
        refine lv_ishl X.1 X.2.1 d_aesKey_61 ?_
        refine t_any (fun v52 => ?_)
        refine lv_ior X.1 X.2.1 d_aesKey_62 ?_
        refine t_any (fun v53 => ?_)
        refine lv_aload_n X.1 X.2.1 d_aesKey_63 rfl (lv_at hl 3 rfl) ?_
        refine lv_iconst (v := (nI 4)) X.1 X.2.1 d_aesKey_64 (by decide) ?_
        refine lv_iload X.1 X.2.1 d_aesKey_65 (lv_at hl 0 rfl) ?_
        refine lv_imul X.1 X.2.1 d_aesKey_67 ?_
        refine t_eq (y := nI ((4) * (i3))) (pk_mul _ _) ?_
        refine lv_iconst (v := (nI 2)) X.1 X.2.1 d_aesKey_68 (by decide) ?_
        refine lv_iadd X.1 X.2.1 d_aesKey_69 ?_
        refine t_eq (y := nI ((4) * (i3) + 2)) (nI_add _ _) ?_
        refine m_bald X Y (aw_long0 _ _ _ _ _ _ _) (vp_in_nI (by omega) (by decide)) d_aesKey_70 ?_
        refine t_any (fun v54 => ?_)
        refine lv_sipush (v := (nI 255)) X.1 X.2.1 d_aesKey_71 (by decide) ?_
        refine lv_iand X.1 X.2.1 d_aesKey_74 ?_
        obtain ⟨j55, hj55, ej55⟩ := pk_andE v54 (m := nI 255) 8 (by decide)
        refine t_eq ej55 ?_
        have hj55 : j55 < 256 := hj55
        refine lv_bipush (v := (nI 8)) X.1 X.2.1 d_aesKey_75 (by decide) ?_
        refine lv_ishl X.1 X.2.1 d_aesKey_77 ?_
        refine t_any (fun v56 => ?_)
        refine lv_ior X.1 X.2.1 d_aesKey_78 ?_
        refine t_any (fun v57 => ?_)
        refine lv_aload_n X.1 X.2.1 d_aesKey_79 rfl (lv_at hl 3 rfl) ?_
        refine lv_iconst (v := (nI 4)) X.1 X.2.1 d_aesKey_80 (by decide) ?_
        refine lv_iload X.1 X.2.1 d_aesKey_81 (lv_at hl 0 rfl) ?_
        refine lv_imul X.1 X.2.1 d_aesKey_83 ?_
        refine t_eq (y := nI ((4) * (i3))) (pk_mul _ _) ?_
        refine lv_iconst (v := (nI 3)) X.1 X.2.1 d_aesKey_84 (by decide) ?_
        refine lv_iadd X.1 X.2.1 d_aesKey_85 ?_
        refine t_eq (y := nI ((4) * (i3) + 3)) (nI_add _ _) ?_
        refine m_bald X Y (aw_long0 _ _ _ _ _ _ _) (vp_in_nI (by omega) (by decide)) d_aesKey_86 ?_
        refine t_any (fun v58 => ?_)
        refine lv_sipush (v := (nI 255)) X.1 X.2.1 d_aesKey_87 (by decide) ?_
        refine lv_iand X.1 X.2.1 d_aesKey_90 ?_
        obtain ⟨j59, hj59, ej59⟩ := pk_andE v58 (m := nI 255) 8 (by decide)
        refine t_eq ej59 ?_
        have hj59 : j59 < 256 := hj59
        refine lv_ior X.1 X.2.1 d_aesKey_91 ?_
        refine t_any (fun v60 => ?_)
        refine m_iast X Y (aw_schedule _ _ _ _ _ _ _) (vp_in_nI (by omega) (by decide)) (sw_schedule _ _ _ _ _ _ _ _) d_aesKey_92 (fun H locs Y => ?_)
        generalize (upd (B6 15) ((nI i3)).toNatClampNeg v60) = f61 at Y
        refine lv_iinc (v := (nI (i3 + 1))) (lv' := [(4, .int (nI (i3 + 1))), (3, .int (nI 4)), (0, .ref h), (1, .ref (q 27)), (2, .int (nI 16))]) X.1 X.2.1 d_aesKey_93 hl (k := 0) rfl (nI_add _ 1) (by decide) rfl (fun ls hl => ?_)
        refine lv_goto (tgt := 26) X.1 X.2.1 d_aesKey_96 (by decide) ?_
        exact ih4 (i3 + 1) (upB B6 15 f61) _ _ _ (by omega) (by omega) (fun j h12 h13 h15 => ((if_neg h15).trans (hB7 j h12 h13 h15))) (show by8 ((upB B6 15 f61) 12) from y8) (show by8 ((upB B6 15 f61) 13) from y9)  Y (lv_sub hl [0, 1, 2, 3, 4] rfl)
    exact lp5 (4) 0 B _ _ _ (by omega) (by omega) (fun j h12 h13 h15 => rfl) (show by8 (B 12) from y12) (show by8 (B 13) from y13)  Y (lv_sub hl [0, 1, 2, 3, 4] rfl)
  · skip
    refine lv_aload_n X.1 X.2.1 d_aesKey_7 rfl (lv_at hl 0 rfl) ?_
    refine m_callv (As := []) (rest := []) (n := 0) X Y hZ hA hml hl.1 (c_makeBox l D E h q H.size I J B G  (show by8 (B 12) from y12) (show by8 (B 13) from y13)) kl_makeBox ks_makeBox kx_makeBox ki_makeBox ini_M hd_makeBox ⟨by decide, by decide⟩ rfl (Nat.le_of_ble_eq_true rfl) d_aesKey_8 ⟨Nat.le_refl _, Nat.le_refl _⟩ (fun u H locs hp Y => ?_)
    obtain ⟨I62, J63, B64, G65⟩ := u
    obtain ⟨hI66, eJ68, hB67, eG69, hk73, y71, y72⟩ := hp
    dsimp only at hI66 eJ68 hB67 eG69 hk73 y71 y72 Y
    rw [eJ68, eG69] at Y
    have hI74 : (∀ j, j ≠ 14 → j ≠ 18 → I62 j = I j) := fun j h14 h18 => (hI66 j h14).trans ((fun j h14 h18 => rfl) j h14 h18)
    have hB75 : (∀ j, j ≠ 12 → j ≠ 13 → j ≠ 15 → B64 j = B j) := fun j h12 h13 h15 => (hB67 j h12 h13).trans ((fun j h12 h13 h15 => rfl) j h12 h13 h15)
    refine lv_iload_n X.1 X.2.1 d_aesKey_11 rfl (lv_at hl 2 rfl) ?_
    refine lv_iconst (v := (nI 4)) X.1 X.2.1 d_aesKey_12 (by decide) ?_
    refine lv_idiv X.1 X.2.1 d_aesKey_13 (nI_ne0 (by omega) (by omega)) ?_
    refine t_eq (y := nI 4) (by decide) ?_
    refine lv_istore_n (lv' := [(3, .int (nI 4)), (0, .ref h), (1, .ref (q 27)), (2, .int (nI 16))]) X.1 X.2.1 d_aesKey_14 rfl hl (by decide) rfl (fun ls hl => ?_)
    refine lv_aload_n X.1 X.2.1 d_aesKey_15 rfl (lv_at hl 1 rfl) ?_
    refine lv_iload_n X.1 X.2.1 d_aesKey_16 rfl (lv_at hl 0 rfl) ?_
    refine lv_bipush (v := (nI 6)) X.1 X.2.1 d_aesKey_17 (by decide) ?_
    refine lv_iadd X.1 X.2.1 d_aesKey_19 ?_
    refine t_eq (y := nI 10) (by decide) ?_
    refine m_puti X Y 18 (by decide) lk_rounds rfl rfl (t_M_ok 18 (by decide)) rfl rfl (sf_rounds _ _ _ _) (Nat.le_of_ble_eq_true rfl) d_aesKey_20 (fun H locs Y => ?_)
    refine lv_iconst (v := (nI 0)) X.1 X.2.1 d_aesKey_23 (by decide) ?_
    refine lv_istore (lv' := [(4, .int (nI 0)), (3, .int (nI 4)), (0, .ref h), (1, .ref (q 27)), (2, .int (nI 16))]) X.1 X.2.1 d_aesKey_24 hl (by decide) rfl (fun ls hl => ?_)
    have lp79 : ∀ (n76 i77 : Nat) (B80 : Nat → Nat → Int32) (H : Heap) (locs : List Loc) (ls : Array Slot), i77 + n76 = 4 → 0 ≤ i77 → (∀ j, j ≠ 12 → j ≠ 13 → j ≠ 15 → B80 j = B j) → by8 (B80 12) → by8 (B80 13) → mH D E (mA E h q sz) s.heap h q (upd I62 18 (nI 10)) J B80 G H locs → lv_has ls 7 [(4, .int (nI i77)), (3, .int (nI 4)), (0, .ref h), (1, .ref (q 27)), (2, .int (nI 16))] → W p l e (mR 3 69) s m AV below meth c H locs 0 0 QQ (F0 m 26 ls []) := by
      intro n76
      induction n76 with
      | zero =>
        intro i77 B80 H locs ls hii77 hsi77 hB81 y82 y83  Y hl
        refine lv_iload X.1 X.2.1 d_aesKey_26 (lv_at hl 0 rfl) ?_
        refine lv_iload_n X.1 X.2.1 d_aesKey_28 rfl (lv_at hl 1 rfl) ?_
        refine lv_icmp_ge (tgt := 99) X.1 X.2.1 d_aesKey_29 (by decide) (fun c84 => ?_) (fun c84 => absurd ?_ c84)
        rotate_left
        · (rw [nI_leI (by omega) (by omega)] <;> omega)
        rw [nI_leI (by omega) (by omega)] at c84
        refine lv_iconst (v := (nI 1)) X.1 X.2.1 d_aesKey_99 (by decide) ?_
        refine lv_istore (lv' := [(4, .int (nI 1)), (3, .int (nI 4)), (0, .ref h), (1, .ref (q 27)), (2, .int (nI 16))]) X.1 X.2.1 d_aesKey_100 hl (by decide) rfl (fun ls hl => ?_)
        refine lv_iload_n X.1 X.2.1 d_aesKey_102 rfl (lv_at hl 1 rfl) ?_
        refine lv_istore (lv' := [(5, .int (nI 4)), (4, .int (nI 1)), (3, .int (nI 4)), (0, .ref h), (1, .ref (q 27)), (2, .int (nI 16))]) X.1 X.2.1 d_aesKey_103 hl (by decide) rfl (fun ls hl => ?_)
        have lp88 : ∀ (n85 i86 : Nat) (B89 : Nat → Nat → Int32) (x90 : Nat) (H : Heap) (locs : List Loc) (ls : Array Slot), i86 + n85 = 44 → 4 ≤ i86 → (∀ j, j ≠ 12 → j ≠ 13 → j ≠ 15 → B89 j = B j) → by8 (B89 12) → by8 (B89 13) → x90 < 256 → mH D E (mA E h q sz) s.heap h q (upd I62 18 (nI 10)) J B89 G H locs → lv_has ls 7 [(5, .int (nI i86)), (4, .int (nI x90)), (3, .int (nI 4)), (0, .ref h), (1, .ref (q 27)), (2, .int (nI 16))] → W p l e (mR 3 69) s m AV below meth c H locs 0 0 QQ (F0 m 105 ls []) := by
          intro n85
          induction n85 with
          | zero =>
            intro i86 B89 x90 H locs ls hii86 hsi86 hB91 y92 y93 hxx90  Y hl
            refine lv_iload X.1 X.2.1 d_aesKey_105 (lv_at hl 0 rfl) ?_
            refine lv_iconst (v := (nI 4)) X.1 X.2.1 d_aesKey_107 (by decide) ?_
            refine lv_aload_n X.1 X.2.1 d_aesKey_108 rfl (lv_at hl 3 rfl) ?_
            refine m_get X Y 18 (by decide) lk_rounds (gf_rounds _ _ _) rfl d_aesKey_109 ?_
            refine t_eq (show (upd I62 18 (nI 10)) 18 = nI (10) from pk_us) ?_
            refine lv_iconst (v := (nI 1)) X.1 X.2.1 d_aesKey_112 (by decide) ?_
            refine lv_iadd X.1 X.2.1 d_aesKey_113 ?_
            refine t_eq (y := nI 11) (by decide) ?_
            refine lv_imul X.1 X.2.1 d_aesKey_114 ?_
            refine t_eq (y := nI 44) (by decide) ?_
            refine lv_icmp_ge (tgt := 212) X.1 X.2.1 d_aesKey_115 (by decide) (fun c94 => ?_) (fun c94 => absurd ?_ c94)
            rotate_left
            · (rw [nI_leI (by omega) (by omega)] <;> omega)
            rw [nI_leI (by omega) (by omega)] at c94
            exact m_retv hQQ X Y hr hlk ⟨(fun j h14 h18 => ((if_neg h18).trans (hI74 j h14 h18))), rfl, (fun j h12 h13 h15 => (hB91 j h12 h13 h15)), rfl, (show (upd I62 18 (nI 10)) 18 = nI (10) from (show (upd I62 18 (nI 10)) 18 = nI (10) from pk_us).trans (congrArg nI (show (10 : Nat) = 10 by omega))), (show by8 (B89 12) from y92), (show by8 (B89 13) from y93)⟩ d_aesKey_212
          | succ n85 ih87 =>
            intro i86 B89 x90 H locs ls hii86 hsi86 hB91 y92 y93 hxx90  Y hl
            refine lv_iload X.1 X.2.1 d_aesKey_105 (lv_at hl 0 rfl) ?_
            refine lv_iconst (v := (nI 4)) X.1 X.2.1 d_aesKey_107 (by decide) ?_
            refine lv_aload_n X.1 X.2.1 d_aesKey_108 rfl (lv_at hl 3 rfl) ?_
            refine m_get X Y 18 (by decide) lk_rounds (gf_rounds _ _ _) rfl d_aesKey_109 ?_
            refine t_eq (show (upd I62 18 (nI 10)) 18 = nI (10) from pk_us) ?_
            refine lv_iconst (v := (nI 1)) X.1 X.2.1 d_aesKey_112 (by decide) ?_
            refine lv_iadd X.1 X.2.1 d_aesKey_113 ?_
            refine t_eq (y := nI 11) (by decide) ?_
            refine lv_imul X.1 X.2.1 d_aesKey_114 ?_
            refine t_eq (y := nI 44) (by decide) ?_
            refine lv_icmp_ge (tgt := 212) X.1 X.2.1 d_aesKey_115 (by decide) (fun c95 => absurd c95 ?_) (fun c95 => ?_)
            · (rw [nI_leI (by omega) (by omega)] <;> omega)
            rw [nI_leI (by omega) (by omega)] at c95
            refine lv_aload_n X.1 X.2.1 d_aesKey_118 rfl (lv_at hl 3 rfl) ?_
            refine m_get X Y 15 (by decide) lk_schedule (gf_schedule _ _ _) rfl d_aesKey_119 ?_
            refine lv_iload X.1 X.2.1 d_aesKey_122 (lv_at hl 0 rfl) ?_
            refine lv_iconst (v := (nI 1)) X.1 X.2.1 d_aesKey_124 (by decide) ?_
            refine lv_isub X.1 X.2.1 d_aesKey_125 ?_
            refine t_eq (y := nI (i86 - (1))) (pk_sub (by omega)) ?_
            refine m_iald X Y (aw_schedule _ _ _ _ _ _ _) (vp_in_nI (by omega) (by decide)) d_aesKey_126 ?_
            refine t_any (fun v96 => ?_)
            refine lv_istore (lv' := [(6, .int v96), (5, .int (nI i86)), (4, .int (nI x90)), (3, .int (nI 4)), (0, .ref h), (1, .ref (q 27)), (2, .int (nI 16))]) X.1 X.2.1 d_aesKey_127 hl (by decide) rfl (fun ls hl => ?_)
            refine lv_iload X.1 X.2.1 d_aesKey_129 (lv_at hl 1 rfl) ?_
            refine lv_iload_n X.1 X.2.1 d_aesKey_131 rfl (lv_at hl 3 rfl) ?_
            refine lv_irem X.1 X.2.1 d_aesKey_132 (nI_ne0 (by omega) (by omega)) ?_
            refine t_eq (y := nI ((i86) % (4))) (pk_rem (by omega) (by omega) (by omega)) ?_
            refine lv_if_ne (tgt := 165) X.1 X.2.1 d_aesKey_133 (by decide) (fun c97 => ?_) (fun c97 => ?_)
            · skip
              rw [← nI_0] at c97
              rw [nI_eq (by omega) (by omega)] at c97
              refine lv_iload_n X.1 X.2.1 d_aesKey_165 rfl (lv_at hl 3 rfl) ?_
              refine lv_bipush (v := (nI 6)) X.1 X.2.1 d_aesKey_166 (by decide) ?_
              refine lv_icmp_le (tgt := 187) X.1 X.2.1 d_aesKey_168 (by decide) (fun c98 => ?_) (fun c98 => absurd ?_ c98)
              rotate_left
              · (rw [nI_leI (by omega) (by omega)] <;> omega)
              rw [nI_leI (by omega) (by omega)] at c98
              refine lv_aload_n X.1 X.2.1 d_aesKey_187 rfl (lv_at hl 4 rfl) ?_
              refine m_get X Y 15 (by decide) lk_schedule (gf_schedule _ _ _) rfl d_aesKey_188 ?_
              refine lv_iload X.1 X.2.1 d_aesKey_191 (lv_at hl 1 rfl) ?_
              refine lv_aload_n X.1 X.2.1 d_aesKey_193 rfl (lv_at hl 4 rfl) ?_
              refine m_get X Y 15 (by decide) lk_schedule (gf_schedule _ _ _) rfl d_aesKey_194 ?_
              refine lv_iload X.1 X.2.1 d_aesKey_197 (lv_at hl 1 rfl) ?_
              refine lv_iload_n X.1 X.2.1 d_aesKey_199 rfl (lv_at hl 3 rfl) ?_
              refine lv_isub X.1 X.2.1 d_aesKey_200 ?_
              refine t_eq (y := nI (i86 - (4))) (pk_sub (by omega)) ?_
              refine m_iald X Y (aw_schedule _ _ _ _ _ _ _) (vp_in_nI (by omega) (by decide)) d_aesKey_201 ?_
              refine t_any (fun v99 => ?_)
              refine lv_iload X.1 X.2.1 d_aesKey_202 (lv_at hl 0 rfl) ?_
              refine lv_ixor X.1 X.2.1 d_aesKey_204 ?_
              refine t_any (fun v100 => ?_)
              refine m_iast X Y (aw_schedule _ _ _ _ _ _ _) (vp_in_nI (by omega) (by decide)) (sw_schedule _ _ _ _ _ _ _ _) d_aesKey_205 (fun H locs Y => ?_)
              generalize (upd (B89 15) ((nI i86)).toNatClampNeg v100) = f101 at Y
              refine lv_iinc (v := (nI (i86 + 1))) (lv' := [(5, .int (nI (i86 + 1))), (6, .int v96), (4, .int (nI x90)), (3, .int (nI 4)), (0, .ref h), (1, .ref (q 27)), (2, .int (nI 16))]) X.1 X.2.1 d_aesKey_206 hl (k := 1) rfl (nI_add _ 1) (by decide) rfl (fun ls hl => ?_)
              refine lv_goto (tgt := 105) X.1 X.2.1 d_aesKey_209 (by decide) ?_
              exact ih87 (i86 + 1) (upB B89 15 f101) (x90) _ _ _ (by omega) (by omega) (fun j h12 h13 h15 => ((if_neg h15).trans (hB91 j h12 h13 h15))) (show by8 ((upB B89 15 f101) 12) from y92) (show by8 ((upB B89 15 f101) 13) from y93) (by omega)  Y (lv_sub hl [0, 2, 3, 4, 5, 6] rfl)
            · skip
              rw [← nI_0] at c97
              rw [nI_eq (by omega) (by omega)] at c97
              refine lv_aload_n X.1 X.2.1 d_aesKey_136 rfl (lv_at hl 4 rfl) ?_
              refine lv_iload X.1 X.2.1 d_aesKey_137 (lv_at hl 0 rfl) ?_
              refine lv_bipush (v := (nI 8)) X.1 X.2.1 d_aesKey_139 (by decide) ?_
              refine p_calli (As := [.int v96, .int (nI 8)]) (rest := [.ref h]) (n := 2) X Y hml hl.1 (c_left l v96 (nI 8)) kl_left ks_left ki_left ini_M (by decide +kernel) ⟨by decide, by decide⟩ rfl (Nat.le_of_ble_eq_true rfl) d_aesKey_141 ⟨Nat.le_refl _, Nat.le_refl _⟩ (fun r102 H locs hpr102 Y => ?_)
              refine m_calli (As := [.int r102]) (rest := []) (n := 1) X Y hZ hA hml hl.1 (c_boxed l D E h q H.size (upd I62 18 (nI 10)) J B89 G r102) kl_boxed ks_boxed kx_boxed ki_boxed ini_M hd_boxed ⟨by decide, by decide⟩ rfl (Nat.le_of_ble_eq_true rfl) d_aesKey_144 ⟨Nat.le_refl _, Nat.le_refl _⟩ (fun r111 u H locs hp Y => ?_)
              obtain ⟨I103, J104, B105, G106⟩ := u
              obtain ⟨hI107, eJ109, hB108, eG110, pr111⟩ := hp
              dsimp only at hI107 eJ109 hB108 eG110 pr111 Y
              rw [eJ109, eG110] at Y
              rw [show I103 = (upd I62 18 (nI 10)) from funext hI107] at Y
              rw [show B105 = B89 from funext hB108] at Y
              refine lv_iload X.1 X.2.1 d_aesKey_147 (lv_at hl 2 rfl) ?_
              refine lv_bipush (v := (nI 24)) X.1 X.2.1 d_aesKey_149 (by decide) ?_
              refine lv_ishl X.1 X.2.1 d_aesKey_151 ?_
              refine t_any (fun v114 => ?_)
              refine lv_ixor X.1 X.2.1 d_aesKey_152 ?_
              refine t_any (fun v115 => ?_)
              refine lv_istore (lv' := [(6, .int v115), (5, .int (nI i86)), (4, .int (nI x90)), (3, .int (nI 4)), (0, .ref h), (1, .ref (q 27)), (2, .int (nI 16))]) X.1 X.2.1 d_aesKey_153 hl (by decide) rfl (fun ls hl => ?_)
              refine lv_iload X.1 X.2.1 d_aesKey_155 (lv_at hl 2 rfl) ?_
              refine p_calli (As := [.int (nI x90)]) (rest := []) (n := 1) X Y hml hl.1 (c_twice l (nI x90)) kl_twice ks_twice ki_twice ini_M (by decide +kernel) ⟨by decide, by decide⟩ rfl (Nat.le_of_ble_eq_true rfl) d_aesKey_157 ⟨Nat.le_refl _, Nat.le_refl _⟩ (fun r116 H locs hpr116 Y => ?_)
              obtain ⟨j117, hj117, ej117⟩ := hpr116
              refine t_eq ej117 ?_
              refine lv_istore (lv' := [(4, .int (nI j117)), (6, .int v115), (5, .int (nI i86)), (3, .int (nI 4)), (0, .ref h), (1, .ref (q 27)), (2, .int (nI 16))]) X.1 X.2.1 d_aesKey_160 hl (by decide) rfl (fun ls hl => ?_)
              refine lv_goto (tgt := 187) X.1 X.2.1 d_aesKey_162 (by decide) ?_
              refine lv_aload_n X.1 X.2.1 d_aesKey_187 rfl (lv_at hl 4 rfl) ?_
              refine m_get X Y 15 (by decide) lk_schedule (gf_schedule _ _ _) rfl d_aesKey_188 ?_
              refine lv_iload X.1 X.2.1 d_aesKey_191 (lv_at hl 2 rfl) ?_
              refine lv_aload_n X.1 X.2.1 d_aesKey_193 rfl (lv_at hl 4 rfl) ?_
              refine m_get X Y 15 (by decide) lk_schedule (gf_schedule _ _ _) rfl d_aesKey_194 ?_
              refine lv_iload X.1 X.2.1 d_aesKey_197 (lv_at hl 2 rfl) ?_
              refine lv_iload_n X.1 X.2.1 d_aesKey_199 rfl (lv_at hl 3 rfl) ?_
              refine lv_isub X.1 X.2.1 d_aesKey_200 ?_
              refine t_eq (y := nI (i86 - (4))) (pk_sub (by omega)) ?_
              refine m_iald X Y (aw_schedule _ _ _ _ _ _ _) (vp_in_nI (by omega) (by decide)) d_aesKey_201 ?_
              refine t_any (fun v118 => ?_)
              refine lv_iload X.1 X.2.1 d_aesKey_202 (lv_at hl 1 rfl) ?_
              refine lv_ixor X.1 X.2.1 d_aesKey_204 ?_
              refine t_any (fun v119 => ?_)
              refine m_iast X Y (aw_schedule _ _ _ _ _ _ _) (vp_in_nI (by omega) (by decide)) (sw_schedule _ _ _ _ _ _ _ _) d_aesKey_205 (fun H locs Y => ?_)
              generalize (upd (B89 15) ((nI i86)).toNatClampNeg v119) = f120 at Y
              refine lv_iinc (v := (nI (i86 + 1))) (lv' := [(5, .int (nI (i86 + 1))), (4, .int (nI j117)), (6, .int v115), (3, .int (nI 4)), (0, .ref h), (1, .ref (q 27)), (2, .int (nI 16))]) X.1 X.2.1 d_aesKey_206 hl (k := 2) rfl (nI_add _ 1) (by decide) rfl (fun ls hl => ?_)
              refine lv_goto (tgt := 105) X.1 X.2.1 d_aesKey_209 (by decide) ?_
              exact ih87 (i86 + 1) (upB B89 15 f120) (j117) _ _ _ (by omega) (by omega) (fun j h12 h13 h15 => ((if_neg h15).trans (hB91 j h12 h13 h15))) (show by8 ((upB B89 15 f120) 12) from y92) (show by8 ((upB B89 15 f120) 13) from y93) (by omega)  Y (lv_sub hl [0, 1, 3, 4, 5, 6] rfl)
        exact lp88 (44 - 4) 4 B80 (1) _ _ _ (by omega) (by omega) (fun j h12 h13 h15 => (hB81 j h12 h13 h15)) (show by8 (B80 12) from y82) (show by8 (B80 13) from y83) (by omega)  Y (lv_sub hl [0, 1, 2, 3, 4, 5] rfl)
      | succ n76 ih78 =>
        intro i77 B80 H locs ls hii77 hsi77 hB81 y82 y83  Y hl
        refine lv_iload X.1 X.2.1 d_aesKey_26 (lv_at hl 0 rfl) ?_
        refine lv_iload_n X.1 X.2.1 d_aesKey_28 rfl (lv_at hl 1 rfl) ?_
        refine lv_icmp_ge (tgt := 99) X.1 X.2.1 d_aesKey_29 (by decide) (fun c121 => absurd c121 ?_) (fun c121 => ?_)
        · (rw [nI_leI (by omega) (by omega)] <;> omega)
        rw [nI_leI (by omega) (by omega)] at c121
        refine lv_aload_n X.1 X.2.1 d_aesKey_32 rfl (lv_at hl 2 rfl) ?_
        refine m_get X Y 15 (by decide) lk_schedule (gf_schedule _ _ _) rfl d_aesKey_33 ?_
        refine lv_iload X.1 X.2.1 d_aesKey_36 (lv_at hl 0 rfl) ?_
        refine lv_aload_n X.1 X.2.1 d_aesKey_38 rfl (lv_at hl 3 rfl) ?_
        refine lv_iconst (v := (nI 4)) X.1 X.2.1 d_aesKey_39 (by decide) ?_
        refine lv_iload X.1 X.2.1 d_aesKey_40 (lv_at hl 0 rfl) ?_
        refine lv_imul X.1 X.2.1 d_aesKey_42 ?_
        refine t_eq (y := nI ((4) * (i77))) (pk_mul _ _) ?_
        refine m_bald X Y (aw_long0 _ _ _ _ _ _ _) (vp_in_nI (by omega) (by decide)) d_aesKey_43 ?_
        refine t_any (fun v122 => ?_)
        refine lv_bipush (v := (nI 24)) X.1 X.2.1 d_aesKey_44 (by decide) ?_
        refine lv_ishl X.1 X.2.1 d_aesKey_46 ?_
        refine t_any (fun v123 => ?_)
        refine lv_aload_n X.1 X.2.1 d_aesKey_47 rfl (lv_at hl 3 rfl) ?_
        refine lv_iconst (v := (nI 4)) X.1 X.2.1 d_aesKey_48 (by decide) ?_
        refine lv_iload X.1 X.2.1 d_aesKey_49 (lv_at hl 0 rfl) ?_
        refine lv_imul X.1 X.2.1 d_aesKey_51 ?_
        refine t_eq (y := nI ((4) * (i77))) (pk_mul _ _) ?_
        refine lv_iconst (v := (nI 1)) X.1 X.2.1 d_aesKey_52 (by decide) ?_
        refine lv_iadd X.1 X.2.1 d_aesKey_53 ?_
        refine t_eq (y := nI ((4) * (i77) + 1)) (nI_add _ _) ?_
        refine m_bald X Y (aw_long0 _ _ _ _ _ _ _) (vp_in_nI (by omega) (by decide)) d_aesKey_54 ?_
        refine t_any (fun v124 => ?_)
        refine lv_sipush (v := (nI 255)) X.1 X.2.1 d_aesKey_55 (by decide) ?_
        refine lv_iand X.1 X.2.1 d_aesKey_58 ?_
        obtain ⟨j125, hj125, ej125⟩ := pk_andE v124 (m := nI 255) 8 (by decide)
        refine t_eq ej125 ?_
        have hj125 : j125 < 256 := hj125
        refine lv_bipush (v := (nI 16)) X.1 X.2.1 d_aesKey_59 (by decide) ?_
        refine lv_ishl X.1 X.2.1 d_aesKey_61 ?_
        refine t_any (fun v126 => ?_)
        refine lv_ior X.1 X.2.1 d_aesKey_62 ?_
        refine t_any (fun v127 => ?_)
        refine lv_aload_n X.1 X.2.1 d_aesKey_63 rfl (lv_at hl 3 rfl) ?_
        refine lv_iconst (v := (nI 4)) X.1 X.2.1 d_aesKey_64 (by decide) ?_
        refine lv_iload X.1 X.2.1 d_aesKey_65 (lv_at hl 0 rfl) ?_
        refine lv_imul X.1 X.2.1 d_aesKey_67 ?_
        refine t_eq (y := nI ((4) * (i77))) (pk_mul _ _) ?_
        refine lv_iconst (v := (nI 2)) X.1 X.2.1 d_aesKey_68 (by decide) ?_
        refine lv_iadd X.1 X.2.1 d_aesKey_69 ?_
        refine t_eq (y := nI ((4) * (i77) + 2)) (nI_add _ _) ?_
        refine m_bald X Y (aw_long0 _ _ _ _ _ _ _) (vp_in_nI (by omega) (by decide)) d_aesKey_70 ?_
        refine t_any (fun v128 => ?_)
        refine lv_sipush (v := (nI 255)) X.1 X.2.1 d_aesKey_71 (by decide) ?_
        refine lv_iand X.1 X.2.1 d_aesKey_74 ?_
        obtain ⟨j129, hj129, ej129⟩ := pk_andE v128 (m := nI 255) 8 (by decide)
        refine t_eq ej129 ?_
        have hj129 : j129 < 256 := hj129
        refine lv_bipush (v := (nI 8)) X.1 X.2.1 d_aesKey_75 (by decide) ?_
        refine lv_ishl X.1 X.2.1 d_aesKey_77 ?_
        refine t_any (fun v130 => ?_)
        refine lv_ior X.1 X.2.1 d_aesKey_78 ?_
        refine t_any (fun v131 => ?_)
        refine lv_aload_n X.1 X.2.1 d_aesKey_79 rfl (lv_at hl 3 rfl) ?_
        refine lv_iconst (v := (nI 4)) X.1 X.2.1 d_aesKey_80 (by decide) ?_
        refine lv_iload X.1 X.2.1 d_aesKey_81 (lv_at hl 0 rfl) ?_
        refine lv_imul X.1 X.2.1 d_aesKey_83 ?_
        refine t_eq (y := nI ((4) * (i77))) (pk_mul _ _) ?_
        refine lv_iconst (v := (nI 3)) X.1 X.2.1 d_aesKey_84 (by decide) ?_
        refine lv_iadd X.1 X.2.1 d_aesKey_85 ?_
        refine t_eq (y := nI ((4) * (i77) + 3)) (nI_add _ _) ?_
        refine m_bald X Y (aw_long0 _ _ _ _ _ _ _) (vp_in_nI (by omega) (by decide)) d_aesKey_86 ?_
        refine t_any (fun v132 => ?_)
        refine lv_sipush (v := (nI 255)) X.1 X.2.1 d_aesKey_87 (by decide) ?_
        refine lv_iand X.1 X.2.1 d_aesKey_90 ?_
        obtain ⟨j133, hj133, ej133⟩ := pk_andE v132 (m := nI 255) 8 (by decide)
        refine t_eq ej133 ?_
        have hj133 : j133 < 256 := hj133
        refine lv_ior X.1 X.2.1 d_aesKey_91 ?_
        refine t_any (fun v134 => ?_)
        refine m_iast X Y (aw_schedule _ _ _ _ _ _ _) (vp_in_nI (by omega) (by decide)) (sw_schedule _ _ _ _ _ _ _ _) d_aesKey_92 (fun H locs Y => ?_)
        generalize (upd (B80 15) ((nI i77)).toNatClampNeg v134) = f135 at Y
        refine lv_iinc (v := (nI (i77 + 1))) (lv' := [(4, .int (nI (i77 + 1))), (3, .int (nI 4)), (0, .ref h), (1, .ref (q 27)), (2, .int (nI 16))]) X.1 X.2.1 d_aesKey_93 hl (k := 0) rfl (nI_add _ 1) (by decide) rfl (fun ls hl => ?_)
        refine lv_goto (tgt := 26) X.1 X.2.1 d_aesKey_96 (by decide) ?_
        exact ih78 (i77 + 1) (upB B80 15 f135) _ _ _ (by omega) (by omega) (fun j h12 h13 h15 => ((if_neg h15).trans (hB81 j h12 h13 h15))) (show by8 ((upB B80 15 f135) 12) from y82) (show by8 ((upB B80 15 f135) 13) from y83)  Y (lv_sub hl [0, 1, 2, 3, 4] rfl)
    exact lp79 (4) 0 B64 _ _ _ (by omega) (by omega) (fun j h12 h13 h15 => (hB75 j h12 h13 h15)) (show by8 (B64 12) from y71) (show by8 (B64 13) from y72)  Y (lv_sub hl [0, 1, 2, 3, 4] rfl)
set_option maxHeartbeats 4000000 in
set_option maxRecDepth 100000 in
theorem c_aesKey_long0_32 (l : Launch) (D : mD) (E : mE) (h : Nat) (q : Nat → Nat) (sz : Nat) (I : Nat → Int32) (J : Nat → Int64) (B : Nat → Nat → Int32) (G : Nat → Nat → Int64)  (y12 : by8 (B 12)) (y13 : by8 (B 13)) : Met l y_aesKey (k_aesKey :: lw_tg) (mR 3 69) (va_Pc [.ref h, .ref (q 27), .int (nI 32)] (mPre D E h q (I, J, B, G) sz)) (va_Qv (fun (u : mS) => (∀ j, j ≠ 14 → j ≠ 18 → u.1 j = I j) ∧ u.2.1 = J ∧ (∀ j, j ≠ 12 → j ≠ 13 → j ≠ 15 → u.2.2.1 j = B j) ∧ u.2.2.2 = G ∧ u.1 18 = nI (14) ∧ by8 (u.2.2.1 12) ∧ by8 (u.2.2.1 13)) (mPost D E h q (mA E h q sz)) (mA E h q sz)) 0 0 (mA E h q sz) := by
  refine m_enter (by decide) rfl (Nat.le_of_ble_eq_true rfl) (fun p e s m below meth c ls AV QQ H locs hQQ X Y hZ hA hr hlk hml hl => ?_)
  have Y : mH D E (mA E h q sz) s.heap h q I J B G H locs := Y
  have hl : lv_has ls 7 [(0, .ref h), (1, .ref (q 27)), (2, .int (nI 32))] := hl
  refine lv_aload_n X.1 X.2.1 d_aesKey_0 rfl (lv_at hl 0 rfl) ?_
  refine m_get X Y 14 (by decide) lk_hasBox (gf_hasBox _ _ _) rfl d_aesKey_1 ?_
  refine lv_if_ne (tgt := 11) X.1 X.2.1 d_aesKey_4 (by decide) (fun c1 => ?_) (fun c1 => ?_)
  · skip
    refine lv_iload_n X.1 X.2.1 d_aesKey_11 rfl (lv_at hl 2 rfl) ?_
    refine lv_iconst (v := (nI 4)) X.1 X.2.1 d_aesKey_12 (by decide) ?_
    refine lv_idiv X.1 X.2.1 d_aesKey_13 (nI_ne0 (by omega) (by omega)) ?_
    refine t_eq (y := nI 8) (by decide) ?_
    refine lv_istore_n (lv' := [(3, .int (nI 8)), (0, .ref h), (1, .ref (q 27)), (2, .int (nI 32))]) X.1 X.2.1 d_aesKey_14 rfl hl (by decide) rfl (fun ls hl => ?_)
    refine lv_aload_n X.1 X.2.1 d_aesKey_15 rfl (lv_at hl 1 rfl) ?_
    refine lv_iload_n X.1 X.2.1 d_aesKey_16 rfl (lv_at hl 0 rfl) ?_
    refine lv_bipush (v := (nI 6)) X.1 X.2.1 d_aesKey_17 (by decide) ?_
    refine lv_iadd X.1 X.2.1 d_aesKey_19 ?_
    refine t_eq (y := nI 14) (by decide) ?_
    refine m_puti X Y 18 (by decide) lk_rounds rfl rfl (t_M_ok 18 (by decide)) rfl rfl (sf_rounds _ _ _ _) (Nat.le_of_ble_eq_true rfl) d_aesKey_20 (fun H locs Y => ?_)
    refine lv_iconst (v := (nI 0)) X.1 X.2.1 d_aesKey_23 (by decide) ?_
    refine lv_istore (lv' := [(4, .int (nI 0)), (3, .int (nI 8)), (0, .ref h), (1, .ref (q 27)), (2, .int (nI 32))]) X.1 X.2.1 d_aesKey_24 hl (by decide) rfl (fun ls hl => ?_)
    have lp5 : ∀ (n2 i3 : Nat) (B6 : Nat → Nat → Int32) (H : Heap) (locs : List Loc) (ls : Array Slot), i3 + n2 = 8 → 0 ≤ i3 → (∀ j, j ≠ 12 → j ≠ 13 → j ≠ 15 → B6 j = B j) → by8 (B6 12) → by8 (B6 13) → mH D E (mA E h q sz) s.heap h q (upd I 18 (nI 14)) J B6 G H locs → lv_has ls 7 [(4, .int (nI i3)), (3, .int (nI 8)), (0, .ref h), (1, .ref (q 27)), (2, .int (nI 32))] → W p l e (mR 3 69) s m AV below meth c H locs 0 0 QQ (F0 m 26 ls []) := by
      intro n2
      induction n2 with
      | zero =>
        intro i3 B6 H locs ls hii3 hsi3 hB7 y8 y9  Y hl
        refine lv_iload X.1 X.2.1 d_aesKey_26 (lv_at hl 0 rfl) ?_
        refine lv_iload_n X.1 X.2.1 d_aesKey_28 rfl (lv_at hl 1 rfl) ?_
        refine lv_icmp_ge (tgt := 99) X.1 X.2.1 d_aesKey_29 (by decide) (fun c10 => ?_) (fun c10 => absurd ?_ c10)
        rotate_left
        · (rw [nI_leI (by omega) (by omega)] <;> omega)
        rw [nI_leI (by omega) (by omega)] at c10
        refine lv_iconst (v := (nI 1)) X.1 X.2.1 d_aesKey_99 (by decide) ?_
        refine lv_istore (lv' := [(4, .int (nI 1)), (3, .int (nI 8)), (0, .ref h), (1, .ref (q 27)), (2, .int (nI 32))]) X.1 X.2.1 d_aesKey_100 hl (by decide) rfl (fun ls hl => ?_)
        refine lv_iload_n X.1 X.2.1 d_aesKey_102 rfl (lv_at hl 1 rfl) ?_
        refine lv_istore (lv' := [(5, .int (nI 8)), (4, .int (nI 1)), (3, .int (nI 8)), (0, .ref h), (1, .ref (q 27)), (2, .int (nI 32))]) X.1 X.2.1 d_aesKey_103 hl (by decide) rfl (fun ls hl => ?_)
        have lp14 : ∀ (n11 i12 : Nat) (B15 : Nat → Nat → Int32) (x16 : Nat) (H : Heap) (locs : List Loc) (ls : Array Slot), i12 + n11 = 60 → 8 ≤ i12 → (∀ j, j ≠ 12 → j ≠ 13 → j ≠ 15 → B15 j = B j) → by8 (B15 12) → by8 (B15 13) → x16 < 256 → mH D E (mA E h q sz) s.heap h q (upd I 18 (nI 14)) J B15 G H locs → lv_has ls 7 [(5, .int (nI i12)), (4, .int (nI x16)), (3, .int (nI 8)), (0, .ref h), (1, .ref (q 27)), (2, .int (nI 32))] → W p l e (mR 3 69) s m AV below meth c H locs 0 0 QQ (F0 m 105 ls []) := by
          intro n11
          induction n11 with
          | zero =>
            intro i12 B15 x16 H locs ls hii12 hsi12 hB17 y18 y19 hxx16  Y hl
            refine lv_iload X.1 X.2.1 d_aesKey_105 (lv_at hl 0 rfl) ?_
            refine lv_iconst (v := (nI 4)) X.1 X.2.1 d_aesKey_107 (by decide) ?_
            refine lv_aload_n X.1 X.2.1 d_aesKey_108 rfl (lv_at hl 3 rfl) ?_
            refine m_get X Y 18 (by decide) lk_rounds (gf_rounds _ _ _) rfl d_aesKey_109 ?_
            refine t_eq (show (upd I 18 (nI 14)) 18 = nI (14) from pk_us) ?_
            refine lv_iconst (v := (nI 1)) X.1 X.2.1 d_aesKey_112 (by decide) ?_
            refine lv_iadd X.1 X.2.1 d_aesKey_113 ?_
            refine t_eq (y := nI 15) (by decide) ?_
            refine lv_imul X.1 X.2.1 d_aesKey_114 ?_
            refine t_eq (y := nI 60) (by decide) ?_
            refine lv_icmp_ge (tgt := 212) X.1 X.2.1 d_aesKey_115 (by decide) (fun c20 => ?_) (fun c20 => absurd ?_ c20)
            rotate_left
            · (rw [nI_leI (by omega) (by omega)] <;> omega)
            rw [nI_leI (by omega) (by omega)] at c20
            exact m_retv hQQ X Y hr hlk ⟨(fun j h14 h18 => ((if_neg h18).trans rfl)), rfl, (fun j h12 h13 h15 => (hB17 j h12 h13 h15)), rfl, (show (upd I 18 (nI 14)) 18 = nI (14) from (show (upd I 18 (nI 14)) 18 = nI (14) from pk_us).trans (congrArg nI (show (14 : Nat) = 14 by omega))), (show by8 (B15 12) from y18), (show by8 (B15 13) from y19)⟩ d_aesKey_212
          | succ n11 ih13 =>
            intro i12 B15 x16 H locs ls hii12 hsi12 hB17 y18 y19 hxx16  Y hl
            refine lv_iload X.1 X.2.1 d_aesKey_105 (lv_at hl 0 rfl) ?_
            refine lv_iconst (v := (nI 4)) X.1 X.2.1 d_aesKey_107 (by decide) ?_
            refine lv_aload_n X.1 X.2.1 d_aesKey_108 rfl (lv_at hl 3 rfl) ?_
            refine m_get X Y 18 (by decide) lk_rounds (gf_rounds _ _ _) rfl d_aesKey_109 ?_
            refine t_eq (show (upd I 18 (nI 14)) 18 = nI (14) from pk_us) ?_
            refine lv_iconst (v := (nI 1)) X.1 X.2.1 d_aesKey_112 (by decide) ?_
            refine lv_iadd X.1 X.2.1 d_aesKey_113 ?_
            refine t_eq (y := nI 15) (by decide) ?_
            refine lv_imul X.1 X.2.1 d_aesKey_114 ?_
            refine t_eq (y := nI 60) (by decide) ?_
            refine lv_icmp_ge (tgt := 212) X.1 X.2.1 d_aesKey_115 (by decide) (fun c21 => absurd c21 ?_) (fun c21 => ?_)
            · (rw [nI_leI (by omega) (by omega)] <;> omega)
            rw [nI_leI (by omega) (by omega)] at c21
            refine lv_aload_n X.1 X.2.1 d_aesKey_118 rfl (lv_at hl 3 rfl) ?_
            refine m_get X Y 15 (by decide) lk_schedule (gf_schedule _ _ _) rfl d_aesKey_119 ?_
            refine lv_iload X.1 X.2.1 d_aesKey_122 (lv_at hl 0 rfl) ?_
            refine lv_iconst (v := (nI 1)) X.1 X.2.1 d_aesKey_124 (by decide) ?_
            refine lv_isub X.1 X.2.1 d_aesKey_125 ?_
            refine t_eq (y := nI (i12 - (1))) (pk_sub (by omega)) ?_
            refine m_iald X Y (aw_schedule _ _ _ _ _ _ _) (vp_in_nI (by omega) (by decide)) d_aesKey_126 ?_
            refine t_any (fun v22 => ?_)
            refine lv_istore (lv' := [(6, .int v22), (5, .int (nI i12)), (4, .int (nI x16)), (3, .int (nI 8)), (0, .ref h), (1, .ref (q 27)), (2, .int (nI 32))]) X.1 X.2.1 d_aesKey_127 hl (by decide) rfl (fun ls hl => ?_)
            refine lv_iload X.1 X.2.1 d_aesKey_129 (lv_at hl 1 rfl) ?_
            refine lv_iload_n X.1 X.2.1 d_aesKey_131 rfl (lv_at hl 3 rfl) ?_
            refine lv_irem X.1 X.2.1 d_aesKey_132 (nI_ne0 (by omega) (by omega)) ?_
            refine t_eq (y := nI ((i12) % (8))) (pk_rem (by omega) (by omega) (by omega)) ?_
            refine lv_if_ne (tgt := 165) X.1 X.2.1 d_aesKey_133 (by decide) (fun c23 => ?_) (fun c23 => ?_)
            · skip
              rw [← nI_0] at c23
              rw [nI_eq (by omega) (by omega)] at c23
              refine lv_iload_n X.1 X.2.1 d_aesKey_165 rfl (lv_at hl 3 rfl) ?_
              refine lv_bipush (v := (nI 6)) X.1 X.2.1 d_aesKey_166 (by decide) ?_
              refine lv_icmp_le (tgt := 187) X.1 X.2.1 d_aesKey_168 (by decide) (fun c24 => absurd c24 ?_) (fun c24 => ?_)
              · (rw [nI_leI (by omega) (by omega)] <;> omega)
              rw [nI_leI (by omega) (by omega)] at c24
              refine lv_iload X.1 X.2.1 d_aesKey_171 (lv_at hl 1 rfl) ?_
              refine lv_iload_n X.1 X.2.1 d_aesKey_173 rfl (lv_at hl 3 rfl) ?_
              refine lv_irem X.1 X.2.1 d_aesKey_174 (nI_ne0 (by omega) (by omega)) ?_
              refine t_eq (y := nI ((i12) % (8))) (pk_rem (by omega) (by omega) (by omega)) ?_
              refine lv_iconst (v := (nI 4)) X.1 X.2.1 d_aesKey_175 (by decide) ?_
              refine lv_icmp_ne (tgt := 187) X.1 X.2.1 d_aesKey_176 (by decide) (fun c25 => ?_) (fun c25 => ?_)
              · skip
                rw [nI_eq (by omega) (by omega)] at c25
                refine lv_aload_n X.1 X.2.1 d_aesKey_187 rfl (lv_at hl 4 rfl) ?_
                refine m_get X Y 15 (by decide) lk_schedule (gf_schedule _ _ _) rfl d_aesKey_188 ?_
                refine lv_iload X.1 X.2.1 d_aesKey_191 (lv_at hl 1 rfl) ?_
                refine lv_aload_n X.1 X.2.1 d_aesKey_193 rfl (lv_at hl 4 rfl) ?_
                refine m_get X Y 15 (by decide) lk_schedule (gf_schedule _ _ _) rfl d_aesKey_194 ?_
                refine lv_iload X.1 X.2.1 d_aesKey_197 (lv_at hl 1 rfl) ?_
                refine lv_iload_n X.1 X.2.1 d_aesKey_199 rfl (lv_at hl 3 rfl) ?_
                refine lv_isub X.1 X.2.1 d_aesKey_200 ?_
                refine t_eq (y := nI (i12 - (8))) (pk_sub (by omega)) ?_
                refine m_iald X Y (aw_schedule _ _ _ _ _ _ _) (vp_in_nI (by omega) (by decide)) d_aesKey_201 ?_
                refine t_any (fun v26 => ?_)
                refine lv_iload X.1 X.2.1 d_aesKey_202 (lv_at hl 0 rfl) ?_
                refine lv_ixor X.1 X.2.1 d_aesKey_204 ?_
                refine t_any (fun v27 => ?_)
                refine m_iast X Y (aw_schedule _ _ _ _ _ _ _) (vp_in_nI (by omega) (by decide)) (sw_schedule _ _ _ _ _ _ _ _) d_aesKey_205 (fun H locs Y => ?_)
                generalize (upd (B15 15) ((nI i12)).toNatClampNeg v27) = f28 at Y
                refine lv_iinc (v := (nI (i12 + 1))) (lv' := [(5, .int (nI (i12 + 1))), (6, .int v22), (4, .int (nI x16)), (3, .int (nI 8)), (0, .ref h), (1, .ref (q 27)), (2, .int (nI 32))]) X.1 X.2.1 d_aesKey_206 hl (k := 1) rfl (nI_add _ 1) (by decide) rfl (fun ls hl => ?_)
                refine lv_goto (tgt := 105) X.1 X.2.1 d_aesKey_209 (by decide) ?_
                exact ih13 (i12 + 1) (upB B15 15 f28) (x16) _ _ _ (by omega) (by omega) (fun j h12 h13 h15 => ((if_neg h15).trans (hB17 j h12 h13 h15))) (show by8 ((upB B15 15 f28) 12) from y18) (show by8 ((upB B15 15 f28) 13) from y19) (by omega)  Y (lv_sub hl [0, 2, 3, 4, 5, 6] rfl)
              · skip
                rw [nI_eq (by omega) (by omega)] at c25
                refine lv_aload_n X.1 X.2.1 d_aesKey_179 rfl (lv_at hl 4 rfl) ?_
                refine lv_iload X.1 X.2.1 d_aesKey_180 (lv_at hl 0 rfl) ?_
                refine m_calli (As := [.int v22]) (rest := []) (n := 1) X Y hZ hA hml hl.1 (c_boxed l D E h q H.size (upd I 18 (nI 14)) J B15 G v22) kl_boxed ks_boxed kx_boxed ki_boxed ini_M hd_boxed ⟨by decide, by decide⟩ rfl (Nat.le_of_ble_eq_true rfl) d_aesKey_182 ⟨Nat.le_refl _, Nat.le_refl _⟩ (fun r37 u H locs hp Y => ?_)
                obtain ⟨I29, J30, B31, G32⟩ := u
                obtain ⟨hI33, eJ35, hB34, eG36, pr37⟩ := hp
                dsimp only at hI33 eJ35 hB34 eG36 pr37 Y
                rw [eJ35, eG36] at Y
                rw [show I29 = (upd I 18 (nI 14)) from funext hI33] at Y
                rw [show B31 = B15 from funext hB34] at Y
                refine lv_istore (lv' := [(6, .int r37), (5, .int (nI i12)), (4, .int (nI x16)), (3, .int (nI 8)), (0, .ref h), (1, .ref (q 27)), (2, .int (nI 32))]) X.1 X.2.1 d_aesKey_185 hl (by decide) rfl (fun ls hl => ?_)
                refine lv_aload_n X.1 X.2.1 d_aesKey_187 rfl (lv_at hl 4 rfl) ?_
                refine m_get X Y 15 (by decide) lk_schedule (gf_schedule _ _ _) rfl d_aesKey_188 ?_
                refine lv_iload X.1 X.2.1 d_aesKey_191 (lv_at hl 1 rfl) ?_
                refine lv_aload_n X.1 X.2.1 d_aesKey_193 rfl (lv_at hl 4 rfl) ?_
                refine m_get X Y 15 (by decide) lk_schedule (gf_schedule _ _ _) rfl d_aesKey_194 ?_
                refine lv_iload X.1 X.2.1 d_aesKey_197 (lv_at hl 1 rfl) ?_
                refine lv_iload_n X.1 X.2.1 d_aesKey_199 rfl (lv_at hl 3 rfl) ?_
                refine lv_isub X.1 X.2.1 d_aesKey_200 ?_
                refine t_eq (y := nI (i12 - (8))) (pk_sub (by omega)) ?_
                refine m_iald X Y (aw_schedule _ _ _ _ _ _ _) (vp_in_nI (by omega) (by decide)) d_aesKey_201 ?_
                refine t_any (fun v40 => ?_)
                refine lv_iload X.1 X.2.1 d_aesKey_202 (lv_at hl 0 rfl) ?_
                refine lv_ixor X.1 X.2.1 d_aesKey_204 ?_
                refine t_any (fun v41 => ?_)
                refine m_iast X Y (aw_schedule _ _ _ _ _ _ _) (vp_in_nI (by omega) (by decide)) (sw_schedule _ _ _ _ _ _ _ _) d_aesKey_205 (fun H locs Y => ?_)
                generalize (upd (B15 15) ((nI i12)).toNatClampNeg v41) = f42 at Y
                refine lv_iinc (v := (nI (i12 + 1))) (lv' := [(5, .int (nI (i12 + 1))), (6, .int r37), (4, .int (nI x16)), (3, .int (nI 8)), (0, .ref h), (1, .ref (q 27)), (2, .int (nI 32))]) X.1 X.2.1 d_aesKey_206 hl (k := 1) rfl (nI_add _ 1) (by decide) rfl (fun ls hl => ?_)
                refine lv_goto (tgt := 105) X.1 X.2.1 d_aesKey_209 (by decide) ?_
                exact ih13 (i12 + 1) (upB B15 15 f42) (x16) _ _ _ (by omega) (by omega) (fun j h12 h13 h15 => ((if_neg h15).trans (hB17 j h12 h13 h15))) (show by8 ((upB B15 15 f42) 12) from y18) (show by8 ((upB B15 15 f42) 13) from y19) (by omega)  Y (lv_sub hl [0, 2, 3, 4, 5, 6] rfl)
            · skip
              rw [← nI_0] at c23
              rw [nI_eq (by omega) (by omega)] at c23
              refine lv_aload_n X.1 X.2.1 d_aesKey_136 rfl (lv_at hl 4 rfl) ?_
              refine lv_iload X.1 X.2.1 d_aesKey_137 (lv_at hl 0 rfl) ?_
              refine lv_bipush (v := (nI 8)) X.1 X.2.1 d_aesKey_139 (by decide) ?_
              refine p_calli (As := [.int v22, .int (nI 8)]) (rest := [.ref h]) (n := 2) X Y hml hl.1 (c_left l v22 (nI 8)) kl_left ks_left ki_left ini_M (by decide +kernel) ⟨by decide, by decide⟩ rfl (Nat.le_of_ble_eq_true rfl) d_aesKey_141 ⟨Nat.le_refl _, Nat.le_refl _⟩ (fun r43 H locs hpr43 Y => ?_)
              refine m_calli (As := [.int r43]) (rest := []) (n := 1) X Y hZ hA hml hl.1 (c_boxed l D E h q H.size (upd I 18 (nI 14)) J B15 G r43) kl_boxed ks_boxed kx_boxed ki_boxed ini_M hd_boxed ⟨by decide, by decide⟩ rfl (Nat.le_of_ble_eq_true rfl) d_aesKey_144 ⟨Nat.le_refl _, Nat.le_refl _⟩ (fun r52 u H locs hp Y => ?_)
              obtain ⟨I44, J45, B46, G47⟩ := u
              obtain ⟨hI48, eJ50, hB49, eG51, pr52⟩ := hp
              dsimp only at hI48 eJ50 hB49 eG51 pr52 Y
              rw [eJ50, eG51] at Y
              rw [show I44 = (upd I 18 (nI 14)) from funext hI48] at Y
              rw [show B46 = B15 from funext hB49] at Y
              refine lv_iload X.1 X.2.1 d_aesKey_147 (lv_at hl 2 rfl) ?_
              refine lv_bipush (v := (nI 24)) X.1 X.2.1 d_aesKey_149 (by decide) ?_
              refine lv_ishl X.1 X.2.1 d_aesKey_151 ?_
              refine t_any (fun v55 => ?_)
              refine lv_ixor X.1 X.2.1 d_aesKey_152 ?_
              refine t_any (fun v56 => ?_)
              refine lv_istore (lv' := [(6, .int v56), (5, .int (nI i12)), (4, .int (nI x16)), (3, .int (nI 8)), (0, .ref h), (1, .ref (q 27)), (2, .int (nI 32))]) X.1 X.2.1 d_aesKey_153 hl (by decide) rfl (fun ls hl => ?_)
              refine lv_iload X.1 X.2.1 d_aesKey_155 (lv_at hl 2 rfl) ?_
              refine p_calli (As := [.int (nI x16)]) (rest := []) (n := 1) X Y hml hl.1 (c_twice l (nI x16)) kl_twice ks_twice ki_twice ini_M (by decide +kernel) ⟨by decide, by decide⟩ rfl (Nat.le_of_ble_eq_true rfl) d_aesKey_157 ⟨Nat.le_refl _, Nat.le_refl _⟩ (fun r57 H locs hpr57 Y => ?_)
              obtain ⟨j58, hj58, ej58⟩ := hpr57
              refine t_eq ej58 ?_
              refine lv_istore (lv' := [(4, .int (nI j58)), (6, .int v56), (5, .int (nI i12)), (3, .int (nI 8)), (0, .ref h), (1, .ref (q 27)), (2, .int (nI 32))]) X.1 X.2.1 d_aesKey_160 hl (by decide) rfl (fun ls hl => ?_)
              refine lv_goto (tgt := 187) X.1 X.2.1 d_aesKey_162 (by decide) ?_
              refine lv_aload_n X.1 X.2.1 d_aesKey_187 rfl (lv_at hl 4 rfl) ?_
              refine m_get X Y 15 (by decide) lk_schedule (gf_schedule _ _ _) rfl d_aesKey_188 ?_
              refine lv_iload X.1 X.2.1 d_aesKey_191 (lv_at hl 2 rfl) ?_
              refine lv_aload_n X.1 X.2.1 d_aesKey_193 rfl (lv_at hl 4 rfl) ?_
              refine m_get X Y 15 (by decide) lk_schedule (gf_schedule _ _ _) rfl d_aesKey_194 ?_
              refine lv_iload X.1 X.2.1 d_aesKey_197 (lv_at hl 2 rfl) ?_
              refine lv_iload_n X.1 X.2.1 d_aesKey_199 rfl (lv_at hl 3 rfl) ?_
              refine lv_isub X.1 X.2.1 d_aesKey_200 ?_
              refine t_eq (y := nI (i12 - (8))) (pk_sub (by omega)) ?_
              refine m_iald X Y (aw_schedule _ _ _ _ _ _ _) (vp_in_nI (by omega) (by decide)) d_aesKey_201 ?_
              refine t_any (fun v59 => ?_)
              refine lv_iload X.1 X.2.1 d_aesKey_202 (lv_at hl 1 rfl) ?_
              refine lv_ixor X.1 X.2.1 d_aesKey_204 ?_
              refine t_any (fun v60 => ?_)
              refine m_iast X Y (aw_schedule _ _ _ _ _ _ _) (vp_in_nI (by omega) (by decide)) (sw_schedule _ _ _ _ _ _ _ _) d_aesKey_205 (fun H locs Y => ?_)
              generalize (upd (B15 15) ((nI i12)).toNatClampNeg v60) = f61 at Y
              refine lv_iinc (v := (nI (i12 + 1))) (lv' := [(5, .int (nI (i12 + 1))), (4, .int (nI j58)), (6, .int v56), (3, .int (nI 8)), (0, .ref h), (1, .ref (q 27)), (2, .int (nI 32))]) X.1 X.2.1 d_aesKey_206 hl (k := 2) rfl (nI_add _ 1) (by decide) rfl (fun ls hl => ?_)
              refine lv_goto (tgt := 105) X.1 X.2.1 d_aesKey_209 (by decide) ?_
              exact ih13 (i12 + 1) (upB B15 15 f61) (j58) _ _ _ (by omega) (by omega) (fun j h12 h13 h15 => ((if_neg h15).trans (hB17 j h12 h13 h15))) (show by8 ((upB B15 15 f61) 12) from y18) (show by8 ((upB B15 15 f61) 13) from y19) (by omega)  Y (lv_sub hl [0, 1, 3, 4, 5, 6] rfl)
        exact lp14 (60 - 8) 8 B6 (1) _ _ _ (by omega) (by omega) (fun j h12 h13 h15 => (hB7 j h12 h13 h15)) (show by8 (B6 12) from y8) (show by8 (B6 13) from y9) (by omega)  Y (lv_sub hl [0, 1, 2, 3, 4, 5] rfl)
      | succ n2 ih4 =>
        intro i3 B6 H locs ls hii3 hsi3 hB7 y8 y9  Y hl
        refine lv_iload X.1 X.2.1 d_aesKey_26 (lv_at hl 0 rfl) ?_
        refine lv_iload_n X.1 X.2.1 d_aesKey_28 rfl (lv_at hl 1 rfl) ?_
        refine lv_icmp_ge (tgt := 99) X.1 X.2.1 d_aesKey_29 (by decide) (fun c62 => absurd c62 ?_) (fun c62 => ?_)
        · (rw [nI_leI (by omega) (by omega)] <;> omega)
        rw [nI_leI (by omega) (by omega)] at c62
        refine lv_aload_n X.1 X.2.1 d_aesKey_32 rfl (lv_at hl 2 rfl) ?_
        refine m_get X Y 15 (by decide) lk_schedule (gf_schedule _ _ _) rfl d_aesKey_33 ?_
        refine lv_iload X.1 X.2.1 d_aesKey_36 (lv_at hl 0 rfl) ?_
        refine lv_aload_n X.1 X.2.1 d_aesKey_38 rfl (lv_at hl 3 rfl) ?_
        refine lv_iconst (v := (nI 4)) X.1 X.2.1 d_aesKey_39 (by decide) ?_
        refine lv_iload X.1 X.2.1 d_aesKey_40 (lv_at hl 0 rfl) ?_
        refine lv_imul X.1 X.2.1 d_aesKey_42 ?_
        refine t_eq (y := nI ((4) * (i3))) (pk_mul _ _) ?_
        refine m_bald X Y (aw_long0 _ _ _ _ _ _ _) (vp_in_nI (by omega) (by decide)) d_aesKey_43 ?_
        refine t_any (fun v63 => ?_)
        refine lv_bipush (v := (nI 24)) X.1 X.2.1 d_aesKey_44 (by decide) ?_
        refine lv_ishl X.1 X.2.1 d_aesKey_46 ?_
        refine t_any (fun v64 => ?_)
        refine lv_aload_n X.1 X.2.1 d_aesKey_47 rfl (lv_at hl 3 rfl) ?_
        refine lv_iconst (v := (nI 4)) X.1 X.2.1 d_aesKey_48 (by decide) ?_
        refine lv_iload X.1 X.2.1 d_aesKey_49 (lv_at hl 0 rfl) ?_
        refine lv_imul X.1 X.2.1 d_aesKey_51 ?_
        refine t_eq (y := nI ((4) * (i3))) (pk_mul _ _) ?_
        refine lv_iconst (v := (nI 1)) X.1 X.2.1 d_aesKey_52 (by decide) ?_
        refine lv_iadd X.1 X.2.1 d_aesKey_53 ?_
        refine t_eq (y := nI ((4) * (i3) + 1)) (nI_add _ _) ?_
        refine m_bald X Y (aw_long0 _ _ _ _ _ _ _) (vp_in_nI (by omega) (by decide)) d_aesKey_54 ?_
        refine t_any (fun v65 => ?_)
        refine lv_sipush (v := (nI 255)) X.1 X.2.1 d_aesKey_55 (by decide) ?_
        refine lv_iand X.1 X.2.1 d_aesKey_58 ?_
        obtain ⟨j66, hj66, ej66⟩ := pk_andE v65 (m := nI 255) 8 (by decide)
        refine t_eq ej66 ?_
        have hj66 : j66 < 256 := hj66
        refine lv_bipush (v := (nI 16)) X.1 X.2.1 d_aesKey_59 (by decide) ?_
        refine lv_ishl X.1 X.2.1 d_aesKey_61 ?_
        refine t_any (fun v67 => ?_)
        refine lv_ior X.1 X.2.1 d_aesKey_62 ?_
        refine t_any (fun v68 => ?_)
        refine lv_aload_n X.1 X.2.1 d_aesKey_63 rfl (lv_at hl 3 rfl) ?_
        refine lv_iconst (v := (nI 4)) X.1 X.2.1 d_aesKey_64 (by decide) ?_
        refine lv_iload X.1 X.2.1 d_aesKey_65 (lv_at hl 0 rfl) ?_
        refine lv_imul X.1 X.2.1 d_aesKey_67 ?_
        refine t_eq (y := nI ((4) * (i3))) (pk_mul _ _) ?_
        refine lv_iconst (v := (nI 2)) X.1 X.2.1 d_aesKey_68 (by decide) ?_
        refine lv_iadd X.1 X.2.1 d_aesKey_69 ?_
        refine t_eq (y := nI ((4) * (i3) + 2)) (nI_add _ _) ?_
        refine m_bald X Y (aw_long0 _ _ _ _ _ _ _) (vp_in_nI (by omega) (by decide)) d_aesKey_70 ?_
        refine t_any (fun v69 => ?_)
        refine lv_sipush (v := (nI 255)) X.1 X.2.1 d_aesKey_71 (by decide) ?_
        refine lv_iand X.1 X.2.1 d_aesKey_74 ?_
        obtain ⟨j70, hj70, ej70⟩ := pk_andE v69 (m := nI 255) 8 (by decide)
        refine t_eq ej70 ?_
        have hj70 : j70 < 256 := hj70
        refine lv_bipush (v := (nI 8)) X.1 X.2.1 d_aesKey_75 (by decide) ?_
        refine lv_ishl X.1 X.2.1 d_aesKey_77 ?_
        refine t_any (fun v71 => ?_)
        refine lv_ior X.1 X.2.1 d_aesKey_78 ?_
        refine t_any (fun v72 => ?_)
        refine lv_aload_n X.1 X.2.1 d_aesKey_79 rfl (lv_at hl 3 rfl) ?_
        refine lv_iconst (v := (nI 4)) X.1 X.2.1 d_aesKey_80 (by decide) ?_
        refine lv_iload X.1 X.2.1 d_aesKey_81 (lv_at hl 0 rfl) ?_
        refine lv_imul X.1 X.2.1 d_aesKey_83 ?_
        refine t_eq (y := nI ((4) * (i3))) (pk_mul _ _) ?_
        refine lv_iconst (v := (nI 3)) X.1 X.2.1 d_aesKey_84 (by decide) ?_
        refine lv_iadd X.1 X.2.1 d_aesKey_85 ?_
        refine t_eq (y := nI ((4) * (i3) + 3)) (nI_add _ _) ?_
        refine m_bald X Y (aw_long0 _ _ _ _ _ _ _) (vp_in_nI (by omega) (by decide)) d_aesKey_86 ?_
        refine t_any (fun v73 => ?_)
        refine lv_sipush (v := (nI 255)) X.1 X.2.1 d_aesKey_87 (by decide) ?_
        refine lv_iand X.1 X.2.1 d_aesKey_90 ?_
        obtain ⟨j74, hj74, ej74⟩ := pk_andE v73 (m := nI 255) 8 (by decide)
        refine t_eq ej74 ?_
        have hj74 : j74 < 256 := hj74
        refine lv_ior X.1 X.2.1 d_aesKey_91 ?_
        refine t_any (fun v75 => ?_)
        refine m_iast X Y (aw_schedule _ _ _ _ _ _ _) (vp_in_nI (by omega) (by decide)) (sw_schedule _ _ _ _ _ _ _ _) d_aesKey_92 (fun H locs Y => ?_)
        generalize (upd (B6 15) ((nI i3)).toNatClampNeg v75) = f76 at Y
        refine lv_iinc (v := (nI (i3 + 1))) (lv' := [(4, .int (nI (i3 + 1))), (3, .int (nI 8)), (0, .ref h), (1, .ref (q 27)), (2, .int (nI 32))]) X.1 X.2.1 d_aesKey_93 hl (k := 0) rfl (nI_add _ 1) (by decide) rfl (fun ls hl => ?_)
        refine lv_goto (tgt := 26) X.1 X.2.1 d_aesKey_96 (by decide) ?_
        exact ih4 (i3 + 1) (upB B6 15 f76) _ _ _ (by omega) (by omega) (fun j h12 h13 h15 => ((if_neg h15).trans (hB7 j h12 h13 h15))) (show by8 ((upB B6 15 f76) 12) from y8) (show by8 ((upB B6 15 f76) 13) from y9)  Y (lv_sub hl [0, 1, 2, 3, 4] rfl)
    exact lp5 (8) 0 B _ _ _ (by omega) (by omega) (fun j h12 h13 h15 => rfl) (show by8 (B 12) from y12) (show by8 (B 13) from y13)  Y (lv_sub hl [0, 1, 2, 3, 4] rfl)
  · skip
    refine lv_aload_n X.1 X.2.1 d_aesKey_7 rfl (lv_at hl 0 rfl) ?_
    refine m_callv (As := []) (rest := []) (n := 0) X Y hZ hA hml hl.1 (c_makeBox l D E h q H.size I J B G  (show by8 (B 12) from y12) (show by8 (B 13) from y13)) kl_makeBox ks_makeBox kx_makeBox ki_makeBox ini_M hd_makeBox ⟨by decide, by decide⟩ rfl (Nat.le_of_ble_eq_true rfl) d_aesKey_8 ⟨Nat.le_refl _, Nat.le_refl _⟩ (fun u H locs hp Y => ?_)
    obtain ⟨I77, J78, B79, G80⟩ := u
    obtain ⟨hI81, eJ83, hB82, eG84, hk88, y86, y87⟩ := hp
    dsimp only at hI81 eJ83 hB82 eG84 hk88 y86 y87 Y
    rw [eJ83, eG84] at Y
    have hI89 : (∀ j, j ≠ 14 → j ≠ 18 → I77 j = I j) := fun j h14 h18 => (hI81 j h14).trans ((fun j h14 h18 => rfl) j h14 h18)
    have hB90 : (∀ j, j ≠ 12 → j ≠ 13 → j ≠ 15 → B79 j = B j) := fun j h12 h13 h15 => (hB82 j h12 h13).trans ((fun j h12 h13 h15 => rfl) j h12 h13 h15)
    refine lv_iload_n X.1 X.2.1 d_aesKey_11 rfl (lv_at hl 2 rfl) ?_
    refine lv_iconst (v := (nI 4)) X.1 X.2.1 d_aesKey_12 (by decide) ?_
    refine lv_idiv X.1 X.2.1 d_aesKey_13 (nI_ne0 (by omega) (by omega)) ?_
    refine t_eq (y := nI 8) (by decide) ?_
    refine lv_istore_n (lv' := [(3, .int (nI 8)), (0, .ref h), (1, .ref (q 27)), (2, .int (nI 32))]) X.1 X.2.1 d_aesKey_14 rfl hl (by decide) rfl (fun ls hl => ?_)
    refine lv_aload_n X.1 X.2.1 d_aesKey_15 rfl (lv_at hl 1 rfl) ?_
    refine lv_iload_n X.1 X.2.1 d_aesKey_16 rfl (lv_at hl 0 rfl) ?_
    refine lv_bipush (v := (nI 6)) X.1 X.2.1 d_aesKey_17 (by decide) ?_
    refine lv_iadd X.1 X.2.1 d_aesKey_19 ?_
    refine t_eq (y := nI 14) (by decide) ?_
    refine m_puti X Y 18 (by decide) lk_rounds rfl rfl (t_M_ok 18 (by decide)) rfl rfl (sf_rounds _ _ _ _) (Nat.le_of_ble_eq_true rfl) d_aesKey_20 (fun H locs Y => ?_)
    refine lv_iconst (v := (nI 0)) X.1 X.2.1 d_aesKey_23 (by decide) ?_
    refine lv_istore (lv' := [(4, .int (nI 0)), (3, .int (nI 8)), (0, .ref h), (1, .ref (q 27)), (2, .int (nI 32))]) X.1 X.2.1 d_aesKey_24 hl (by decide) rfl (fun ls hl => ?_)
    have lp94 : ∀ (n91 i92 : Nat) (B95 : Nat → Nat → Int32) (H : Heap) (locs : List Loc) (ls : Array Slot), i92 + n91 = 8 → 0 ≤ i92 → (∀ j, j ≠ 12 → j ≠ 13 → j ≠ 15 → B95 j = B j) → by8 (B95 12) → by8 (B95 13) → mH D E (mA E h q sz) s.heap h q (upd I77 18 (nI 14)) J B95 G H locs → lv_has ls 7 [(4, .int (nI i92)), (3, .int (nI 8)), (0, .ref h), (1, .ref (q 27)), (2, .int (nI 32))] → W p l e (mR 3 69) s m AV below meth c H locs 0 0 QQ (F0 m 26 ls []) := by
      intro n91
      induction n91 with
      | zero =>
        intro i92 B95 H locs ls hii92 hsi92 hB96 y97 y98  Y hl
        refine lv_iload X.1 X.2.1 d_aesKey_26 (lv_at hl 0 rfl) ?_
        refine lv_iload_n X.1 X.2.1 d_aesKey_28 rfl (lv_at hl 1 rfl) ?_
        refine lv_icmp_ge (tgt := 99) X.1 X.2.1 d_aesKey_29 (by decide) (fun c99 => ?_) (fun c99 => absurd ?_ c99)
        rotate_left
        · (rw [nI_leI (by omega) (by omega)] <;> omega)
        rw [nI_leI (by omega) (by omega)] at c99
        refine lv_iconst (v := (nI 1)) X.1 X.2.1 d_aesKey_99 (by decide) ?_
        refine lv_istore (lv' := [(4, .int (nI 1)), (3, .int (nI 8)), (0, .ref h), (1, .ref (q 27)), (2, .int (nI 32))]) X.1 X.2.1 d_aesKey_100 hl (by decide) rfl (fun ls hl => ?_)
        refine lv_iload_n X.1 X.2.1 d_aesKey_102 rfl (lv_at hl 1 rfl) ?_
        refine lv_istore (lv' := [(5, .int (nI 8)), (4, .int (nI 1)), (3, .int (nI 8)), (0, .ref h), (1, .ref (q 27)), (2, .int (nI 32))]) X.1 X.2.1 d_aesKey_103 hl (by decide) rfl (fun ls hl => ?_)
        have lp103 : ∀ (n100 i101 : Nat) (B104 : Nat → Nat → Int32) (x105 : Nat) (H : Heap) (locs : List Loc) (ls : Array Slot), i101 + n100 = 60 → 8 ≤ i101 → (∀ j, j ≠ 12 → j ≠ 13 → j ≠ 15 → B104 j = B j) → by8 (B104 12) → by8 (B104 13) → x105 < 256 → mH D E (mA E h q sz) s.heap h q (upd I77 18 (nI 14)) J B104 G H locs → lv_has ls 7 [(5, .int (nI i101)), (4, .int (nI x105)), (3, .int (nI 8)), (0, .ref h), (1, .ref (q 27)), (2, .int (nI 32))] → W p l e (mR 3 69) s m AV below meth c H locs 0 0 QQ (F0 m 105 ls []) := by
          intro n100
          induction n100 with
          | zero =>
            intro i101 B104 x105 H locs ls hii101 hsi101 hB106 y107 y108 hxx105  Y hl
            refine lv_iload X.1 X.2.1 d_aesKey_105 (lv_at hl 0 rfl) ?_
            refine lv_iconst (v := (nI 4)) X.1 X.2.1 d_aesKey_107 (by decide) ?_
            refine lv_aload_n X.1 X.2.1 d_aesKey_108 rfl (lv_at hl 3 rfl) ?_
            refine m_get X Y 18 (by decide) lk_rounds (gf_rounds _ _ _) rfl d_aesKey_109 ?_
            refine t_eq (show (upd I77 18 (nI 14)) 18 = nI (14) from pk_us) ?_
            refine lv_iconst (v := (nI 1)) X.1 X.2.1 d_aesKey_112 (by decide) ?_
            refine lv_iadd X.1 X.2.1 d_aesKey_113 ?_
            refine t_eq (y := nI 15) (by decide) ?_
            refine lv_imul X.1 X.2.1 d_aesKey_114 ?_
            refine t_eq (y := nI 60) (by decide) ?_
            refine lv_icmp_ge (tgt := 212) X.1 X.2.1 d_aesKey_115 (by decide) (fun c109 => ?_) (fun c109 => absurd ?_ c109)
            rotate_left
            · (rw [nI_leI (by omega) (by omega)] <;> omega)
            rw [nI_leI (by omega) (by omega)] at c109
            exact m_retv hQQ X Y hr hlk ⟨(fun j h14 h18 => ((if_neg h18).trans (hI89 j h14 h18))), rfl, (fun j h12 h13 h15 => (hB106 j h12 h13 h15)), rfl, (show (upd I77 18 (nI 14)) 18 = nI (14) from (show (upd I77 18 (nI 14)) 18 = nI (14) from pk_us).trans (congrArg nI (show (14 : Nat) = 14 by omega))), (show by8 (B104 12) from y107), (show by8 (B104 13) from y108)⟩ d_aesKey_212
          | succ n100 ih102 =>
            intro i101 B104 x105 H locs ls hii101 hsi101 hB106 y107 y108 hxx105  Y hl
            refine lv_iload X.1 X.2.1 d_aesKey_105 (lv_at hl 0 rfl) ?_
            refine lv_iconst (v := (nI 4)) X.1 X.2.1 d_aesKey_107 (by decide) ?_
            refine lv_aload_n X.1 X.2.1 d_aesKey_108 rfl (lv_at hl 3 rfl) ?_
            refine m_get X Y 18 (by decide) lk_rounds (gf_rounds _ _ _) rfl d_aesKey_109 ?_
            refine t_eq (show (upd I77 18 (nI 14)) 18 = nI (14) from pk_us) ?_
            refine lv_iconst (v := (nI 1)) X.1 X.2.1 d_aesKey_112 (by decide) ?_
            refine lv_iadd X.1 X.2.1 d_aesKey_113 ?_
            refine t_eq (y := nI 15) (by decide) ?_
            refine lv_imul X.1 X.2.1 d_aesKey_114 ?_
            refine t_eq (y := nI 60) (by decide) ?_
            refine lv_icmp_ge (tgt := 212) X.1 X.2.1 d_aesKey_115 (by decide) (fun c110 => absurd c110 ?_) (fun c110 => ?_)
            · (rw [nI_leI (by omega) (by omega)] <;> omega)
            rw [nI_leI (by omega) (by omega)] at c110
            refine lv_aload_n X.1 X.2.1 d_aesKey_118 rfl (lv_at hl 3 rfl) ?_
            refine m_get X Y 15 (by decide) lk_schedule (gf_schedule _ _ _) rfl d_aesKey_119 ?_
            refine lv_iload X.1 X.2.1 d_aesKey_122 (lv_at hl 0 rfl) ?_
            refine lv_iconst (v := (nI 1)) X.1 X.2.1 d_aesKey_124 (by decide) ?_
            refine lv_isub X.1 X.2.1 d_aesKey_125 ?_
            refine t_eq (y := nI (i101 - (1))) (pk_sub (by omega)) ?_
            refine m_iald X Y (aw_schedule _ _ _ _ _ _ _) (vp_in_nI (by omega) (by decide)) d_aesKey_126 ?_
            refine t_any (fun v111 => ?_)
            refine lv_istore (lv' := [(6, .int v111), (5, .int (nI i101)), (4, .int (nI x105)), (3, .int (nI 8)), (0, .ref h), (1, .ref (q 27)), (2, .int (nI 32))]) X.1 X.2.1 d_aesKey_127 hl (by decide) rfl (fun ls hl => ?_)
            refine lv_iload X.1 X.2.1 d_aesKey_129 (lv_at hl 1 rfl) ?_
            refine lv_iload_n X.1 X.2.1 d_aesKey_131 rfl (lv_at hl 3 rfl) ?_
            refine lv_irem X.1 X.2.1 d_aesKey_132 (nI_ne0 (by omega) (by omega)) ?_
            refine t_eq (y := nI ((i101) % (8))) (pk_rem (by omega) (by omega) (by omega)) ?_
            refine lv_if_ne (tgt := 165) X.1 X.2.1 d_aesKey_133 (by decide) (fun c112 => ?_) (fun c112 => ?_)
            · skip
              rw [← nI_0] at c112
              rw [nI_eq (by omega) (by omega)] at c112
              refine lv_iload_n X.1 X.2.1 d_aesKey_165 rfl (lv_at hl 3 rfl) ?_
              refine lv_bipush (v := (nI 6)) X.1 X.2.1 d_aesKey_166 (by decide) ?_
              refine lv_icmp_le (tgt := 187) X.1 X.2.1 d_aesKey_168 (by decide) (fun c113 => absurd c113 ?_) (fun c113 => ?_)
              · (rw [nI_leI (by omega) (by omega)] <;> omega)
              rw [nI_leI (by omega) (by omega)] at c113
              refine lv_iload X.1 X.2.1 d_aesKey_171 (lv_at hl 1 rfl) ?_
              refine lv_iload_n X.1 X.2.1 d_aesKey_173 rfl (lv_at hl 3 rfl) ?_
              refine lv_irem X.1 X.2.1 d_aesKey_174 (nI_ne0 (by omega) (by omega)) ?_
              refine t_eq (y := nI ((i101) % (8))) (pk_rem (by omega) (by omega) (by omega)) ?_
              refine lv_iconst (v := (nI 4)) X.1 X.2.1 d_aesKey_175 (by decide) ?_
              refine lv_icmp_ne (tgt := 187) X.1 X.2.1 d_aesKey_176 (by decide) (fun c114 => ?_) (fun c114 => ?_)
              · skip
                rw [nI_eq (by omega) (by omega)] at c114
                refine lv_aload_n X.1 X.2.1 d_aesKey_187 rfl (lv_at hl 4 rfl) ?_
                refine m_get X Y 15 (by decide) lk_schedule (gf_schedule _ _ _) rfl d_aesKey_188 ?_
                refine lv_iload X.1 X.2.1 d_aesKey_191 (lv_at hl 1 rfl) ?_
                refine lv_aload_n X.1 X.2.1 d_aesKey_193 rfl (lv_at hl 4 rfl) ?_
                refine m_get X Y 15 (by decide) lk_schedule (gf_schedule _ _ _) rfl d_aesKey_194 ?_
                refine lv_iload X.1 X.2.1 d_aesKey_197 (lv_at hl 1 rfl) ?_
                refine lv_iload_n X.1 X.2.1 d_aesKey_199 rfl (lv_at hl 3 rfl) ?_
                refine lv_isub X.1 X.2.1 d_aesKey_200 ?_
                refine t_eq (y := nI (i101 - (8))) (pk_sub (by omega)) ?_
                refine m_iald X Y (aw_schedule _ _ _ _ _ _ _) (vp_in_nI (by omega) (by decide)) d_aesKey_201 ?_
                refine t_any (fun v115 => ?_)
                refine lv_iload X.1 X.2.1 d_aesKey_202 (lv_at hl 0 rfl) ?_
                refine lv_ixor X.1 X.2.1 d_aesKey_204 ?_
                refine t_any (fun v116 => ?_)
                refine m_iast X Y (aw_schedule _ _ _ _ _ _ _) (vp_in_nI (by omega) (by decide)) (sw_schedule _ _ _ _ _ _ _ _) d_aesKey_205 (fun H locs Y => ?_)
                generalize (upd (B104 15) ((nI i101)).toNatClampNeg v116) = f117 at Y
                refine lv_iinc (v := (nI (i101 + 1))) (lv' := [(5, .int (nI (i101 + 1))), (6, .int v111), (4, .int (nI x105)), (3, .int (nI 8)), (0, .ref h), (1, .ref (q 27)), (2, .int (nI 32))]) X.1 X.2.1 d_aesKey_206 hl (k := 1) rfl (nI_add _ 1) (by decide) rfl (fun ls hl => ?_)
                refine lv_goto (tgt := 105) X.1 X.2.1 d_aesKey_209 (by decide) ?_
                exact ih102 (i101 + 1) (upB B104 15 f117) (x105) _ _ _ (by omega) (by omega) (fun j h12 h13 h15 => ((if_neg h15).trans (hB106 j h12 h13 h15))) (show by8 ((upB B104 15 f117) 12) from y107) (show by8 ((upB B104 15 f117) 13) from y108) (by omega)  Y (lv_sub hl [0, 2, 3, 4, 5, 6] rfl)
              · skip
                rw [nI_eq (by omega) (by omega)] at c114
                refine lv_aload_n X.1 X.2.1 d_aesKey_179 rfl (lv_at hl 4 rfl) ?_
                refine lv_iload X.1 X.2.1 d_aesKey_180 (lv_at hl 0 rfl) ?_
                refine m_calli (As := [.int v111]) (rest := []) (n := 1) X Y hZ hA hml hl.1 (c_boxed l D E h q H.size (upd I77 18 (nI 14)) J B104 G v111) kl_boxed ks_boxed kx_boxed ki_boxed ini_M hd_boxed ⟨by decide, by decide⟩ rfl (Nat.le_of_ble_eq_true rfl) d_aesKey_182 ⟨Nat.le_refl _, Nat.le_refl _⟩ (fun r126 u H locs hp Y => ?_)
                obtain ⟨I118, J119, B120, G121⟩ := u
                obtain ⟨hI122, eJ124, hB123, eG125, pr126⟩ := hp
                dsimp only at hI122 eJ124 hB123 eG125 pr126 Y
                rw [eJ124, eG125] at Y
                rw [show I118 = (upd I77 18 (nI 14)) from funext hI122] at Y
                rw [show B120 = B104 from funext hB123] at Y
                refine lv_istore (lv' := [(6, .int r126), (5, .int (nI i101)), (4, .int (nI x105)), (3, .int (nI 8)), (0, .ref h), (1, .ref (q 27)), (2, .int (nI 32))]) X.1 X.2.1 d_aesKey_185 hl (by decide) rfl (fun ls hl => ?_)
                refine lv_aload_n X.1 X.2.1 d_aesKey_187 rfl (lv_at hl 4 rfl) ?_
                refine m_get X Y 15 (by decide) lk_schedule (gf_schedule _ _ _) rfl d_aesKey_188 ?_
                refine lv_iload X.1 X.2.1 d_aesKey_191 (lv_at hl 1 rfl) ?_
                refine lv_aload_n X.1 X.2.1 d_aesKey_193 rfl (lv_at hl 4 rfl) ?_
                refine m_get X Y 15 (by decide) lk_schedule (gf_schedule _ _ _) rfl d_aesKey_194 ?_
                refine lv_iload X.1 X.2.1 d_aesKey_197 (lv_at hl 1 rfl) ?_
                refine lv_iload_n X.1 X.2.1 d_aesKey_199 rfl (lv_at hl 3 rfl) ?_
                refine lv_isub X.1 X.2.1 d_aesKey_200 ?_
                refine t_eq (y := nI (i101 - (8))) (pk_sub (by omega)) ?_
                refine m_iald X Y (aw_schedule _ _ _ _ _ _ _) (vp_in_nI (by omega) (by decide)) d_aesKey_201 ?_
                refine t_any (fun v129 => ?_)
                refine lv_iload X.1 X.2.1 d_aesKey_202 (lv_at hl 0 rfl) ?_
                refine lv_ixor X.1 X.2.1 d_aesKey_204 ?_
                refine t_any (fun v130 => ?_)
                refine m_iast X Y (aw_schedule _ _ _ _ _ _ _) (vp_in_nI (by omega) (by decide)) (sw_schedule _ _ _ _ _ _ _ _) d_aesKey_205 (fun H locs Y => ?_)
                generalize (upd (B104 15) ((nI i101)).toNatClampNeg v130) = f131 at Y
                refine lv_iinc (v := (nI (i101 + 1))) (lv' := [(5, .int (nI (i101 + 1))), (6, .int r126), (4, .int (nI x105)), (3, .int (nI 8)), (0, .ref h), (1, .ref (q 27)), (2, .int (nI 32))]) X.1 X.2.1 d_aesKey_206 hl (k := 1) rfl (nI_add _ 1) (by decide) rfl (fun ls hl => ?_)
                refine lv_goto (tgt := 105) X.1 X.2.1 d_aesKey_209 (by decide) ?_
                exact ih102 (i101 + 1) (upB B104 15 f131) (x105) _ _ _ (by omega) (by omega) (fun j h12 h13 h15 => ((if_neg h15).trans (hB106 j h12 h13 h15))) (show by8 ((upB B104 15 f131) 12) from y107) (show by8 ((upB B104 15 f131) 13) from y108) (by omega)  Y (lv_sub hl [0, 2, 3, 4, 5, 6] rfl)
            · skip
              rw [← nI_0] at c112
              rw [nI_eq (by omega) (by omega)] at c112
              refine lv_aload_n X.1 X.2.1 d_aesKey_136 rfl (lv_at hl 4 rfl) ?_
              refine lv_iload X.1 X.2.1 d_aesKey_137 (lv_at hl 0 rfl) ?_
              refine lv_bipush (v := (nI 8)) X.1 X.2.1 d_aesKey_139 (by decide) ?_
              refine p_calli (As := [.int v111, .int (nI 8)]) (rest := [.ref h]) (n := 2) X Y hml hl.1 (c_left l v111 (nI 8)) kl_left ks_left ki_left ini_M (by decide +kernel) ⟨by decide, by decide⟩ rfl (Nat.le_of_ble_eq_true rfl) d_aesKey_141 ⟨Nat.le_refl _, Nat.le_refl _⟩ (fun r132 H locs hpr132 Y => ?_)
              refine m_calli (As := [.int r132]) (rest := []) (n := 1) X Y hZ hA hml hl.1 (c_boxed l D E h q H.size (upd I77 18 (nI 14)) J B104 G r132) kl_boxed ks_boxed kx_boxed ki_boxed ini_M hd_boxed ⟨by decide, by decide⟩ rfl (Nat.le_of_ble_eq_true rfl) d_aesKey_144 ⟨Nat.le_refl _, Nat.le_refl _⟩ (fun r141 u H locs hp Y => ?_)
              obtain ⟨I133, J134, B135, G136⟩ := u
              obtain ⟨hI137, eJ139, hB138, eG140, pr141⟩ := hp
              dsimp only at hI137 eJ139 hB138 eG140 pr141 Y
              rw [eJ139, eG140] at Y
              rw [show I133 = (upd I77 18 (nI 14)) from funext hI137] at Y
              rw [show B135 = B104 from funext hB138] at Y
              refine lv_iload X.1 X.2.1 d_aesKey_147 (lv_at hl 2 rfl) ?_
              refine lv_bipush (v := (nI 24)) X.1 X.2.1 d_aesKey_149 (by decide) ?_
              refine lv_ishl X.1 X.2.1 d_aesKey_151 ?_
              refine t_any (fun v144 => ?_)
              refine lv_ixor X.1 X.2.1 d_aesKey_152 ?_
              refine t_any (fun v145 => ?_)
              refine lv_istore (lv' := [(6, .int v145), (5, .int (nI i101)), (4, .int (nI x105)), (3, .int (nI 8)), (0, .ref h), (1, .ref (q 27)), (2, .int (nI 32))]) X.1 X.2.1 d_aesKey_153 hl (by decide) rfl (fun ls hl => ?_)
              refine lv_iload X.1 X.2.1 d_aesKey_155 (lv_at hl 2 rfl) ?_
              refine p_calli (As := [.int (nI x105)]) (rest := []) (n := 1) X Y hml hl.1 (c_twice l (nI x105)) kl_twice ks_twice ki_twice ini_M (by decide +kernel) ⟨by decide, by decide⟩ rfl (Nat.le_of_ble_eq_true rfl) d_aesKey_157 ⟨Nat.le_refl _, Nat.le_refl _⟩ (fun r146 H locs hpr146 Y => ?_)
              obtain ⟨j147, hj147, ej147⟩ := hpr146
              refine t_eq ej147 ?_
              refine lv_istore (lv' := [(4, .int (nI j147)), (6, .int v145), (5, .int (nI i101)), (3, .int (nI 8)), (0, .ref h), (1, .ref (q 27)), (2, .int (nI 32))]) X.1 X.2.1 d_aesKey_160 hl (by decide) rfl (fun ls hl => ?_)
              refine lv_goto (tgt := 187) X.1 X.2.1 d_aesKey_162 (by decide) ?_
              refine lv_aload_n X.1 X.2.1 d_aesKey_187 rfl (lv_at hl 4 rfl) ?_
              refine m_get X Y 15 (by decide) lk_schedule (gf_schedule _ _ _) rfl d_aesKey_188 ?_
              refine lv_iload X.1 X.2.1 d_aesKey_191 (lv_at hl 2 rfl) ?_
              refine lv_aload_n X.1 X.2.1 d_aesKey_193 rfl (lv_at hl 4 rfl) ?_
              refine m_get X Y 15 (by decide) lk_schedule (gf_schedule _ _ _) rfl d_aesKey_194 ?_
              refine lv_iload X.1 X.2.1 d_aesKey_197 (lv_at hl 2 rfl) ?_
              refine lv_iload_n X.1 X.2.1 d_aesKey_199 rfl (lv_at hl 3 rfl) ?_
              refine lv_isub X.1 X.2.1 d_aesKey_200 ?_
              refine t_eq (y := nI (i101 - (8))) (pk_sub (by omega)) ?_
              refine m_iald X Y (aw_schedule _ _ _ _ _ _ _) (vp_in_nI (by omega) (by decide)) d_aesKey_201 ?_
              refine t_any (fun v148 => ?_)
              refine lv_iload X.1 X.2.1 d_aesKey_202 (lv_at hl 1 rfl) ?_
              refine lv_ixor X.1 X.2.1 d_aesKey_204 ?_
              refine t_any (fun v149 => ?_)
              refine m_iast X Y (aw_schedule _ _ _ _ _ _ _) (vp_in_nI (by omega) (by decide)) (sw_schedule _ _ _ _ _ _ _ _) d_aesKey_205 (fun H locs Y => ?_)
              generalize (upd (B104 15) ((nI i101)).toNatClampNeg v149) = f150 at Y
              refine lv_iinc (v := (nI (i101 + 1))) (lv' := [(5, .int (nI (i101 + 1))), (4, .int (nI j147)), (6, .int v145), (3, .int (nI 8)), (0, .ref h), (1, .ref (q 27)), (2, .int (nI 32))]) X.1 X.2.1 d_aesKey_206 hl (k := 2) rfl (nI_add _ 1) (by decide) rfl (fun ls hl => ?_)
              refine lv_goto (tgt := 105) X.1 X.2.1 d_aesKey_209 (by decide) ?_
              exact ih102 (i101 + 1) (upB B104 15 f150) (j147) _ _ _ (by omega) (by omega) (fun j h12 h13 h15 => ((if_neg h15).trans (hB106 j h12 h13 h15))) (show by8 ((upB B104 15 f150) 12) from y107) (show by8 ((upB B104 15 f150) 13) from y108) (by omega)  Y (lv_sub hl [0, 1, 3, 4, 5, 6] rfl)
        exact lp103 (60 - 8) 8 B95 (1) _ _ _ (by omega) (by omega) (fun j h12 h13 h15 => (hB96 j h12 h13 h15)) (show by8 (B95 12) from y97) (show by8 (B95 13) from y98) (by omega)  Y (lv_sub hl [0, 1, 2, 3, 4, 5] rfl)
      | succ n91 ih93 =>
        intro i92 B95 H locs ls hii92 hsi92 hB96 y97 y98  Y hl
        refine lv_iload X.1 X.2.1 d_aesKey_26 (lv_at hl 0 rfl) ?_
        refine lv_iload_n X.1 X.2.1 d_aesKey_28 rfl (lv_at hl 1 rfl) ?_
        refine lv_icmp_ge (tgt := 99) X.1 X.2.1 d_aesKey_29 (by decide) (fun c151 => absurd c151 ?_) (fun c151 => ?_)
        · (rw [nI_leI (by omega) (by omega)] <;> omega)
        rw [nI_leI (by omega) (by omega)] at c151
        refine lv_aload_n X.1 X.2.1 d_aesKey_32 rfl (lv_at hl 2 rfl) ?_
        refine m_get X Y 15 (by decide) lk_schedule (gf_schedule _ _ _) rfl d_aesKey_33 ?_
        refine lv_iload X.1 X.2.1 d_aesKey_36 (lv_at hl 0 rfl) ?_
        refine lv_aload_n X.1 X.2.1 d_aesKey_38 rfl (lv_at hl 3 rfl) ?_
        refine lv_iconst (v := (nI 4)) X.1 X.2.1 d_aesKey_39 (by decide) ?_
        refine lv_iload X.1 X.2.1 d_aesKey_40 (lv_at hl 0 rfl) ?_
        refine lv_imul X.1 X.2.1 d_aesKey_42 ?_
        refine t_eq (y := nI ((4) * (i92))) (pk_mul _ _) ?_
        refine m_bald X Y (aw_long0 _ _ _ _ _ _ _) (vp_in_nI (by omega) (by decide)) d_aesKey_43 ?_
        refine t_any (fun v152 => ?_)
        refine lv_bipush (v := (nI 24)) X.1 X.2.1 d_aesKey_44 (by decide) ?_
        refine lv_ishl X.1 X.2.1 d_aesKey_46 ?_
        refine t_any (fun v153 => ?_)
        refine lv_aload_n X.1 X.2.1 d_aesKey_47 rfl (lv_at hl 3 rfl) ?_
        refine lv_iconst (v := (nI 4)) X.1 X.2.1 d_aesKey_48 (by decide) ?_
        refine lv_iload X.1 X.2.1 d_aesKey_49 (lv_at hl 0 rfl) ?_
        refine lv_imul X.1 X.2.1 d_aesKey_51 ?_
        refine t_eq (y := nI ((4) * (i92))) (pk_mul _ _) ?_
        refine lv_iconst (v := (nI 1)) X.1 X.2.1 d_aesKey_52 (by decide) ?_
        refine lv_iadd X.1 X.2.1 d_aesKey_53 ?_
        refine t_eq (y := nI ((4) * (i92) + 1)) (nI_add _ _) ?_
        refine m_bald X Y (aw_long0 _ _ _ _ _ _ _) (vp_in_nI (by omega) (by decide)) d_aesKey_54 ?_
        refine t_any (fun v154 => ?_)
        refine lv_sipush (v := (nI 255)) X.1 X.2.1 d_aesKey_55 (by decide) ?_
        refine lv_iand X.1 X.2.1 d_aesKey_58 ?_
        obtain ⟨j155, hj155, ej155⟩ := pk_andE v154 (m := nI 255) 8 (by decide)
        refine t_eq ej155 ?_
        have hj155 : j155 < 256 := hj155
        refine lv_bipush (v := (nI 16)) X.1 X.2.1 d_aesKey_59 (by decide) ?_
        refine lv_ishl X.1 X.2.1 d_aesKey_61 ?_
        refine t_any (fun v156 => ?_)
        refine lv_ior X.1 X.2.1 d_aesKey_62 ?_
        refine t_any (fun v157 => ?_)
        refine lv_aload_n X.1 X.2.1 d_aesKey_63 rfl (lv_at hl 3 rfl) ?_
        refine lv_iconst (v := (nI 4)) X.1 X.2.1 d_aesKey_64 (by decide) ?_
        refine lv_iload X.1 X.2.1 d_aesKey_65 (lv_at hl 0 rfl) ?_
        refine lv_imul X.1 X.2.1 d_aesKey_67 ?_
        refine t_eq (y := nI ((4) * (i92))) (pk_mul _ _) ?_
        refine lv_iconst (v := (nI 2)) X.1 X.2.1 d_aesKey_68 (by decide) ?_
        refine lv_iadd X.1 X.2.1 d_aesKey_69 ?_
        refine t_eq (y := nI ((4) * (i92) + 2)) (nI_add _ _) ?_
        refine m_bald X Y (aw_long0 _ _ _ _ _ _ _) (vp_in_nI (by omega) (by decide)) d_aesKey_70 ?_
        refine t_any (fun v158 => ?_)
        refine lv_sipush (v := (nI 255)) X.1 X.2.1 d_aesKey_71 (by decide) ?_
        refine lv_iand X.1 X.2.1 d_aesKey_74 ?_
        obtain ⟨j159, hj159, ej159⟩ := pk_andE v158 (m := nI 255) 8 (by decide)
        refine t_eq ej159 ?_
        have hj159 : j159 < 256 := hj159
        refine lv_bipush (v := (nI 8)) X.1 X.2.1 d_aesKey_75 (by decide) ?_
        refine lv_ishl X.1 X.2.1 d_aesKey_77 ?_
        refine t_any (fun v160 => ?_)
        refine lv_ior X.1 X.2.1 d_aesKey_78 ?_
        refine t_any (fun v161 => ?_)
        refine lv_aload_n X.1 X.2.1 d_aesKey_79 rfl (lv_at hl 3 rfl) ?_
        refine lv_iconst (v := (nI 4)) X.1 X.2.1 d_aesKey_80 (by decide) ?_
        refine lv_iload X.1 X.2.1 d_aesKey_81 (lv_at hl 0 rfl) ?_
        refine lv_imul X.1 X.2.1 d_aesKey_83 ?_
        refine t_eq (y := nI ((4) * (i92))) (pk_mul _ _) ?_
        refine lv_iconst (v := (nI 3)) X.1 X.2.1 d_aesKey_84 (by decide) ?_
        refine lv_iadd X.1 X.2.1 d_aesKey_85 ?_
        refine t_eq (y := nI ((4) * (i92) + 3)) (nI_add _ _) ?_
        refine m_bald X Y (aw_long0 _ _ _ _ _ _ _) (vp_in_nI (by omega) (by decide)) d_aesKey_86 ?_
        refine t_any (fun v162 => ?_)
        refine lv_sipush (v := (nI 255)) X.1 X.2.1 d_aesKey_87 (by decide) ?_
        refine lv_iand X.1 X.2.1 d_aesKey_90 ?_
        obtain ⟨j163, hj163, ej163⟩ := pk_andE v162 (m := nI 255) 8 (by decide)
        refine t_eq ej163 ?_
        have hj163 : j163 < 256 := hj163
        refine lv_ior X.1 X.2.1 d_aesKey_91 ?_
        refine t_any (fun v164 => ?_)
        refine m_iast X Y (aw_schedule _ _ _ _ _ _ _) (vp_in_nI (by omega) (by decide)) (sw_schedule _ _ _ _ _ _ _ _) d_aesKey_92 (fun H locs Y => ?_)
        generalize (upd (B95 15) ((nI i92)).toNatClampNeg v164) = f165 at Y
        refine lv_iinc (v := (nI (i92 + 1))) (lv' := [(4, .int (nI (i92 + 1))), (3, .int (nI 8)), (0, .ref h), (1, .ref (q 27)), (2, .int (nI 32))]) X.1 X.2.1 d_aesKey_93 hl (k := 0) rfl (nI_add _ 1) (by decide) rfl (fun ls hl => ?_)
        refine lv_goto (tgt := 26) X.1 X.2.1 d_aesKey_96 (by decide) ?_
        exact ih93 (i92 + 1) (upB B95 15 f165) _ _ _ (by omega) (by omega) (fun j h12 h13 h15 => ((if_neg h15).trans (hB96 j h12 h13 h15))) (show by8 ((upB B95 15 f165) 12) from y97) (show by8 ((upB B95 15 f165) 13) from y98)  Y (lv_sub hl [0, 1, 2, 3, 4] rfl)
    exact lp94 (8) 0 B79 _ _ _ (by omega) (by omega) (fun j h12 h13 h15 => (hB90 j h12 h13 h15)) (show by8 (B79 12) from y86) (show by8 (B79 13) from y87)  Y (lv_sub hl [0, 1, 2, 3, 4] rfl)
set_option maxHeartbeats 4000000 in
set_option maxRecDepth 100000 in
theorem c_addKey (l : Launch) (D : mD) (E : mE) (h : Nat) (q : Nat → Nat) (sz : Nat) (I : Nat → Int32) (J : Nat → Int64) (B : Nat → Nat → Int32) (G : Nat → Nat → Int64) (k : Nat) (hk : k ≤ 14) (y16 : by8 (B 16)) : Met l y_addKey (k_addKey :: lw_tg) (mR 0 0) (va_Pc [.ref h, .int (nI k)] (mPre D E h q (I, J, B, G) sz)) (va_Qv (fun (u : mS) => (∀ j, u.1 j = I j) ∧ u.2.1 = J ∧ (∀ j, j ≠ 16 → u.2.2.1 j = B j) ∧ u.2.2.2 = G ∧ by8 (u.2.2.1 16)) (mPost D E h q (mA E h q sz)) (mA E h q sz)) 0 0 (mA E h q sz) := by
  refine m_enter (by decide) rfl (Nat.le_of_ble_eq_true rfl) (fun p e s m below meth c ls AV QQ H locs hQQ X Y hZ hA hr hlk hml hl => ?_)
  have Y : mH D E (mA E h q sz) s.heap h q I J B G H locs := Y
  have hl : lv_has ls 3 [(0, .ref h), (1, .int (nI k))] := hl
  refine lv_iconst (v := (nI 0)) X.1 X.2.1 d_addKey_0 (by decide) ?_
  refine lv_istore_n (lv' := [(2, .int (nI 0)), (0, .ref h), (1, .int (nI k))]) X.1 X.2.1 d_addKey_1 rfl hl (by decide) rfl (fun ls hl => ?_)
  have lp4 : ∀ (n1 i2 : Nat) (B5 : Nat → Nat → Int32) (H : Heap) (locs : List Loc) (ls : Array Slot), i2 + n1 = 16 → 0 ≤ i2 → (∀ j, j ≠ 16 → B5 j = B j) → by8 (B5 16) → mH D E (mA E h q sz) s.heap h q I J B5 G H locs → lv_has ls 3 [(2, .int (nI i2)), (0, .ref h), (1, .int (nI k))] → W p l e (mR 0 0) s m AV below meth c H locs 0 0 QQ (F0 m 2 ls []) := by
    intro n1
    induction n1 with
    | zero =>
      intro i2 B5 H locs ls hii2 hsi2 hB6 y7  Y hl
      refine lv_iload_n X.1 X.2.1 d_addKey_2 rfl (lv_at hl 0 rfl) ?_
      refine lv_bipush (v := (nI 16)) X.1 X.2.1 d_addKey_3 (by decide) ?_
      refine lv_icmp_ge (tgt := 49) X.1 X.2.1 d_addKey_5 (by decide) (fun c8 => ?_) (fun c8 => absurd ?_ c8)
      rotate_left
      · (rw [nI_leI (by omega) (by omega)] <;> omega)
      rw [nI_leI (by omega) (by omega)] at c8
      exact m_retv hQQ X Y hr hlk ⟨(fun j  => rfl), rfl, (fun j h16 => (hB6 j h16)), rfl, (show by8 (B5 16) from y7)⟩ d_addKey_49
    | succ n1 ih3 =>
      intro i2 B5 H locs ls hii2 hsi2 hB6 y7  Y hl
      refine lv_iload_n X.1 X.2.1 d_addKey_2 rfl (lv_at hl 0 rfl) ?_
      refine lv_bipush (v := (nI 16)) X.1 X.2.1 d_addKey_3 (by decide) ?_
      refine lv_icmp_ge (tgt := 49) X.1 X.2.1 d_addKey_5 (by decide) (fun c9 => absurd c9 ?_) (fun c9 => ?_)
      · (rw [nI_leI (by omega) (by omega)] <;> omega)
      rw [nI_leI (by omega) (by omega)] at c9
      refine lv_aload_n X.1 X.2.1 d_addKey_8 rfl (lv_at hl 1 rfl) ?_
      refine m_get X Y 16 (by decide) lk_state (gf_state _ _ _) rfl d_addKey_9 ?_
      refine lv_iload_n X.1 X.2.1 d_addKey_12 rfl (lv_at hl 0 rfl) ?_
      refine lv_dup2_11 X.1 X.2.1 d_addKey_13 rfl rfl ?_
      refine m_iald X Y (aw_state _ _ _ _ _ _ _) (vp_in_nI (by omega) (by decide)) d_addKey_14 ?_
      obtain ⟨j10, hj10, ej10⟩ := y7 ((nI i2)).toNatClampNeg
      refine t_eq (show B5 16 ((nI i2)).toNatClampNeg = nI j10 from ej10) ?_
      refine lv_aload_n X.1 X.2.1 d_addKey_15 rfl (lv_at hl 1 rfl) ?_
      refine m_get X Y 15 (by decide) lk_schedule (gf_schedule _ _ _) rfl d_addKey_16 ?_
      refine lv_iconst (v := (nI 4)) X.1 X.2.1 d_addKey_19 (by decide) ?_
      refine lv_iload_n X.1 X.2.1 d_addKey_20 rfl (lv_at hl 2 rfl) ?_
      refine lv_imul X.1 X.2.1 d_addKey_21 ?_
      refine t_eq (y := nI ((4) * (k))) (pk_mul _ _) ?_
      refine lv_iload_n X.1 X.2.1 d_addKey_22 rfl (lv_at hl 0 rfl) ?_
      refine lv_iconst (v := (nI 4)) X.1 X.2.1 d_addKey_23 (by decide) ?_
      refine lv_idiv X.1 X.2.1 d_addKey_24 (nI_ne0 (by omega) (by omega)) ?_
      refine t_eq (y := nI ((i2) / (4))) (pk_div (by omega) (by omega) (by omega)) ?_
      refine lv_iadd X.1 X.2.1 d_addKey_25 ?_
      refine t_eq (y := nI ((4) * (k) + (i2) / (4))) (nI_add _ _) ?_
      refine m_iald X Y (aw_schedule _ _ _ _ _ _ _) (vp_in_nI (by omega) (by decide)) d_addKey_26 ?_
      refine t_any (fun v11 => ?_)
      refine lv_bipush (v := (nI 24)) X.1 X.2.1 d_addKey_27 (by decide) ?_
      refine lv_bipush (v := (nI 8)) X.1 X.2.1 d_addKey_29 (by decide) ?_
      refine lv_iload_n X.1 X.2.1 d_addKey_31 rfl (lv_at hl 0 rfl) ?_
      refine lv_iconst (v := (nI 4)) X.1 X.2.1 d_addKey_32 (by decide) ?_
      refine lv_irem X.1 X.2.1 d_addKey_33 (nI_ne0 (by omega) (by omega)) ?_
      refine t_eq (y := nI ((i2) % (4))) (pk_rem (by omega) (by omega) (by omega)) ?_
      refine lv_imul X.1 X.2.1 d_addKey_34 ?_
      refine t_eq (y := nI ((8) * ((i2) % (4)))) (pk_mul _ _) ?_
      refine lv_isub X.1 X.2.1 d_addKey_35 ?_
      refine t_eq (y := nI (24 - ((8) * ((i2) % (4))))) (pk_sub (by omega)) ?_
      obtain ⟨v12, ev12⟩ : ∃ z : Int32, ((v11 : Int32).toUInt32 >>> (((nI (24 - ((8) * ((i2) % (4))))) : Int32).toUInt32 &&& Int32.toUInt32 31)).toInt32 = z := ⟨_, rfl⟩
      refine lv_iushr (v := v12) X.1 X.2.1 d_addKey_36 ev12 ?_
      refine lv_sipush (v := (nI 255)) X.1 X.2.1 d_addKey_37 (by decide) ?_
      refine lv_iand X.1 X.2.1 d_addKey_40 ?_
      obtain ⟨j13, hj13, ej13⟩ := pk_andE v12 (m := nI 255) 8 (by decide)
      refine t_eq ej13 ?_
      have hj13 : j13 < 256 := hj13
      refine lv_ixor X.1 X.2.1 d_addKey_41 ?_
      obtain ⟨j14, hj14, ej14⟩ := by_ixor (a := j10) (b := j13) (by omega) (by omega)
      refine t_eq ej14 ?_
      refine m_iast X Y (aw_state _ _ _ _ _ _ _) (vp_in_nI (by omega) (by decide)) (sw_state _ _ _ _ _ _ _ _) d_addKey_42 (fun H locs Y => ?_)
      have y16 : by8 (upd (B5 16) ((nI i2)).toNatClampNeg (nI j14)) := by8_upd y7 (show j14 < 256 by omega)
      generalize (upd (B5 16) ((nI i2)).toNatClampNeg (nI j14)) = f15 at Y y16
      refine lv_iinc (v := (nI (i2 + 1))) (lv' := [(2, .int (nI (i2 + 1))), (0, .ref h), (1, .int (nI k))]) X.1 X.2.1 d_addKey_43 hl (k := 0) rfl (nI_add _ 1) (by decide) rfl (fun ls hl => ?_)
      refine lv_goto (tgt := 2) X.1 X.2.1 d_addKey_46 (by decide) ?_
      exact ih3 (i2 + 1) (upB B5 16 f15) _ _ _ (by omega) (by omega) (fun j h16 => ((if_neg h16).trans (hB6 j h16))) (show by8 ((upB B5 16 f15) 16) from y16)  Y (lv_sub hl [0, 1, 2] rfl)
  exact lp4 (16) 0 B _ _ _ (by omega) (by omega) (fun j h16 => rfl) (show by8 (B 16) from y16)  Y (lv_sub hl [0, 1, 2] rfl)
set_option maxHeartbeats 4000000 in
set_option maxRecDepth 100000 in
theorem c_cover (l : Launch) (D : mD) (E : mE) (h : Nat) (q : Nat → Nat) (sz : Nat) (I : Nat → Int32) (J : Nat → Int64) (B : Nat → Nat → Int32) (G : Nat → Nat → Int64) (rd : Nat) (hrd : I 18 = nI rd) (hrd2 : rd ≤ 14) (y12 : by8 (B 12)) (y16 : by8 (B 16)) (y17 : by8 (B 17)) : Met l y_cover (k_cover :: lw_tg) (mR 1 22) (va_Pc [.ref h] (mPre D E h q (I, J, B, G) sz)) (va_Qv (fun (u : mS) => (∀ j, u.1 j = I j) ∧ u.2.1 = J ∧ (∀ j, j ≠ 16 → j ≠ 17 → u.2.2.1 j = B j) ∧ u.2.2.2 = G ∧ by8 (u.2.2.1 16) ∧ by8 (u.2.2.1 17)) (mPost D E h q (mA E h q sz)) (mA E h q sz)) 0 0 (mA E h q sz) := by
  refine m_enter (by decide) rfl (Nat.le_of_ble_eq_true rfl) (fun p e s m below meth c ls AV QQ H locs hQQ X Y hZ hA hr hlk hml hl => ?_)
  have Y : mH D E (mA E h q sz) s.heap h q I J B G H locs := Y
  have hl : lv_has ls 6 [(0, .ref h)] := hl
  refine lv_aload_n X.1 X.2.1 d_cover_0 rfl (lv_at hl 0 rfl) ?_
  refine lv_iconst (v := (nI 0)) X.1 X.2.1 d_cover_1 (by decide) ?_
  refine m_callv (As := [.int (nI 0)]) (rest := []) (n := 1) X Y hZ hA hml hl.1 (c_addKey l D E h q H.size I J B G (0) (by omega) (show by8 (B 16) from y16)) kl_addKey ks_addKey kx_addKey ki_addKey ini_M hd_addKey ⟨by decide, by decide⟩ rfl (Nat.le_of_ble_eq_true rfl) d_cover_2 ⟨Nat.le_refl _, Nat.le_refl _⟩ (fun u H locs hp Y => ?_)
  obtain ⟨I1, J2, B3, G4⟩ := u
  obtain ⟨hI5, eJ7, hB6, eG8, y10⟩ := hp
  dsimp only at hI5 eJ7 hB6 eG8 y10 Y
  rw [eJ7, eG8] at Y
  rw [show I1 = I from funext hI5] at Y
  have hB12 : (∀ j, j ≠ 16 → j ≠ 17 → B3 j = B j) := fun j h16 h17 => (hB6 j h16).trans ((fun j h16 h17 => rfl) j h16 h17)
  refine lv_iconst (v := (nI 1)) X.1 X.2.1 d_cover_5 (by decide) ?_
  refine lv_istore_n (lv' := [(1, .int (nI 1)), (0, .ref h)]) X.1 X.2.1 d_cover_6 rfl hl (by decide) rfl (fun ls hl => ?_)
  have lp16 : ∀ (n13 i14 : Nat) (B17 : Nat → Nat → Int32) (H : Heap) (locs : List Loc) (ls : Array Slot), i14 + n13 = rd + 1 → 1 ≤ i14 → (∀ j, j ≠ 16 → j ≠ 17 → B17 j = B j) → by8 (B17 12) → by8 (B17 17) → by8 (B17 16) → mH D E (mA E h q sz) s.heap h q I J B17 G H locs → lv_has ls 6 [(1, .int (nI i14)), (0, .ref h)] → W p l e (mR 1 22) s m AV below meth c H locs 0 0 QQ (F0 m 7 ls []) := by
    intro n13
    induction n13 with
    | zero =>
      intro i14 B17 H locs ls hii14 hsi14 hB18 y19 y20 y21  Y hl
      refine lv_iload_n X.1 X.2.1 d_cover_7 rfl (lv_at hl 0 rfl) ?_
      refine lv_aload_n X.1 X.2.1 d_cover_8 rfl (lv_at hl 1 rfl) ?_
      refine m_get X Y 18 (by decide) lk_rounds (gf_rounds _ _ _) rfl d_cover_9 ?_
      refine t_eq (show I 18 = nI (rd) from hrd) ?_
      refine lv_icmp_gt (tgt := 178) X.1 X.2.1 d_cover_12 (by decide) (fun c22 => ?_) (fun c22 => absurd ?_ c22)
      rotate_left
      · (rw [nI_ltI (by omega) (by omega)] <;> omega)
      rw [nI_ltI (by omega) (by omega)] at c22
      exact m_retv hQQ X Y hr hlk ⟨(fun j  => rfl), rfl, (fun j h16 h17 => (hB18 j h16 h17)), rfl, (show by8 (B17 16) from y21), (show by8 (B17 17) from y20)⟩ d_cover_178
    | succ n13 ih15 =>
      intro i14 B17 H locs ls hii14 hsi14 hB18 y19 y20 y21  Y hl
      refine lv_iload_n X.1 X.2.1 d_cover_7 rfl (lv_at hl 0 rfl) ?_
      refine lv_aload_n X.1 X.2.1 d_cover_8 rfl (lv_at hl 1 rfl) ?_
      refine m_get X Y 18 (by decide) lk_rounds (gf_rounds _ _ _) rfl d_cover_9 ?_
      refine t_eq (show I 18 = nI (rd) from hrd) ?_
      refine lv_icmp_gt (tgt := 178) X.1 X.2.1 d_cover_12 (by decide) (fun c23 => absurd c23 ?_) (fun c23 => ?_)
      · (rw [nI_ltI (by omega) (by omega)] <;> omega)
      rw [nI_ltI (by omega) (by omega)] at c23
      refine lv_iconst (v := (nI 0)) X.1 X.2.1 d_cover_15 (by decide) ?_
      refine lv_istore_n (lv' := [(2, .int (nI 0)), (1, .int (nI i14)), (0, .ref h)]) X.1 X.2.1 d_cover_16 rfl hl (by decide) rfl (fun ls hl => ?_)
      have lp27 : ∀ (n24 i25 : Nat) (B28 : Nat → Nat → Int32) (H : Heap) (locs : List Loc) (ls : Array Slot), i25 + n24 = 16 → 0 ≤ i25 → (∀ j, j ≠ 16 → j ≠ 17 → B28 j = B j) → by8 (B28 12) → by8 (B28 17) → by8 (B28 16) → mH D E (mA E h q sz) s.heap h q I J B28 G H locs → lv_has ls 6 [(2, .int (nI i25)), (1, .int (nI i14)), (0, .ref h)] → W p l e (mR 1 22) s m AV below meth c H locs 0 0 QQ (F0 m 17 ls []) := by
        intro n24
        induction n24 with
        | zero =>
          intro i25 B28 H locs ls hii25 hsi25 hB29 y30 y31 y32  Y hl
          refine lv_iload_n X.1 X.2.1 d_cover_17 rfl (lv_at hl 0 rfl) ?_
          refine lv_bipush (v := (nI 16)) X.1 X.2.1 d_cover_18 (by decide) ?_
          refine lv_icmp_ge (tgt := 55) X.1 X.2.1 d_cover_20 (by decide) (fun c33 => ?_) (fun c33 => absurd ?_ c33)
          rotate_left
          · (rw [nI_leI (by omega) (by omega)] <;> omega)
          rw [nI_leI (by omega) (by omega)] at c33
          refine lv_iconst (v := (nI 0)) X.1 X.2.1 d_cover_55 (by decide) ?_
          refine lv_istore_n (lv' := [(2, .int (nI 0)), (1, .int (nI i14)), (0, .ref h)]) X.1 X.2.1 d_cover_56 rfl hl (by decide) rfl (fun ls hl => ?_)
          have lp37 : ∀ (n34 i35 : Nat) (B38 : Nat → Nat → Int32) (H : Heap) (locs : List Loc) (ls : Array Slot), i35 + 4 * n34 = 16 → 0 ≤ i35 → (∀ j, j ≠ 16 → j ≠ 17 → B38 j = B j) → by8 (B38 12) → by8 (B38 17) → by8 (B38 16) → mH D E (mA E h q sz) s.heap h q I J B38 G H locs → lv_has ls 6 [(2, .int (nI i35)), (1, .int (nI i14)), (0, .ref h)] → W p l e (mR 1 22) s m AV below meth c H locs 0 0 QQ (F0 m 57 ls []) := by
            intro n34
            induction n34 with
            | zero =>
              intro i35 B38 H locs ls hii35 hsi35 hB39 y40 y41 y42  Y hl
              refine lv_iload_n X.1 X.2.1 d_cover_57 rfl (lv_at hl 0 rfl) ?_
              refine lv_bipush (v := (nI 16)) X.1 X.2.1 d_cover_58 (by decide) ?_
              refine lv_icmp_ge (tgt := 167) X.1 X.2.1 d_cover_60 (by decide) (fun c43 => ?_) (fun c43 => absurd ?_ c43)
              rotate_left
              · (rw [nI_leI (by omega) (by omega)] <;> omega)
              rw [nI_leI (by omega) (by omega)] at c43
              refine lv_aload_n X.1 X.2.1 d_cover_167 rfl (lv_at hl 2 rfl) ?_
              refine lv_iload_n X.1 X.2.1 d_cover_168 rfl (lv_at hl 1 rfl) ?_
              refine m_callv (As := [.int (nI i14)]) (rest := []) (n := 1) X Y hZ hA hml hl.1 (c_addKey l D E h q H.size I J B38 G (i14) (by omega) (show by8 (B38 16) from y42)) kl_addKey ks_addKey kx_addKey ki_addKey ini_M hd_addKey ⟨by decide, by decide⟩ rfl (Nat.le_of_ble_eq_true rfl) d_cover_169 ⟨Nat.le_refl _, Nat.le_refl _⟩ (fun u H locs hp Y => ?_)
              obtain ⟨I44, J45, B46, G47⟩ := u
              obtain ⟨hI48, eJ50, hB49, eG51, y53⟩ := hp
              dsimp only at hI48 eJ50 hB49 eG51 y53 Y
              rw [eJ50, eG51] at Y
              rw [show I44 = I from funext hI48] at Y
              have hB55 : (∀ j, j ≠ 16 → j ≠ 17 → B46 j = B j) := fun j h16 h17 => (hB49 j h16).trans ((fun j h16 h17 => (hB39 j h16 h17)) j h16 h17)
              refine lv_iinc (v := (nI (i14 + 1))) (lv' := [(1, .int (nI (i14 + 1))), (2, .int (nI i35)), (0, .ref h)]) X.1 X.2.1 d_cover_172 hl (k := 1) rfl (nI_add _ 1) (by decide) rfl (fun ls hl => ?_)
              refine lv_goto (tgt := 7) X.1 X.2.1 d_cover_175 (by decide) ?_
              exact ih15 (i14 + 1) B46 _ _ _ (by omega) (by omega) (fun j h16 h17 => (hB55 j h16 h17)) (show by8 (B46 12) from (by8_eq (hB49 12 (by decide)) y40)) (show by8 (B46 17) from (by8_eq (hB49 17 (by decide)) y41)) (show by8 (B46 16) from y53)  Y (lv_sub hl [0, 2] rfl)
            | succ n34 ih36 =>
              intro i35 B38 H locs ls hii35 hsi35 hB39 y40 y41 y42  Y hl
              refine lv_iload_n X.1 X.2.1 d_cover_57 rfl (lv_at hl 0 rfl) ?_
              refine lv_bipush (v := (nI 16)) X.1 X.2.1 d_cover_58 (by decide) ?_
              refine lv_icmp_ge (tgt := 167) X.1 X.2.1 d_cover_60 (by decide) (fun c56 => absurd c56 ?_) (fun c56 => ?_)
              · (rw [nI_leI (by omega) (by omega)] <;> omega)
              rw [nI_leI (by omega) (by omega)] at c56
              refine lv_iconst (v := (nI 0)) X.1 X.2.1 d_cover_63 (by decide) ?_
              refine lv_istore_n (lv' := [(3, .int (nI 0)), (2, .int (nI i35)), (1, .int (nI i14)), (0, .ref h)]) X.1 X.2.1 d_cover_64 rfl hl (by decide) rfl (fun ls hl => ?_)
              have lp60 : ∀ (n57 i58 : Nat) (B61 : Nat → Nat → Int32) (H : Heap) (locs : List Loc) (ls : Array Slot), i58 + n57 = 4 → 0 ≤ i58 → (∀ j, j ≠ 16 → j ≠ 17 → B61 j = B j) → by8 (B61 12) → by8 (B61 17) → by8 (B61 16) → mH D E (mA E h q sz) s.heap h q I J B61 G H locs → lv_has ls 6 [(3, .int (nI i58)), (2, .int (nI i35)), (1, .int (nI i14)), (0, .ref h)] → W p l e (mR 1 22) s m AV below meth c H locs 0 0 QQ (F0 m 65 ls []) := by
                intro n57
                induction n57 with
                | zero =>
                  intro i58 B61 H locs ls hii58 hsi58 hB62 y63 y64 y65  Y hl
                  refine lv_iload_n X.1 X.2.1 d_cover_65 rfl (lv_at hl 0 rfl) ?_
                  refine lv_iconst (v := (nI 4)) X.1 X.2.1 d_cover_66 (by decide) ?_
                  refine lv_icmp_ge (tgt := 161) X.1 X.2.1 d_cover_67 (by decide) (fun c66 => ?_) (fun c66 => absurd ?_ c66)
                  rotate_left
                  · (rw [nI_leI (by omega) (by omega)] <;> omega)
                  rw [nI_leI (by omega) (by omega)] at c66
                  refine lv_iinc (v := (nI (i35 + 4))) (lv' := [(2, .int (nI (i35 + 4))), (3, .int (nI i58)), (1, .int (nI i14)), (0, .ref h)]) X.1 X.2.1 d_cover_161 hl (k := 1) rfl (nI_add _ 4) (by decide) rfl (fun ls hl => ?_)
                  refine lv_goto (tgt := 57) X.1 X.2.1 d_cover_164 (by decide) ?_
                  exact ih36 (i35 + 4) B61 _ _ _ (by omega) (by omega) (fun j h16 h17 => (hB62 j h16 h17)) (show by8 (B61 12) from y63) (show by8 (B61 17) from y64) (show by8 (B61 16) from y65)  Y (lv_sub hl [0, 2, 3] rfl)
                | succ n57 ih59 =>
                  intro i58 B61 H locs ls hii58 hsi58 hB62 y63 y64 y65  Y hl
                  refine lv_iload_n X.1 X.2.1 d_cover_65 rfl (lv_at hl 0 rfl) ?_
                  refine lv_iconst (v := (nI 4)) X.1 X.2.1 d_cover_66 (by decide) ?_
                  refine lv_icmp_ge (tgt := 161) X.1 X.2.1 d_cover_67 (by decide) (fun c67 => absurd c67 ?_) (fun c67 => ?_)
                  · (rw [nI_leI (by omega) (by omega)] <;> omega)
                  rw [nI_leI (by omega) (by omega)] at c67
                  refine lv_aload_n X.1 X.2.1 d_cover_70 rfl (lv_at hl 3 rfl) ?_
                  refine m_get X Y 17 (by decide) lk_other (gf_other _ _ _) rfl d_cover_71 ?_
                  refine lv_iload_n X.1 X.2.1 d_cover_74 rfl (lv_at hl 1 rfl) ?_
                  refine lv_iload_n X.1 X.2.1 d_cover_75 rfl (lv_at hl 0 rfl) ?_
                  refine lv_iadd X.1 X.2.1 d_cover_76 ?_
                  refine t_eq (y := nI (i35 + i58)) (nI_add _ _) ?_
                  refine m_iald X Y (aw_other _ _ _ _ _ _ _) (vp_in_nI (by omega) (by decide)) d_cover_77 ?_
                  obtain ⟨j68, hj68, ej68⟩ := y64 ((nI (i35 + i58))).toNatClampNeg
                  refine t_eq (show B61 17 ((nI (i35 + i58))).toNatClampNeg = nI j68 from ej68) ?_
                  refine lv_istore (lv' := [(4, .int (nI j68)), (3, .int (nI i58)), (2, .int (nI i35)), (1, .int (nI i14)), (0, .ref h)]) X.1 X.2.1 d_cover_78 hl (by decide) rfl (fun ls hl => ?_)
                  refine lv_aload_n X.1 X.2.1 d_cover_80 rfl (lv_at hl 4 rfl) ?_
                  refine m_get X Y 17 (by decide) lk_other (gf_other _ _ _) rfl d_cover_81 ?_
                  refine lv_iload_n X.1 X.2.1 d_cover_84 rfl (lv_at hl 2 rfl) ?_
                  refine lv_iload_n X.1 X.2.1 d_cover_85 rfl (lv_at hl 1 rfl) ?_
                  refine lv_iconst (v := (nI 1)) X.1 X.2.1 d_cover_86 (by decide) ?_
                  refine lv_iadd X.1 X.2.1 d_cover_87 ?_
                  refine t_eq (y := nI (i58 + 1)) (nI_add _ _) ?_
                  refine lv_iconst (v := (nI 4)) X.1 X.2.1 d_cover_88 (by decide) ?_
                  refine lv_irem X.1 X.2.1 d_cover_89 (nI_ne0 (by omega) (by omega)) ?_
                  refine t_eq (y := nI ((i58 + 1) % (4))) (pk_rem (by omega) (by omega) (by omega)) ?_
                  refine lv_iadd X.1 X.2.1 d_cover_90 ?_
                  refine t_eq (y := nI (i35 + (i58 + 1) % (4))) (nI_add _ _) ?_
                  refine m_iald X Y (aw_other _ _ _ _ _ _ _) (vp_in_nI (by omega) (by decide)) d_cover_91 ?_
                  obtain ⟨j69, hj69, ej69⟩ := y64 ((nI (i35 + (i58 + 1) % (4)))).toNatClampNeg
                  refine t_eq (show B61 17 ((nI (i35 + (i58 + 1) % (4)))).toNatClampNeg = nI j69 from ej69) ?_
                  refine lv_istore (lv' := [(5, .int (nI j69)), (4, .int (nI j68)), (3, .int (nI i58)), (2, .int (nI i35)), (1, .int (nI i14)), (0, .ref h)]) X.1 X.2.1 d_cover_92 hl (by decide) rfl (fun ls hl => ?_)
                  refine lv_aload_n X.1 X.2.1 d_cover_94 rfl (lv_at hl 5 rfl) ?_
                  refine m_get X Y 16 (by decide) lk_state (gf_state _ _ _) rfl d_cover_95 ?_
                  refine lv_iload_n X.1 X.2.1 d_cover_98 rfl (lv_at hl 3 rfl) ?_
                  refine lv_iload_n X.1 X.2.1 d_cover_99 rfl (lv_at hl 2 rfl) ?_
                  refine lv_iadd X.1 X.2.1 d_cover_100 ?_
                  refine t_eq (y := nI (i35 + i58)) (nI_add _ _) ?_
                  have jn71 : ∀ (w70 : Nat) (H : Heap) (locs : List Loc), w70 < 256 → mH D E (mA E h q sz) s.heap h q I J B61 G H locs → W p l e (mR 1 22) s m AV below meth c H locs 0 0 QQ (F0 m 154 ls [.int (nI w70), .int (nI (i35 + i58)), .ref (q 16)]) := by
                    intro w70 H locs hw70 Y
                    refine m_iast X Y (aw_state _ _ _ _ _ _ _) (vp_in_nI (by omega) (by decide)) (sw_state _ _ _ _ _ _ _ _) d_cover_154 (fun H locs Y => ?_)
                    have y73 : by8 (upd (B61 16) ((nI (i35 + i58))).toNatClampNeg (nI w70)) := by8_upd y65 (show w70 < 256 by omega)
                    generalize (upd (B61 16) ((nI (i35 + i58))).toNatClampNeg (nI w70)) = f72 at Y y73
                    refine lv_iinc (v := (nI (i58 + 1))) (lv' := [(3, .int (nI (i58 + 1))), (5, .int (nI j69)), (4, .int (nI j68)), (2, .int (nI i35)), (1, .int (nI i14)), (0, .ref h)]) X.1 X.2.1 d_cover_155 hl (k := 2) rfl (nI_add _ 1) (by decide) rfl (fun ls hl => ?_)
                    refine lv_goto (tgt := 65) X.1 X.2.1 d_cover_158 (by decide) ?_
                    exact ih59 (i58 + 1) (upB B61 16 f72) _ _ _ (by omega) (by omega) (fun j h16 h17 => ((if_neg h16).trans (hB62 j h16 h17))) (show by8 ((upB B61 16 f72) 12) from y63) (show by8 ((upB B61 16 f72) 17) from y64) (show by8 ((upB B61 16 f72) 16) from y73)  Y (lv_sub hl [0, 3, 4, 5] rfl)
                  refine lv_iload_n X.1 X.2.1 d_cover_101 rfl (lv_at hl 4 rfl) ?_
                  refine lv_aload_n X.1 X.2.1 d_cover_102 rfl (lv_at hl 5 rfl) ?_
                  refine m_get X Y 18 (by decide) lk_rounds (gf_rounds _ _ _) rfl d_cover_103 ?_
                  refine t_eq (show I 18 = nI (rd) from hrd) ?_
                  refine lv_icmp_ne (tgt := 114) X.1 X.2.1 d_cover_106 (by decide) (fun c74 => ?_) (fun c74 => ?_)
                  · skip
                    rw [nI_eq (by omega) (by omega)] at c74
                    refine lv_iload X.1 X.2.1 d_cover_114 (lv_at hl 1 rfl) ?_
                    refine p_calli (As := [.int (nI j68)]) (rest := [.int (nI (i35 + i58)), .ref (q 16)]) (n := 1) X Y hml hl.1 (c_twice l (nI j68)) kl_twice ks_twice ki_twice ini_M (by decide +kernel) ⟨by decide, by decide⟩ rfl (Nat.le_of_ble_eq_true rfl) d_cover_116 ⟨Nat.le_refl _, Nat.le_refl _⟩ (fun r75 H locs hpr75 Y => ?_)
                    obtain ⟨j76, hj76, ej76⟩ := hpr75
                    refine t_eq ej76 ?_
                    refine lv_iload X.1 X.2.1 d_cover_119 (lv_at hl 0 rfl) ?_
                    refine p_calli (As := [.int (nI j69)]) (rest := [.int (nI j76), .int (nI (i35 + i58)), .ref (q 16)]) (n := 1) X Y hml hl.1 (c_twice l (nI j69)) kl_twice ks_twice ki_twice ini_M (by decide +kernel) ⟨by decide, by decide⟩ rfl (Nat.le_of_ble_eq_true rfl) d_cover_121 ⟨Nat.le_refl _, Nat.le_refl _⟩ (fun r77 H locs hpr77 Y => ?_)
                    obtain ⟨j78, hj78, ej78⟩ := hpr77
                    refine t_eq ej78 ?_
                    refine lv_ixor X.1 X.2.1 d_cover_124 ?_
                    obtain ⟨j79, hj79, ej79⟩ := by_ixor (a := j76) (b := j78) (by omega) (by omega)
                    refine t_eq ej79 ?_
                    refine lv_iload X.1 X.2.1 d_cover_125 (lv_at hl 0 rfl) ?_
                    refine lv_ixor X.1 X.2.1 d_cover_127 ?_
                    obtain ⟨j80, hj80, ej80⟩ := by_ixor (a := j79) (b := j69) (by omega) (by omega)
                    refine t_eq ej80 ?_
                    refine lv_aload_n X.1 X.2.1 d_cover_128 rfl (lv_at hl 5 rfl) ?_
                    refine m_get X Y 17 (by decide) lk_other (gf_other _ _ _) rfl d_cover_129 ?_
                    refine lv_iload_n X.1 X.2.1 d_cover_132 rfl (lv_at hl 3 rfl) ?_
                    refine lv_iload_n X.1 X.2.1 d_cover_133 rfl (lv_at hl 2 rfl) ?_
                    refine lv_iconst (v := (nI 2)) X.1 X.2.1 d_cover_134 (by decide) ?_
                    refine lv_iadd X.1 X.2.1 d_cover_135 ?_
                    refine t_eq (y := nI (i58 + 2)) (nI_add _ _) ?_
                    refine lv_iconst (v := (nI 4)) X.1 X.2.1 d_cover_136 (by decide) ?_
                    refine lv_irem X.1 X.2.1 d_cover_137 (nI_ne0 (by omega) (by omega)) ?_
                    refine t_eq (y := nI ((i58 + 2) % (4))) (pk_rem (by omega) (by omega) (by omega)) ?_
                    refine lv_iadd X.1 X.2.1 d_cover_138 ?_
                    refine t_eq (y := nI (i35 + (i58 + 2) % (4))) (nI_add _ _) ?_
                    refine m_iald X Y (aw_other _ _ _ _ _ _ _) (vp_in_nI (by omega) (by decide)) d_cover_139 ?_
                    obtain ⟨j81, hj81, ej81⟩ := y64 ((nI (i35 + (i58 + 2) % (4)))).toNatClampNeg
                    refine t_eq (show B61 17 ((nI (i35 + (i58 + 2) % (4)))).toNatClampNeg = nI j81 from ej81) ?_
                    refine lv_ixor X.1 X.2.1 d_cover_140 ?_
                    obtain ⟨j82, hj82, ej82⟩ := by_ixor (a := j80) (b := j81) (by omega) (by omega)
                    refine t_eq ej82 ?_
                    refine lv_aload_n X.1 X.2.1 d_cover_141 rfl (lv_at hl 5 rfl) ?_
                    refine m_get X Y 17 (by decide) lk_other (gf_other _ _ _) rfl d_cover_142 ?_
                    refine lv_iload_n X.1 X.2.1 d_cover_145 rfl (lv_at hl 3 rfl) ?_
                    refine lv_iload_n X.1 X.2.1 d_cover_146 rfl (lv_at hl 2 rfl) ?_
                    refine lv_iconst (v := (nI 3)) X.1 X.2.1 d_cover_147 (by decide) ?_
                    refine lv_iadd X.1 X.2.1 d_cover_148 ?_
                    refine t_eq (y := nI (i58 + 3)) (nI_add _ _) ?_
                    refine lv_iconst (v := (nI 4)) X.1 X.2.1 d_cover_149 (by decide) ?_
                    refine lv_irem X.1 X.2.1 d_cover_150 (nI_ne0 (by omega) (by omega)) ?_
                    refine t_eq (y := nI ((i58 + 3) % (4))) (pk_rem (by omega) (by omega) (by omega)) ?_
                    refine lv_iadd X.1 X.2.1 d_cover_151 ?_
                    refine t_eq (y := nI (i35 + (i58 + 3) % (4))) (nI_add _ _) ?_
                    refine m_iald X Y (aw_other _ _ _ _ _ _ _) (vp_in_nI (by omega) (by decide)) d_cover_152 ?_
                    obtain ⟨j83, hj83, ej83⟩ := y64 ((nI (i35 + (i58 + 3) % (4)))).toNatClampNeg
                    refine t_eq (show B61 17 ((nI (i35 + (i58 + 3) % (4)))).toNatClampNeg = nI j83 from ej83) ?_
                    refine lv_ixor X.1 X.2.1 d_cover_153 ?_
                    obtain ⟨j84, hj84, ej84⟩ := by_ixor (a := j82) (b := j83) (by omega) (by omega)
                    refine t_eq ej84 ?_
                    exact jn71 _ _ _ (show j84 < 256 by omega) Y
                  · skip
                    rw [nI_eq (by omega) (by omega)] at c74
                    refine lv_iload X.1 X.2.1 d_cover_109 (lv_at hl 1 rfl) ?_
                    refine lv_goto (tgt := 154) X.1 X.2.1 d_cover_111 (by decide) ?_
                    exact jn71 _ _ _ (show j68 < 256 by omega) Y
              exact lp60 (4) 0 B38 _ _ _ (by omega) (by omega) (fun j h16 h17 => (hB39 j h16 h17)) (show by8 (B38 12) from y40) (show by8 (B38 17) from y41) (show by8 (B38 16) from y42)  Y (lv_sub hl [0, 1, 2, 3] rfl)
          exact lp37 ((16) / 4) 0 B28 _ _ _ (by omega) (by omega) (fun j h16 h17 => (hB29 j h16 h17)) (show by8 (B28 12) from y30) (show by8 (B28 17) from y31) (show by8 (B28 16) from y32)  Y (lv_sub hl [0, 1, 2] rfl)
        | succ n24 ih26 =>
          intro i25 B28 H locs ls hii25 hsi25 hB29 y30 y31 y32  Y hl
          refine lv_iload_n X.1 X.2.1 d_cover_17 rfl (lv_at hl 0 rfl) ?_
          refine lv_bipush (v := (nI 16)) X.1 X.2.1 d_cover_18 (by decide) ?_
          refine lv_icmp_ge (tgt := 55) X.1 X.2.1 d_cover_20 (by decide) (fun c85 => absurd c85 ?_) (fun c85 => ?_)
          · (rw [nI_leI (by omega) (by omega)] <;> omega)
          rw [nI_leI (by omega) (by omega)] at c85
          refine lv_aload_n X.1 X.2.1 d_cover_23 rfl (lv_at hl 2 rfl) ?_
          refine m_get X Y 17 (by decide) lk_other (gf_other _ _ _) rfl d_cover_24 ?_
          refine lv_iload_n X.1 X.2.1 d_cover_27 rfl (lv_at hl 0 rfl) ?_
          refine lv_aload_n X.1 X.2.1 d_cover_28 rfl (lv_at hl 2 rfl) ?_
          refine m_get X Y 12 (by decide) lk_box (gf_box _ _ _) rfl d_cover_29 ?_
          refine lv_aload_n X.1 X.2.1 d_cover_32 rfl (lv_at hl 2 rfl) ?_
          refine m_get X Y 16 (by decide) lk_state (gf_state _ _ _) rfl d_cover_33 ?_
          refine lv_iload_n X.1 X.2.1 d_cover_36 rfl (lv_at hl 0 rfl) ?_
          refine lv_iconst (v := (nI 4)) X.1 X.2.1 d_cover_37 (by decide) ?_
          refine lv_iload_n X.1 X.2.1 d_cover_38 rfl (lv_at hl 0 rfl) ?_
          refine lv_iconst (v := (nI 4)) X.1 X.2.1 d_cover_39 (by decide) ?_
          refine lv_irem X.1 X.2.1 d_cover_40 (nI_ne0 (by omega) (by omega)) ?_
          refine t_eq (y := nI ((i25) % (4))) (pk_rem (by omega) (by omega) (by omega)) ?_
          refine lv_imul X.1 X.2.1 d_cover_41 ?_
          refine t_eq (y := nI ((4) * ((i25) % (4)))) (pk_mul _ _) ?_
          refine lv_iadd X.1 X.2.1 d_cover_42 ?_
          refine t_eq (y := nI (i25 + (4) * ((i25) % (4)))) (nI_add _ _) ?_
          refine lv_bipush (v := (nI 16)) X.1 X.2.1 d_cover_43 (by decide) ?_
          refine lv_irem X.1 X.2.1 d_cover_45 (nI_ne0 (by omega) (by omega)) ?_
          refine t_eq (y := nI ((i25 + (4) * ((i25) % (4))) % (16))) (pk_rem (by omega) (by omega) (by omega)) ?_
          refine m_iald X Y (aw_state _ _ _ _ _ _ _) (vp_in_nI (by omega) (by decide)) d_cover_46 ?_
          obtain ⟨j86, hj86, ej86⟩ := y32 ((nI ((i25 + (4) * ((i25) % (4))) % (16)))).toNatClampNeg
          refine t_eq (show B28 16 ((nI ((i25 + (4) * ((i25) % (4))) % (16)))).toNatClampNeg = nI j86 from ej86) ?_
          refine m_iald X Y (aw_box _ _ _ _ _ _ _) (vp_in_nI (by omega) (by decide)) d_cover_47 ?_
          obtain ⟨j87, hj87, ej87⟩ := y30 ((nI j86)).toNatClampNeg
          refine t_eq (show B28 12 ((nI j86)).toNatClampNeg = nI j87 from ej87) ?_
          refine m_iast X Y (aw_other _ _ _ _ _ _ _) (vp_in_nI (by omega) (by decide)) (sw_other _ _ _ _ _ _ _ _) d_cover_48 (fun H locs Y => ?_)
          have y89 : by8 (upd (B28 17) ((nI i25)).toNatClampNeg (nI j87)) := by8_upd y31 (show j87 < 256 by omega)
          generalize (upd (B28 17) ((nI i25)).toNatClampNeg (nI j87)) = f88 at Y y89
          refine lv_iinc (v := (nI (i25 + 1))) (lv' := [(2, .int (nI (i25 + 1))), (1, .int (nI i14)), (0, .ref h)]) X.1 X.2.1 d_cover_49 hl (k := 0) rfl (nI_add _ 1) (by decide) rfl (fun ls hl => ?_)
          refine lv_goto (tgt := 17) X.1 X.2.1 d_cover_52 (by decide) ?_
          exact ih26 (i25 + 1) (upB B28 17 f88) _ _ _ (by omega) (by omega) (fun j h16 h17 => ((if_neg h17).trans (hB29 j h16 h17))) (show by8 ((upB B28 17 f88) 12) from y30) (show by8 ((upB B28 17 f88) 17) from y89) (show by8 ((upB B28 17 f88) 16) from y32)  Y (lv_sub hl [0, 1, 2] rfl)
      exact lp27 (16) 0 B17 _ _ _ (by omega) (by omega) (fun j h16 h17 => (hB18 j h16 h17)) (show by8 (B17 12) from y19) (show by8 (B17 17) from y20) (show by8 (B17 16) from y21)  Y (lv_sub hl [0, 1, 2] rfl)
  exact lp16 (rd + 1 - 1) 1 B3 _ _ _ (by omega) (by omega) (fun j h16 h17 => (hB12 j h16 h17)) (show by8 (B3 12) from (by8_eq (hB6 12 (by decide)) y12)) (show by8 (B3 17) from (by8_eq (hB6 17 (by decide)) y17)) (show by8 (B3 16) from y10)  Y (lv_sub hl [0, 1] rfl)
