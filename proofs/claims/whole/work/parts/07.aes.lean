abbrev b_makeBox : ByteArray := prog_14_method_17_code
def y_makeBox : MethodName := ⟨R_M, "makeBox", "()V"⟩
abbrev k_makeBox : Cond := .code y_makeBox b_makeBox 6 none
theorem ki_makeBox : k_makeBox ∈ lw_tg := in_t 1853 (by decide +kernel)
theorem ks_makeBox : Cond.instanceMethod y_makeBox ∈ lw_tg := in_t 1852 (by decide +kernel)
theorem kl_makeBox : Cond.methodLink R_M 392 y_makeBox ∈ lw_tg := in_t 1850 (by decide +kernel)
theorem d_makeBox_0 : decode b_makeBox 0 = .ok (.aload_n 0, 1) := by decide +kernel
theorem d_makeBox_1 : decode b_makeBox 1 = .ok (.iconst 1, 1) := by decide +kernel
theorem d_makeBox_2 : decode b_makeBox 2 = .ok (.putfield 385, 3) := by decide +kernel
theorem d_makeBox_5 : decode b_makeBox 5 = .ok (.iconst 0, 1) := by decide +kernel
theorem d_makeBox_6 : decode b_makeBox 6 = .ok (.istore_n 1, 1) := by decide +kernel
theorem d_makeBox_7 : decode b_makeBox 7 = .ok (.iload_n 1, 1) := by decide +kernel
theorem d_makeBox_8 : decode b_makeBox 8 = .ok (.sipush 256, 3) := by decide +kernel
theorem d_makeBox_11 : decode b_makeBox 11 = .ok (.if_icmp .ge 128, 3) := by decide +kernel
theorem d_makeBox_14 : decode b_makeBox 14 = .ok (.iconst 1, 1) := by decide +kernel
theorem d_makeBox_15 : decode b_makeBox 15 = .ok (.istore_n 2, 1) := by decide +kernel
theorem d_makeBox_16 : decode b_makeBox 16 = .ok (.iconst 0, 1) := by decide +kernel
theorem d_makeBox_17 : decode b_makeBox 17 = .ok (.istore_n 3, 1) := by decide +kernel
theorem d_makeBox_18 : decode b_makeBox 18 = .ok (.iload_n 3, 1) := by decide +kernel
theorem d_makeBox_19 : decode b_makeBox 19 = .ok (.sipush 254, 3) := by decide +kernel
theorem d_makeBox_22 : decode b_makeBox 22 = .ok (.if_icmp .ge 15, 3) := by decide +kernel
theorem d_makeBox_25 : decode b_makeBox 25 = .ok (.iload_n 2, 1) := by decide +kernel
theorem d_makeBox_26 : decode b_makeBox 26 = .ok (.iload_n 1, 1) := by decide +kernel
theorem d_makeBox_27 : decode b_makeBox 27 = .ok (.invokestatic 389, 3) := by decide +kernel
theorem d_makeBox_30 : decode b_makeBox 30 = .ok (.istore_n 2, 1) := by decide +kernel
theorem d_makeBox_31 : decode b_makeBox 31 = .ok (.iinc 3 1, 3) := by decide +kernel
theorem d_makeBox_34 : decode b_makeBox 34 = .ok (.goto (-16), 3) := by decide +kernel
theorem d_makeBox_37 : decode b_makeBox 37 = .ok (.iconst 0, 1) := by decide +kernel
theorem d_makeBox_38 : decode b_makeBox 38 = .ok (.istore_n 3, 1) := by decide +kernel
theorem d_makeBox_39 : decode b_makeBox 39 = .ok (.iconst 0, 1) := by decide +kernel
theorem d_makeBox_40 : decode b_makeBox 40 = .ok (.istore 4, 2) := by decide +kernel
theorem d_makeBox_42 : decode b_makeBox 42 = .ok (.iload 4, 2) := by decide +kernel
theorem d_makeBox_44 : decode b_makeBox 44 = .ok (.bipush 8, 2) := by decide +kernel
theorem d_makeBox_46 : decode b_makeBox 46 = .ok (.if_icmp .ge 73, 3) := by decide +kernel
theorem d_makeBox_49 : decode b_makeBox 49 = .ok (.iload_n 2, 1) := by decide +kernel
theorem d_makeBox_50 : decode b_makeBox 50 = .ok (.iload 4, 2) := by decide +kernel
theorem d_makeBox_52 : decode b_makeBox 52 = .ok (.ishr, 1) := by decide +kernel
theorem d_makeBox_53 : decode b_makeBox 53 = .ok (.iload_n 2, 1) := by decide +kernel
theorem d_makeBox_54 : decode b_makeBox 54 = .ok (.iload 4, 2) := by decide +kernel
theorem d_makeBox_56 : decode b_makeBox 56 = .ok (.iconst 4, 1) := by decide +kernel
theorem d_makeBox_57 : decode b_makeBox 57 = .ok (.iadd, 1) := by decide +kernel
theorem d_makeBox_58 : decode b_makeBox 58 = .ok (.bipush 8, 2) := by decide +kernel
theorem d_makeBox_60 : decode b_makeBox 60 = .ok (.irem, 1) := by decide +kernel
theorem d_makeBox_61 : decode b_makeBox 61 = .ok (.ishr, 1) := by decide +kernel
theorem d_makeBox_62 : decode b_makeBox 62 = .ok (.ixor, 1) := by decide +kernel
theorem d_makeBox_63 : decode b_makeBox 63 = .ok (.iload_n 2, 1) := by decide +kernel
theorem d_makeBox_64 : decode b_makeBox 64 = .ok (.iload 4, 2) := by decide +kernel
theorem d_makeBox_66 : decode b_makeBox 66 = .ok (.iconst 5, 1) := by decide +kernel
theorem d_makeBox_67 : decode b_makeBox 67 = .ok (.iadd, 1) := by decide +kernel
theorem d_makeBox_68 : decode b_makeBox 68 = .ok (.bipush 8, 2) := by decide +kernel
theorem d_makeBox_70 : decode b_makeBox 70 = .ok (.irem, 1) := by decide +kernel
theorem d_makeBox_71 : decode b_makeBox 71 = .ok (.ishr, 1) := by decide +kernel
theorem d_makeBox_72 : decode b_makeBox 72 = .ok (.ixor, 1) := by decide +kernel
theorem d_makeBox_73 : decode b_makeBox 73 = .ok (.iload_n 2, 1) := by decide +kernel
theorem d_makeBox_74 : decode b_makeBox 74 = .ok (.iload 4, 2) := by decide +kernel
theorem d_makeBox_76 : decode b_makeBox 76 = .ok (.bipush 6, 2) := by decide +kernel
theorem d_makeBox_78 : decode b_makeBox 78 = .ok (.iadd, 1) := by decide +kernel
theorem d_makeBox_79 : decode b_makeBox 79 = .ok (.bipush 8, 2) := by decide +kernel
theorem d_makeBox_81 : decode b_makeBox 81 = .ok (.irem, 1) := by decide +kernel
theorem d_makeBox_82 : decode b_makeBox 82 = .ok (.ishr, 1) := by decide +kernel
theorem d_makeBox_83 : decode b_makeBox 83 = .ok (.ixor, 1) := by decide +kernel
theorem d_makeBox_84 : decode b_makeBox 84 = .ok (.iload_n 2, 1) := by decide +kernel
theorem d_makeBox_85 : decode b_makeBox 85 = .ok (.iload 4, 2) := by decide +kernel
theorem d_makeBox_87 : decode b_makeBox 87 = .ok (.bipush 7, 2) := by decide +kernel
theorem d_makeBox_89 : decode b_makeBox 89 = .ok (.iadd, 1) := by decide +kernel
theorem d_makeBox_90 : decode b_makeBox 90 = .ok (.bipush 8, 2) := by decide +kernel
theorem d_makeBox_92 : decode b_makeBox 92 = .ok (.irem, 1) := by decide +kernel
theorem d_makeBox_93 : decode b_makeBox 93 = .ok (.ishr, 1) := by decide +kernel
theorem d_makeBox_94 : decode b_makeBox 94 = .ok (.ixor, 1) := by decide +kernel
theorem d_makeBox_95 : decode b_makeBox 95 = .ok (.bipush 99, 2) := by decide +kernel
theorem d_makeBox_97 : decode b_makeBox 97 = .ok (.iload 4, 2) := by decide +kernel
theorem d_makeBox_99 : decode b_makeBox 99 = .ok (.ishr, 1) := by decide +kernel
theorem d_makeBox_100 : decode b_makeBox 100 = .ok (.ixor, 1) := by decide +kernel
theorem d_makeBox_101 : decode b_makeBox 101 = .ok (.istore 5, 2) := by decide +kernel
theorem d_makeBox_103 : decode b_makeBox 103 = .ok (.iload_n 3, 1) := by decide +kernel
theorem d_makeBox_104 : decode b_makeBox 104 = .ok (.iload 5, 2) := by decide +kernel
theorem d_makeBox_106 : decode b_makeBox 106 = .ok (.iconst 1, 1) := by decide +kernel
theorem d_makeBox_107 : decode b_makeBox 107 = .ok (.iand, 1) := by decide +kernel
theorem d_makeBox_108 : decode b_makeBox 108 = .ok (.iload 4, 2) := by decide +kernel
theorem d_makeBox_110 : decode b_makeBox 110 = .ok (.ishl, 1) := by decide +kernel
theorem d_makeBox_111 : decode b_makeBox 111 = .ok (.ior, 1) := by decide +kernel
theorem d_makeBox_112 : decode b_makeBox 112 = .ok (.istore_n 3, 1) := by decide +kernel
theorem d_makeBox_113 : decode b_makeBox 113 = .ok (.iinc 4 1, 3) := by decide +kernel
theorem d_makeBox_116 : decode b_makeBox 116 = .ok (.goto (-74), 3) := by decide +kernel
theorem d_makeBox_119 : decode b_makeBox 119 = .ok (.aload_n 0, 1) := by decide +kernel
theorem d_makeBox_120 : decode b_makeBox 120 = .ok (.getfield 41, 3) := by decide +kernel
theorem d_makeBox_123 : decode b_makeBox 123 = .ok (.iload_n 1, 1) := by decide +kernel
theorem d_makeBox_124 : decode b_makeBox 124 = .ok (.iload_n 3, 1) := by decide +kernel
theorem d_makeBox_125 : decode b_makeBox 125 = .ok (.iastore, 1) := by decide +kernel
theorem d_makeBox_126 : decode b_makeBox 126 = .ok (.aload_n 0, 1) := by decide +kernel
theorem d_makeBox_127 : decode b_makeBox 127 = .ok (.getfield 44, 3) := by decide +kernel
theorem d_makeBox_130 : decode b_makeBox 130 = .ok (.iload_n 3, 1) := by decide +kernel
theorem d_makeBox_131 : decode b_makeBox 131 = .ok (.iload_n 1, 1) := by decide +kernel
theorem d_makeBox_132 : decode b_makeBox 132 = .ok (.iastore, 1) := by decide +kernel
theorem d_makeBox_133 : decode b_makeBox 133 = .ok (.iinc 1 1, 3) := by decide +kernel
theorem d_makeBox_136 : decode b_makeBox 136 = .ok (.goto (-129), 3) := by decide +kernel
theorem d_makeBox_139 : decode b_makeBox 139 = .ok (.return_, 1) := by decide +kernel
abbrev b_boxed : ByteArray := prog_14_method_18_code
def y_boxed : MethodName := ⟨R_M, "boxed", "(I)I"⟩
abbrev k_boxed : Cond := .code y_boxed b_boxed 2 (some .int)
theorem ki_boxed : k_boxed ∈ lw_tg := in_t 1863 (by decide +kernel)
theorem ks_boxed : Cond.instanceMethod y_boxed ∈ lw_tg := in_t 1862 (by decide +kernel)
theorem kl_boxed : Cond.methodLink R_M 398 y_boxed ∈ lw_tg := in_t 1860 (by decide +kernel)
theorem d_boxed_0 : decode b_boxed 0 = .ok (.aload_n 0, 1) := by decide +kernel
theorem d_boxed_1 : decode b_boxed 1 = .ok (.getfield 41, 3) := by decide +kernel
theorem d_boxed_4 : decode b_boxed 4 = .ok (.iload_n 1, 1) := by decide +kernel
theorem d_boxed_5 : decode b_boxed 5 = .ok (.bipush 24, 2) := by decide +kernel
theorem d_boxed_7 : decode b_boxed 7 = .ok (.iushr, 1) := by decide +kernel
theorem d_boxed_8 : decode b_boxed 8 = .ok (.iaload, 1) := by decide +kernel
theorem d_boxed_9 : decode b_boxed 9 = .ok (.bipush 24, 2) := by decide +kernel
theorem d_boxed_11 : decode b_boxed 11 = .ok (.ishl, 1) := by decide +kernel
theorem d_boxed_12 : decode b_boxed 12 = .ok (.aload_n 0, 1) := by decide +kernel
theorem d_boxed_13 : decode b_boxed 13 = .ok (.getfield 41, 3) := by decide +kernel
theorem d_boxed_16 : decode b_boxed 16 = .ok (.iload_n 1, 1) := by decide +kernel
theorem d_boxed_17 : decode b_boxed 17 = .ok (.bipush 16, 2) := by decide +kernel
theorem d_boxed_19 : decode b_boxed 19 = .ok (.iushr, 1) := by decide +kernel
theorem d_boxed_20 : decode b_boxed 20 = .ok (.sipush 255, 3) := by decide +kernel
theorem d_boxed_23 : decode b_boxed 23 = .ok (.iand, 1) := by decide +kernel
theorem d_boxed_24 : decode b_boxed 24 = .ok (.iaload, 1) := by decide +kernel
theorem d_boxed_25 : decode b_boxed 25 = .ok (.bipush 16, 2) := by decide +kernel
theorem d_boxed_27 : decode b_boxed 27 = .ok (.ishl, 1) := by decide +kernel
theorem d_boxed_28 : decode b_boxed 28 = .ok (.ior, 1) := by decide +kernel
theorem d_boxed_29 : decode b_boxed 29 = .ok (.aload_n 0, 1) := by decide +kernel
theorem d_boxed_30 : decode b_boxed 30 = .ok (.getfield 41, 3) := by decide +kernel
theorem d_boxed_33 : decode b_boxed 33 = .ok (.iload_n 1, 1) := by decide +kernel
theorem d_boxed_34 : decode b_boxed 34 = .ok (.bipush 8, 2) := by decide +kernel
theorem d_boxed_36 : decode b_boxed 36 = .ok (.iushr, 1) := by decide +kernel
theorem d_boxed_37 : decode b_boxed 37 = .ok (.sipush 255, 3) := by decide +kernel
theorem d_boxed_40 : decode b_boxed 40 = .ok (.iand, 1) := by decide +kernel
theorem d_boxed_41 : decode b_boxed 41 = .ok (.iaload, 1) := by decide +kernel
theorem d_boxed_42 : decode b_boxed 42 = .ok (.bipush 8, 2) := by decide +kernel
theorem d_boxed_44 : decode b_boxed 44 = .ok (.ishl, 1) := by decide +kernel
theorem d_boxed_45 : decode b_boxed 45 = .ok (.ior, 1) := by decide +kernel
theorem d_boxed_46 : decode b_boxed 46 = .ok (.aload_n 0, 1) := by decide +kernel
theorem d_boxed_47 : decode b_boxed 47 = .ok (.getfield 41, 3) := by decide +kernel
theorem d_boxed_50 : decode b_boxed 50 = .ok (.iload_n 1, 1) := by decide +kernel
theorem d_boxed_51 : decode b_boxed 51 = .ok (.sipush 255, 3) := by decide +kernel
theorem d_boxed_54 : decode b_boxed 54 = .ok (.iand, 1) := by decide +kernel
theorem d_boxed_55 : decode b_boxed 55 = .ok (.iaload, 1) := by decide +kernel
theorem d_boxed_56 : decode b_boxed 56 = .ok (.ior, 1) := by decide +kernel
theorem d_boxed_57 : decode b_boxed 57 = .ok (.ireturn, 1) := by decide +kernel
abbrev b_aesKey : ByteArray := prog_14_method_19_code
def y_aesKey : MethodName := ⟨R_M, "aesKey", "([BI)V"⟩
abbrev k_aesKey : Cond := .code y_aesKey b_aesKey 7 none
theorem ki_aesKey : k_aesKey ∈ lw_tg := in_t 1849 (by decide +kernel)
theorem ks_aesKey : Cond.instanceMethod y_aesKey ∈ lw_tg := in_t 1848 (by decide +kernel)
theorem kl_aesKey : Cond.methodLink R_M 408 y_aesKey ∈ lw_tg := in_t 1846 (by decide +kernel)
theorem d_aesKey_0 : decode b_aesKey 0 = .ok (.aload_n 0, 1) := by decide +kernel
theorem d_aesKey_1 : decode b_aesKey 1 = .ok (.getfield 385, 3) := by decide +kernel
theorem d_aesKey_4 : decode b_aesKey 4 = .ok (.ifCond .ne 7, 3) := by decide +kernel
theorem d_aesKey_7 : decode b_aesKey 7 = .ok (.aload_n 0, 1) := by decide +kernel
theorem d_aesKey_8 : decode b_aesKey 8 = .ok (.invokevirtual 392, 3) := by decide +kernel
theorem d_aesKey_11 : decode b_aesKey 11 = .ok (.iload_n 2, 1) := by decide +kernel
theorem d_aesKey_12 : decode b_aesKey 12 = .ok (.iconst 4, 1) := by decide +kernel
theorem d_aesKey_13 : decode b_aesKey 13 = .ok (.idiv, 1) := by decide +kernel
theorem d_aesKey_14 : decode b_aesKey 14 = .ok (.istore_n 3, 1) := by decide +kernel
theorem d_aesKey_15 : decode b_aesKey 15 = .ok (.aload_n 0, 1) := by decide +kernel
theorem d_aesKey_16 : decode b_aesKey 16 = .ok (.iload_n 3, 1) := by decide +kernel
theorem d_aesKey_17 : decode b_aesKey 17 = .ok (.bipush 6, 2) := by decide +kernel
theorem d_aesKey_19 : decode b_aesKey 19 = .ok (.iadd, 1) := by decide +kernel
theorem d_aesKey_20 : decode b_aesKey 20 = .ok (.putfield 395, 3) := by decide +kernel
theorem d_aesKey_23 : decode b_aesKey 23 = .ok (.iconst 0, 1) := by decide +kernel
theorem d_aesKey_24 : decode b_aesKey 24 = .ok (.istore 4, 2) := by decide +kernel
theorem d_aesKey_26 : decode b_aesKey 26 = .ok (.iload 4, 2) := by decide +kernel
theorem d_aesKey_28 : decode b_aesKey 28 = .ok (.iload_n 3, 1) := by decide +kernel
theorem d_aesKey_29 : decode b_aesKey 29 = .ok (.if_icmp .ge 70, 3) := by decide +kernel
theorem d_aesKey_32 : decode b_aesKey 32 = .ok (.aload_n 0, 1) := by decide +kernel
theorem d_aesKey_33 : decode b_aesKey 33 = .ok (.getfield 47, 3) := by decide +kernel
theorem d_aesKey_36 : decode b_aesKey 36 = .ok (.iload 4, 2) := by decide +kernel
theorem d_aesKey_38 : decode b_aesKey 38 = .ok (.aload_n 1, 1) := by decide +kernel
theorem d_aesKey_39 : decode b_aesKey 39 = .ok (.iconst 4, 1) := by decide +kernel
theorem d_aesKey_40 : decode b_aesKey 40 = .ok (.iload 4, 2) := by decide +kernel
theorem d_aesKey_42 : decode b_aesKey 42 = .ok (.imul, 1) := by decide +kernel
theorem d_aesKey_43 : decode b_aesKey 43 = .ok (.baload, 1) := by decide +kernel
theorem d_aesKey_44 : decode b_aesKey 44 = .ok (.bipush 24, 2) := by decide +kernel
theorem d_aesKey_46 : decode b_aesKey 46 = .ok (.ishl, 1) := by decide +kernel
theorem d_aesKey_47 : decode b_aesKey 47 = .ok (.aload_n 1, 1) := by decide +kernel
theorem d_aesKey_48 : decode b_aesKey 48 = .ok (.iconst 4, 1) := by decide +kernel
theorem d_aesKey_49 : decode b_aesKey 49 = .ok (.iload 4, 2) := by decide +kernel
theorem d_aesKey_51 : decode b_aesKey 51 = .ok (.imul, 1) := by decide +kernel
theorem d_aesKey_52 : decode b_aesKey 52 = .ok (.iconst 1, 1) := by decide +kernel
theorem d_aesKey_53 : decode b_aesKey 53 = .ok (.iadd, 1) := by decide +kernel
theorem d_aesKey_54 : decode b_aesKey 54 = .ok (.baload, 1) := by decide +kernel
theorem d_aesKey_55 : decode b_aesKey 55 = .ok (.sipush 255, 3) := by decide +kernel
theorem d_aesKey_58 : decode b_aesKey 58 = .ok (.iand, 1) := by decide +kernel
theorem d_aesKey_59 : decode b_aesKey 59 = .ok (.bipush 16, 2) := by decide +kernel
theorem d_aesKey_61 : decode b_aesKey 61 = .ok (.ishl, 1) := by decide +kernel
theorem d_aesKey_62 : decode b_aesKey 62 = .ok (.ior, 1) := by decide +kernel
theorem d_aesKey_63 : decode b_aesKey 63 = .ok (.aload_n 1, 1) := by decide +kernel
theorem d_aesKey_64 : decode b_aesKey 64 = .ok (.iconst 4, 1) := by decide +kernel
theorem d_aesKey_65 : decode b_aesKey 65 = .ok (.iload 4, 2) := by decide +kernel
theorem d_aesKey_67 : decode b_aesKey 67 = .ok (.imul, 1) := by decide +kernel
theorem d_aesKey_68 : decode b_aesKey 68 = .ok (.iconst 2, 1) := by decide +kernel
theorem d_aesKey_69 : decode b_aesKey 69 = .ok (.iadd, 1) := by decide +kernel
theorem d_aesKey_70 : decode b_aesKey 70 = .ok (.baload, 1) := by decide +kernel
theorem d_aesKey_71 : decode b_aesKey 71 = .ok (.sipush 255, 3) := by decide +kernel
theorem d_aesKey_74 : decode b_aesKey 74 = .ok (.iand, 1) := by decide +kernel
theorem d_aesKey_75 : decode b_aesKey 75 = .ok (.bipush 8, 2) := by decide +kernel
theorem d_aesKey_77 : decode b_aesKey 77 = .ok (.ishl, 1) := by decide +kernel
theorem d_aesKey_78 : decode b_aesKey 78 = .ok (.ior, 1) := by decide +kernel
theorem d_aesKey_79 : decode b_aesKey 79 = .ok (.aload_n 1, 1) := by decide +kernel
theorem d_aesKey_80 : decode b_aesKey 80 = .ok (.iconst 4, 1) := by decide +kernel
theorem d_aesKey_81 : decode b_aesKey 81 = .ok (.iload 4, 2) := by decide +kernel
theorem d_aesKey_83 : decode b_aesKey 83 = .ok (.imul, 1) := by decide +kernel
theorem d_aesKey_84 : decode b_aesKey 84 = .ok (.iconst 3, 1) := by decide +kernel
theorem d_aesKey_85 : decode b_aesKey 85 = .ok (.iadd, 1) := by decide +kernel
theorem d_aesKey_86 : decode b_aesKey 86 = .ok (.baload, 1) := by decide +kernel
theorem d_aesKey_87 : decode b_aesKey 87 = .ok (.sipush 255, 3) := by decide +kernel
theorem d_aesKey_90 : decode b_aesKey 90 = .ok (.iand, 1) := by decide +kernel
theorem d_aesKey_91 : decode b_aesKey 91 = .ok (.ior, 1) := by decide +kernel
theorem d_aesKey_92 : decode b_aesKey 92 = .ok (.iastore, 1) := by decide +kernel
theorem d_aesKey_93 : decode b_aesKey 93 = .ok (.iinc 4 1, 3) := by decide +kernel
theorem d_aesKey_96 : decode b_aesKey 96 = .ok (.goto (-70), 3) := by decide +kernel
theorem d_aesKey_99 : decode b_aesKey 99 = .ok (.iconst 1, 1) := by decide +kernel
theorem d_aesKey_100 : decode b_aesKey 100 = .ok (.istore 4, 2) := by decide +kernel
theorem d_aesKey_102 : decode b_aesKey 102 = .ok (.iload_n 3, 1) := by decide +kernel
theorem d_aesKey_103 : decode b_aesKey 103 = .ok (.istore 5, 2) := by decide +kernel
theorem d_aesKey_105 : decode b_aesKey 105 = .ok (.iload 5, 2) := by decide +kernel
theorem d_aesKey_107 : decode b_aesKey 107 = .ok (.iconst 4, 1) := by decide +kernel
theorem d_aesKey_108 : decode b_aesKey 108 = .ok (.aload_n 0, 1) := by decide +kernel
theorem d_aesKey_109 : decode b_aesKey 109 = .ok (.getfield 395, 3) := by decide +kernel
theorem d_aesKey_112 : decode b_aesKey 112 = .ok (.iconst 1, 1) := by decide +kernel
theorem d_aesKey_113 : decode b_aesKey 113 = .ok (.iadd, 1) := by decide +kernel
theorem d_aesKey_114 : decode b_aesKey 114 = .ok (.imul, 1) := by decide +kernel
theorem d_aesKey_115 : decode b_aesKey 115 = .ok (.if_icmp .ge 97, 3) := by decide +kernel
theorem d_aesKey_118 : decode b_aesKey 118 = .ok (.aload_n 0, 1) := by decide +kernel
theorem d_aesKey_119 : decode b_aesKey 119 = .ok (.getfield 47, 3) := by decide +kernel
theorem d_aesKey_122 : decode b_aesKey 122 = .ok (.iload 5, 2) := by decide +kernel
theorem d_aesKey_124 : decode b_aesKey 124 = .ok (.iconst 1, 1) := by decide +kernel
theorem d_aesKey_125 : decode b_aesKey 125 = .ok (.isub, 1) := by decide +kernel
theorem d_aesKey_126 : decode b_aesKey 126 = .ok (.iaload, 1) := by decide +kernel
theorem d_aesKey_127 : decode b_aesKey 127 = .ok (.istore 6, 2) := by decide +kernel
theorem d_aesKey_129 : decode b_aesKey 129 = .ok (.iload 5, 2) := by decide +kernel
theorem d_aesKey_131 : decode b_aesKey 131 = .ok (.iload_n 3, 1) := by decide +kernel
theorem d_aesKey_132 : decode b_aesKey 132 = .ok (.irem, 1) := by decide +kernel
theorem d_aesKey_133 : decode b_aesKey 133 = .ok (.ifCond .ne 32, 3) := by decide +kernel
theorem d_aesKey_136 : decode b_aesKey 136 = .ok (.aload_n 0, 1) := by decide +kernel
theorem d_aesKey_137 : decode b_aesKey 137 = .ok (.iload 6, 2) := by decide +kernel
theorem d_aesKey_139 : decode b_aesKey 139 = .ok (.bipush 8, 2) := by decide +kernel
theorem d_aesKey_141 : decode b_aesKey 141 = .ok (.invokestatic 360, 3) := by decide +kernel
theorem d_aesKey_144 : decode b_aesKey 144 = .ok (.invokevirtual 398, 3) := by decide +kernel
theorem d_aesKey_147 : decode b_aesKey 147 = .ok (.iload 4, 2) := by decide +kernel
theorem d_aesKey_149 : decode b_aesKey 149 = .ok (.bipush 24, 2) := by decide +kernel
theorem d_aesKey_151 : decode b_aesKey 151 = .ok (.ishl, 1) := by decide +kernel
theorem d_aesKey_152 : decode b_aesKey 152 = .ok (.ixor, 1) := by decide +kernel
theorem d_aesKey_153 : decode b_aesKey 153 = .ok (.istore 6, 2) := by decide +kernel
theorem d_aesKey_155 : decode b_aesKey 155 = .ok (.iload 4, 2) := by decide +kernel
theorem d_aesKey_157 : decode b_aesKey 157 = .ok (.invokestatic 381, 3) := by decide +kernel
theorem d_aesKey_160 : decode b_aesKey 160 = .ok (.istore 4, 2) := by decide +kernel
theorem d_aesKey_162 : decode b_aesKey 162 = .ok (.goto 25, 3) := by decide +kernel
theorem d_aesKey_165 : decode b_aesKey 165 = .ok (.iload_n 3, 1) := by decide +kernel
theorem d_aesKey_166 : decode b_aesKey 166 = .ok (.bipush 6, 2) := by decide +kernel
theorem d_aesKey_168 : decode b_aesKey 168 = .ok (.if_icmp .le 19, 3) := by decide +kernel
theorem d_aesKey_171 : decode b_aesKey 171 = .ok (.iload 5, 2) := by decide +kernel
theorem d_aesKey_173 : decode b_aesKey 173 = .ok (.iload_n 3, 1) := by decide +kernel
theorem d_aesKey_174 : decode b_aesKey 174 = .ok (.irem, 1) := by decide +kernel
theorem d_aesKey_175 : decode b_aesKey 175 = .ok (.iconst 4, 1) := by decide +kernel
theorem d_aesKey_176 : decode b_aesKey 176 = .ok (.if_icmp .ne 11, 3) := by decide +kernel
theorem d_aesKey_179 : decode b_aesKey 179 = .ok (.aload_n 0, 1) := by decide +kernel
theorem d_aesKey_180 : decode b_aesKey 180 = .ok (.iload 6, 2) := by decide +kernel
theorem d_aesKey_182 : decode b_aesKey 182 = .ok (.invokevirtual 398, 3) := by decide +kernel
theorem d_aesKey_185 : decode b_aesKey 185 = .ok (.istore 6, 2) := by decide +kernel
theorem d_aesKey_187 : decode b_aesKey 187 = .ok (.aload_n 0, 1) := by decide +kernel
theorem d_aesKey_188 : decode b_aesKey 188 = .ok (.getfield 47, 3) := by decide +kernel
theorem d_aesKey_191 : decode b_aesKey 191 = .ok (.iload 5, 2) := by decide +kernel
theorem d_aesKey_193 : decode b_aesKey 193 = .ok (.aload_n 0, 1) := by decide +kernel
theorem d_aesKey_194 : decode b_aesKey 194 = .ok (.getfield 47, 3) := by decide +kernel
theorem d_aesKey_197 : decode b_aesKey 197 = .ok (.iload 5, 2) := by decide +kernel
theorem d_aesKey_199 : decode b_aesKey 199 = .ok (.iload_n 3, 1) := by decide +kernel
theorem d_aesKey_200 : decode b_aesKey 200 = .ok (.isub, 1) := by decide +kernel
theorem d_aesKey_201 : decode b_aesKey 201 = .ok (.iaload, 1) := by decide +kernel
theorem d_aesKey_202 : decode b_aesKey 202 = .ok (.iload 6, 2) := by decide +kernel
theorem d_aesKey_204 : decode b_aesKey 204 = .ok (.ixor, 1) := by decide +kernel
theorem d_aesKey_205 : decode b_aesKey 205 = .ok (.iastore, 1) := by decide +kernel
theorem d_aesKey_206 : decode b_aesKey 206 = .ok (.iinc 5 1, 3) := by decide +kernel
theorem d_aesKey_209 : decode b_aesKey 209 = .ok (.goto (-104), 3) := by decide +kernel
theorem d_aesKey_212 : decode b_aesKey 212 = .ok (.return_, 1) := by decide +kernel
abbrev b_addKey : ByteArray := prog_14_method_20_code
def y_addKey : MethodName := ⟨R_M, "addKey", "(I)V"⟩
abbrev k_addKey : Cond := .code y_addKey b_addKey 3 none
theorem ki_addKey : k_addKey ∈ lw_tg := in_t 1871 (by decide +kernel)
theorem ks_addKey : Cond.instanceMethod y_addKey ∈ lw_tg := in_t 1870 (by decide +kernel)
theorem kl_addKey : Cond.methodLink R_M 401 y_addKey ∈ lw_tg := in_t 1868 (by decide +kernel)
theorem d_addKey_0 : decode b_addKey 0 = .ok (.iconst 0, 1) := by decide +kernel
theorem d_addKey_1 : decode b_addKey 1 = .ok (.istore_n 2, 1) := by decide +kernel
theorem d_addKey_2 : decode b_addKey 2 = .ok (.iload_n 2, 1) := by decide +kernel
theorem d_addKey_3 : decode b_addKey 3 = .ok (.bipush 16, 2) := by decide +kernel
theorem d_addKey_5 : decode b_addKey 5 = .ok (.if_icmp .ge 44, 3) := by decide +kernel
theorem d_addKey_8 : decode b_addKey 8 = .ok (.aload_n 0, 1) := by decide +kernel
theorem d_addKey_9 : decode b_addKey 9 = .ok (.getfield 50, 3) := by decide +kernel
theorem d_addKey_12 : decode b_addKey 12 = .ok (.iload_n 2, 1) := by decide +kernel
theorem d_addKey_13 : decode b_addKey 13 = .ok (.dup2, 1) := by decide +kernel
theorem d_addKey_14 : decode b_addKey 14 = .ok (.iaload, 1) := by decide +kernel
theorem d_addKey_15 : decode b_addKey 15 = .ok (.aload_n 0, 1) := by decide +kernel
theorem d_addKey_16 : decode b_addKey 16 = .ok (.getfield 47, 3) := by decide +kernel
theorem d_addKey_19 : decode b_addKey 19 = .ok (.iconst 4, 1) := by decide +kernel
theorem d_addKey_20 : decode b_addKey 20 = .ok (.iload_n 1, 1) := by decide +kernel
theorem d_addKey_21 : decode b_addKey 21 = .ok (.imul, 1) := by decide +kernel
theorem d_addKey_22 : decode b_addKey 22 = .ok (.iload_n 2, 1) := by decide +kernel
theorem d_addKey_23 : decode b_addKey 23 = .ok (.iconst 4, 1) := by decide +kernel
theorem d_addKey_24 : decode b_addKey 24 = .ok (.idiv, 1) := by decide +kernel
theorem d_addKey_25 : decode b_addKey 25 = .ok (.iadd, 1) := by decide +kernel
theorem d_addKey_26 : decode b_addKey 26 = .ok (.iaload, 1) := by decide +kernel
theorem d_addKey_27 : decode b_addKey 27 = .ok (.bipush 24, 2) := by decide +kernel
theorem d_addKey_29 : decode b_addKey 29 = .ok (.bipush 8, 2) := by decide +kernel
theorem d_addKey_31 : decode b_addKey 31 = .ok (.iload_n 2, 1) := by decide +kernel
theorem d_addKey_32 : decode b_addKey 32 = .ok (.iconst 4, 1) := by decide +kernel
theorem d_addKey_33 : decode b_addKey 33 = .ok (.irem, 1) := by decide +kernel
theorem d_addKey_34 : decode b_addKey 34 = .ok (.imul, 1) := by decide +kernel
theorem d_addKey_35 : decode b_addKey 35 = .ok (.isub, 1) := by decide +kernel
theorem d_addKey_36 : decode b_addKey 36 = .ok (.iushr, 1) := by decide +kernel
theorem d_addKey_37 : decode b_addKey 37 = .ok (.sipush 255, 3) := by decide +kernel
theorem d_addKey_40 : decode b_addKey 40 = .ok (.iand, 1) := by decide +kernel
theorem d_addKey_41 : decode b_addKey 41 = .ok (.ixor, 1) := by decide +kernel
theorem d_addKey_42 : decode b_addKey 42 = .ok (.iastore, 1) := by decide +kernel
theorem d_addKey_43 : decode b_addKey 43 = .ok (.iinc 2 1, 3) := by decide +kernel
theorem d_addKey_46 : decode b_addKey 46 = .ok (.goto (-44), 3) := by decide +kernel
theorem d_addKey_49 : decode b_addKey 49 = .ok (.return_, 1) := by decide +kernel
abbrev b_cover : ByteArray := prog_14_method_21_code
def y_cover : MethodName := ⟨R_M, "cover", "()V"⟩
abbrev k_cover : Cond := .code y_cover b_cover 6 none
theorem ki_cover : k_cover ∈ lw_tg := in_t 1867 (by decide +kernel)
theorem ks_cover : Cond.instanceMethod y_cover ∈ lw_tg := in_t 1866 (by decide +kernel)
theorem kl_cover : Cond.methodLink R_M 411 y_cover ∈ lw_tg := in_t 1864 (by decide +kernel)
theorem d_cover_0 : decode b_cover 0 = .ok (.aload_n 0, 1) := by decide +kernel
theorem d_cover_1 : decode b_cover 1 = .ok (.iconst 0, 1) := by decide +kernel
theorem d_cover_2 : decode b_cover 2 = .ok (.invokevirtual 401, 3) := by decide +kernel
theorem d_cover_5 : decode b_cover 5 = .ok (.iconst 1, 1) := by decide +kernel
theorem d_cover_6 : decode b_cover 6 = .ok (.istore_n 1, 1) := by decide +kernel
theorem d_cover_7 : decode b_cover 7 = .ok (.iload_n 1, 1) := by decide +kernel
theorem d_cover_8 : decode b_cover 8 = .ok (.aload_n 0, 1) := by decide +kernel
theorem d_cover_9 : decode b_cover 9 = .ok (.getfield 395, 3) := by decide +kernel
theorem d_cover_12 : decode b_cover 12 = .ok (.if_icmp .gt 166, 3) := by decide +kernel
theorem d_cover_15 : decode b_cover 15 = .ok (.iconst 0, 1) := by decide +kernel
theorem d_cover_16 : decode b_cover 16 = .ok (.istore_n 2, 1) := by decide +kernel
theorem d_cover_17 : decode b_cover 17 = .ok (.iload_n 2, 1) := by decide +kernel
theorem d_cover_18 : decode b_cover 18 = .ok (.bipush 16, 2) := by decide +kernel
theorem d_cover_20 : decode b_cover 20 = .ok (.if_icmp .ge 35, 3) := by decide +kernel
theorem d_cover_23 : decode b_cover 23 = .ok (.aload_n 0, 1) := by decide +kernel
theorem d_cover_24 : decode b_cover 24 = .ok (.getfield 53, 3) := by decide +kernel
theorem d_cover_27 : decode b_cover 27 = .ok (.iload_n 2, 1) := by decide +kernel
theorem d_cover_28 : decode b_cover 28 = .ok (.aload_n 0, 1) := by decide +kernel
theorem d_cover_29 : decode b_cover 29 = .ok (.getfield 41, 3) := by decide +kernel
theorem d_cover_32 : decode b_cover 32 = .ok (.aload_n 0, 1) := by decide +kernel
theorem d_cover_33 : decode b_cover 33 = .ok (.getfield 50, 3) := by decide +kernel
theorem d_cover_36 : decode b_cover 36 = .ok (.iload_n 2, 1) := by decide +kernel
theorem d_cover_37 : decode b_cover 37 = .ok (.iconst 4, 1) := by decide +kernel
theorem d_cover_38 : decode b_cover 38 = .ok (.iload_n 2, 1) := by decide +kernel
theorem d_cover_39 : decode b_cover 39 = .ok (.iconst 4, 1) := by decide +kernel
theorem d_cover_40 : decode b_cover 40 = .ok (.irem, 1) := by decide +kernel
theorem d_cover_41 : decode b_cover 41 = .ok (.imul, 1) := by decide +kernel
theorem d_cover_42 : decode b_cover 42 = .ok (.iadd, 1) := by decide +kernel
theorem d_cover_43 : decode b_cover 43 = .ok (.bipush 16, 2) := by decide +kernel
theorem d_cover_45 : decode b_cover 45 = .ok (.irem, 1) := by decide +kernel
theorem d_cover_46 : decode b_cover 46 = .ok (.iaload, 1) := by decide +kernel
theorem d_cover_47 : decode b_cover 47 = .ok (.iaload, 1) := by decide +kernel
theorem d_cover_48 : decode b_cover 48 = .ok (.iastore, 1) := by decide +kernel
theorem d_cover_49 : decode b_cover 49 = .ok (.iinc 2 1, 3) := by decide +kernel
theorem d_cover_52 : decode b_cover 52 = .ok (.goto (-35), 3) := by decide +kernel
theorem d_cover_55 : decode b_cover 55 = .ok (.iconst 0, 1) := by decide +kernel
theorem d_cover_56 : decode b_cover 56 = .ok (.istore_n 2, 1) := by decide +kernel
theorem d_cover_57 : decode b_cover 57 = .ok (.iload_n 2, 1) := by decide +kernel
theorem d_cover_58 : decode b_cover 58 = .ok (.bipush 16, 2) := by decide +kernel
theorem d_cover_60 : decode b_cover 60 = .ok (.if_icmp .ge 107, 3) := by decide +kernel
theorem d_cover_63 : decode b_cover 63 = .ok (.iconst 0, 1) := by decide +kernel
theorem d_cover_64 : decode b_cover 64 = .ok (.istore_n 3, 1) := by decide +kernel
theorem d_cover_65 : decode b_cover 65 = .ok (.iload_n 3, 1) := by decide +kernel
theorem d_cover_66 : decode b_cover 66 = .ok (.iconst 4, 1) := by decide +kernel
theorem d_cover_67 : decode b_cover 67 = .ok (.if_icmp .ge 94, 3) := by decide +kernel
theorem d_cover_70 : decode b_cover 70 = .ok (.aload_n 0, 1) := by decide +kernel
theorem d_cover_71 : decode b_cover 71 = .ok (.getfield 53, 3) := by decide +kernel
theorem d_cover_74 : decode b_cover 74 = .ok (.iload_n 2, 1) := by decide +kernel
theorem d_cover_75 : decode b_cover 75 = .ok (.iload_n 3, 1) := by decide +kernel
theorem d_cover_76 : decode b_cover 76 = .ok (.iadd, 1) := by decide +kernel
theorem d_cover_77 : decode b_cover 77 = .ok (.iaload, 1) := by decide +kernel
theorem d_cover_78 : decode b_cover 78 = .ok (.istore 4, 2) := by decide +kernel
theorem d_cover_80 : decode b_cover 80 = .ok (.aload_n 0, 1) := by decide +kernel
theorem d_cover_81 : decode b_cover 81 = .ok (.getfield 53, 3) := by decide +kernel
theorem d_cover_84 : decode b_cover 84 = .ok (.iload_n 2, 1) := by decide +kernel
theorem d_cover_85 : decode b_cover 85 = .ok (.iload_n 3, 1) := by decide +kernel
theorem d_cover_86 : decode b_cover 86 = .ok (.iconst 1, 1) := by decide +kernel
theorem d_cover_87 : decode b_cover 87 = .ok (.iadd, 1) := by decide +kernel
theorem d_cover_88 : decode b_cover 88 = .ok (.iconst 4, 1) := by decide +kernel
theorem d_cover_89 : decode b_cover 89 = .ok (.irem, 1) := by decide +kernel
theorem d_cover_90 : decode b_cover 90 = .ok (.iadd, 1) := by decide +kernel
theorem d_cover_91 : decode b_cover 91 = .ok (.iaload, 1) := by decide +kernel
theorem d_cover_92 : decode b_cover 92 = .ok (.istore 5, 2) := by decide +kernel
theorem d_cover_94 : decode b_cover 94 = .ok (.aload_n 0, 1) := by decide +kernel
theorem d_cover_95 : decode b_cover 95 = .ok (.getfield 50, 3) := by decide +kernel
theorem d_cover_98 : decode b_cover 98 = .ok (.iload_n 2, 1) := by decide +kernel
theorem d_cover_99 : decode b_cover 99 = .ok (.iload_n 3, 1) := by decide +kernel
theorem d_cover_100 : decode b_cover 100 = .ok (.iadd, 1) := by decide +kernel
theorem d_cover_101 : decode b_cover 101 = .ok (.iload_n 1, 1) := by decide +kernel
theorem d_cover_102 : decode b_cover 102 = .ok (.aload_n 0, 1) := by decide +kernel
theorem d_cover_103 : decode b_cover 103 = .ok (.getfield 395, 3) := by decide +kernel
theorem d_cover_106 : decode b_cover 106 = .ok (.if_icmp .ne 8, 3) := by decide +kernel
theorem d_cover_109 : decode b_cover 109 = .ok (.iload 4, 2) := by decide +kernel
theorem d_cover_111 : decode b_cover 111 = .ok (.goto 43, 3) := by decide +kernel
theorem d_cover_114 : decode b_cover 114 = .ok (.iload 4, 2) := by decide +kernel
theorem d_cover_116 : decode b_cover 116 = .ok (.invokestatic 381, 3) := by decide +kernel
theorem d_cover_119 : decode b_cover 119 = .ok (.iload 5, 2) := by decide +kernel
theorem d_cover_121 : decode b_cover 121 = .ok (.invokestatic 381, 3) := by decide +kernel
theorem d_cover_124 : decode b_cover 124 = .ok (.ixor, 1) := by decide +kernel
theorem d_cover_125 : decode b_cover 125 = .ok (.iload 5, 2) := by decide +kernel
theorem d_cover_127 : decode b_cover 127 = .ok (.ixor, 1) := by decide +kernel
theorem d_cover_128 : decode b_cover 128 = .ok (.aload_n 0, 1) := by decide +kernel
theorem d_cover_129 : decode b_cover 129 = .ok (.getfield 53, 3) := by decide +kernel
theorem d_cover_132 : decode b_cover 132 = .ok (.iload_n 2, 1) := by decide +kernel
theorem d_cover_133 : decode b_cover 133 = .ok (.iload_n 3, 1) := by decide +kernel
theorem d_cover_134 : decode b_cover 134 = .ok (.iconst 2, 1) := by decide +kernel
theorem d_cover_135 : decode b_cover 135 = .ok (.iadd, 1) := by decide +kernel
theorem d_cover_136 : decode b_cover 136 = .ok (.iconst 4, 1) := by decide +kernel
theorem d_cover_137 : decode b_cover 137 = .ok (.irem, 1) := by decide +kernel
theorem d_cover_138 : decode b_cover 138 = .ok (.iadd, 1) := by decide +kernel
theorem d_cover_139 : decode b_cover 139 = .ok (.iaload, 1) := by decide +kernel
theorem d_cover_140 : decode b_cover 140 = .ok (.ixor, 1) := by decide +kernel
theorem d_cover_141 : decode b_cover 141 = .ok (.aload_n 0, 1) := by decide +kernel
theorem d_cover_142 : decode b_cover 142 = .ok (.getfield 53, 3) := by decide +kernel
theorem d_cover_145 : decode b_cover 145 = .ok (.iload_n 2, 1) := by decide +kernel
theorem d_cover_146 : decode b_cover 146 = .ok (.iload_n 3, 1) := by decide +kernel
theorem d_cover_147 : decode b_cover 147 = .ok (.iconst 3, 1) := by decide +kernel
theorem d_cover_148 : decode b_cover 148 = .ok (.iadd, 1) := by decide +kernel
theorem d_cover_149 : decode b_cover 149 = .ok (.iconst 4, 1) := by decide +kernel
theorem d_cover_150 : decode b_cover 150 = .ok (.irem, 1) := by decide +kernel
theorem d_cover_151 : decode b_cover 151 = .ok (.iadd, 1) := by decide +kernel
theorem d_cover_152 : decode b_cover 152 = .ok (.iaload, 1) := by decide +kernel
theorem d_cover_153 : decode b_cover 153 = .ok (.ixor, 1) := by decide +kernel
theorem d_cover_154 : decode b_cover 154 = .ok (.iastore, 1) := by decide +kernel
theorem d_cover_155 : decode b_cover 155 = .ok (.iinc 3 1, 3) := by decide +kernel
theorem d_cover_158 : decode b_cover 158 = .ok (.goto (-93), 3) := by decide +kernel
theorem d_cover_161 : decode b_cover 161 = .ok (.iinc 2 4, 3) := by decide +kernel
theorem d_cover_164 : decode b_cover 164 = .ok (.goto (-107), 3) := by decide +kernel
theorem d_cover_167 : decode b_cover 167 = .ok (.aload_n 0, 1) := by decide +kernel
theorem d_cover_168 : decode b_cover 168 = .ok (.iload_n 1, 1) := by decide +kernel
theorem d_cover_169 : decode b_cover 169 = .ok (.invokevirtual 401, 3) := by decide +kernel
theorem d_cover_172 : decode b_cover 172 = .ok (.iinc 1 1, 3) := by decide +kernel
theorem d_cover_175 : decode b_cover 175 = .ok (.goto (-168), 3) := by decide +kernel
theorem d_cover_178 : decode b_cover 178 = .ok (.return_, 1) := by decide +kernel
theorem kx_makeBox : Cond.selects R_M y_makeBox y_makeBox ∈ lw_tg := List.mem_filter.mpr ⟨List.mem_append_left _ (List.mem_of_getElem? (i := 89) (by decide +kernel)), rfl⟩
theorem hd_makeBox : y_makeBox.cls = R_M ∧ y_makeBox.cls ≠ "java/lang/invoke/MethodHandle" ∧ y_makeBox.cls ≠ "java/lang/invoke/VarHandle" ∧ (parseMethodDescriptor y_makeBox.desc).map (fun d => d.parameters.length) = some 0 := by decide +kernel
theorem kx_boxed : Cond.selects R_M y_boxed y_boxed ∈ lw_tg := List.mem_filter.mpr ⟨List.mem_append_left _ (List.mem_of_getElem? (i := 90) (by decide +kernel)), rfl⟩
theorem hd_boxed : y_boxed.cls = R_M ∧ y_boxed.cls ≠ "java/lang/invoke/MethodHandle" ∧ y_boxed.cls ≠ "java/lang/invoke/VarHandle" ∧ (parseMethodDescriptor y_boxed.desc).map (fun d => d.parameters.length) = some 1 := by decide +kernel
theorem kx_aesKey : Cond.selects R_M y_aesKey y_aesKey ∈ lw_tg := List.mem_filter.mpr ⟨List.mem_append_left _ (List.mem_of_getElem? (i := 88) (by decide +kernel)), rfl⟩
theorem hd_aesKey : y_aesKey.cls = R_M ∧ y_aesKey.cls ≠ "java/lang/invoke/MethodHandle" ∧ y_aesKey.cls ≠ "java/lang/invoke/VarHandle" ∧ (parseMethodDescriptor y_aesKey.desc).map (fun d => d.parameters.length) = some 2 := by decide +kernel
theorem kx_addKey : Cond.selects R_M y_addKey y_addKey ∈ lw_tg := List.mem_filter.mpr ⟨List.mem_append_left _ (List.mem_of_getElem? (i := 92) (by decide +kernel)), rfl⟩
theorem hd_addKey : y_addKey.cls = R_M ∧ y_addKey.cls ≠ "java/lang/invoke/MethodHandle" ∧ y_addKey.cls ≠ "java/lang/invoke/VarHandle" ∧ (parseMethodDescriptor y_addKey.desc).map (fun d => d.parameters.length) = some 1 := by decide +kernel
theorem kx_cover : Cond.selects R_M y_cover y_cover ∈ lw_tg := List.mem_filter.mpr ⟨List.mem_append_left _ (List.mem_of_getElem? (i := 91) (by decide +kernel)), rfl⟩
theorem hd_cover : y_cover.cls = R_M ∧ y_cover.cls ≠ "java/lang/invoke/MethodHandle" ∧ y_cover.cls ≠ "java/lang/invoke/VarHandle" ∧ (parseMethodDescriptor y_cover.desc).map (fun d => d.parameters.length) = some 0 := by decide +kernel
set_option maxHeartbeats 4000000 in
set_option maxRecDepth 100000 in
theorem c_product (l : Launch) (a0 a1 : Nat) (h0 : a0 < 256) (h1 : a1 < 256) : Met l y_product (k_product :: lw_tg) (mR 1 20) (va_Pc [.int (nI a0), .int (nI a1)] pPre) (va_Qi (fun (r : Int32) (_ : Unit) => ∃ n, n < 256 ∧ r = nI n) (fun _ _ => True) (fun _ => False)) 0 0 (fun _ => False) := by
  refine p_enter (by decide) rfl (Nat.le_of_ble_eq_true rfl) (fun p e s m below meth c ls AV QQ H locs hQQ hS X hr hlk hml hl => ?_)
  have hl : lv_has ls 5 [(0, .int (nI a0)), (1, .int (nI a1))] := hl
  refine lv_iconst (v := (nI 0)) X.1 X.2.1 d_product_0 (by decide) ?_
  refine lv_istore_n (lv' := [(2, .int (nI 0)), (0, .int (nI a0)), (1, .int (nI a1))]) X.1 X.2.1 d_product_1 rfl hl (by decide) rfl (fun ls hl => ?_)
  refine lv_iload_n X.1 X.2.1 d_product_2 rfl (lv_at hl 1 rfl) ?_
  refine lv_istore_n (lv' := [(3, .int (nI a0)), (2, .int (nI 0)), (0, .int (nI a0)), (1, .int (nI a1))]) X.1 X.2.1 d_product_3 rfl hl (by decide) rfl (fun ls hl => ?_)
  refine lv_iload_n X.1 X.2.1 d_product_4 rfl (lv_at hl 3 rfl) ?_
  refine lv_istore (lv' := [(4, .int (nI a1)), (3, .int (nI a0)), (2, .int (nI 0)), (0, .int (nI a0)), (1, .int (nI a1))]) X.1 X.2.1 d_product_5 hl (by decide) rfl (fun ls hl => ?_)
  have lp : ∀ (n b a v : Nat) (H : Heap) (locs : List Loc) (ls : Array Slot), b ≤ n → b < 256 → a < 256 → v < 256 → va_S (fun _ => False) s.heap H locs → lv_has ls 5 [(4, .int (nI b)), (3, .int (nI a)), (2, .int (nI v)), (0, .int (nI a0)), (1, .int (nI a1))] → W p l e (mR 1 20) s m AV below meth c H locs 0 0 QQ (F0 m 7 ls []) := by
    intro n
    induction n with
    | zero =>
      intro b a v H locs ls hb hb2 ha hv hS hl
      refine lv_iload X.1 X.2.1 d_product_7 (lv_at hl 0 rfl) ?_
      refine lv_if_le (tgt := 38) X.1 X.2.1 d_product_9 (by decide) (fun c1 => ?_) (fun c1 => absurd ?_ c1)
      rotate_left
      · (rw [← nI_0, nI_leI (by omega) (by omega)]; omega)
      rw [← nI_0] at c1
      rw [nI_leI (by omega) (by omega)] at c1
      refine lv_iload_n X.1 X.2.1 d_product_38 rfl (lv_at hl 2 rfl) ?_
      exact p_reti hQQ hS X hr hlk ⟨_, (show v < 256 by omega), rfl⟩ d_product_39
    | succ n ih =>
      intro b a v H locs ls hb hb2 ha hv hS hl
      refine lv_iload X.1 X.2.1 d_product_7 (lv_at hl 0 rfl) ?_
      refine lv_if_le (tgt := 38) X.1 X.2.1 d_product_9 (by decide) (fun c2 => ?_) (fun c2 => ?_)
      · skip
        rw [← nI_0] at c2
        rw [nI_leI (by omega) (by omega)] at c2
        refine lv_iload_n X.1 X.2.1 d_product_38 rfl (lv_at hl 2 rfl) ?_
        exact p_reti hQQ hS X hr hlk ⟨_, (show v < 256 by omega), rfl⟩ d_product_39
      · skip
        rw [← nI_0] at c2
        rw [nI_leI (by omega) (by omega)] at c2
        refine lv_iload X.1 X.2.1 d_product_12 (lv_at hl 0 rfl) ?_
        refine lv_iconst (v := (nI 1)) X.1 X.2.1 d_product_14 (by decide) ?_
        refine lv_iand X.1 X.2.1 d_product_15 ?_
        obtain ⟨j3, hj3, ej3⟩ := pk_andE (nI b) (m := nI 1) 1 (by decide)
        refine t_eq ej3 ?_
        have hj3 : j3 < 2 := hj3
        refine lv_iconst (v := (nI 1)) X.1 X.2.1 d_product_16 (by decide) ?_
        refine lv_icmp_ne (tgt := 24) X.1 X.2.1 d_product_17 (by decide) (fun c4 => ?_) (fun c4 => ?_)
        · skip
          rw [nI_eq (by omega) (by omega)] at c4
          refine lv_iload_n X.1 X.2.1 d_product_24 rfl (lv_at hl 1 rfl) ?_
          refine pp_calli (As := [.int (nI a)]) (rest := []) (n := 1) hS X hml hl.1 (c_twice l (nI a)) kl_twice ks_twice ki_twice ini_M (by decide +kernel) ⟨by decide, by decide⟩ rfl (Nat.le_of_ble_eq_true rfl) d_product_25 (fun r5 H locs hpr5 hS => ?_)
          obtain ⟨j6, hj6, ej6⟩ := hpr5
          refine t_eq ej6 ?_
          refine lv_istore_n (lv' := [(3, .int (nI j6)), (4, .int (nI b)), (2, .int (nI v)), (0, .int (nI a0)), (1, .int (nI a1))]) X.1 X.2.1 d_product_28 rfl hl (by decide) rfl (fun ls hl => ?_)
          refine lv_iload X.1 X.2.1 d_product_29 (lv_at hl 1 rfl) ?_
          refine lv_iconst (v := (nI 1)) X.1 X.2.1 d_product_31 (by decide) ?_
          refine lv_ishr X.1 X.2.1 d_product_32 ?_
          refine t_eq (y := nI (b / 2 ^ 1)) (pk_shrN (by omega) _ 1 (by decide)) ?_
          refine lv_istore (lv' := [(4, .int (nI (b / 2 ^ 1))), (3, .int (nI j6)), (2, .int (nI v)), (0, .int (nI a0)), (1, .int (nI a1))]) X.1 X.2.1 d_product_33 hl (by decide) rfl (fun ls hl => ?_)
          refine lv_goto (tgt := 7) X.1 X.2.1 d_product_35 (by decide) ?_
          exact ih (b / 2 ^ 1) (j6) (v) _ _ _ (by omega) (by omega) (by omega) (by omega) hS (lv_sub hl [0, 1, 2, 3, 4] rfl)
        · skip
          rw [nI_eq (by omega) (by omega)] at c4
          refine lv_iload_n X.1 X.2.1 d_product_20 rfl (lv_at hl 2 rfl) ?_
          refine lv_iload_n X.1 X.2.1 d_product_21 rfl (lv_at hl 1 rfl) ?_
          refine lv_ixor X.1 X.2.1 d_product_22 ?_
          obtain ⟨j7, hj7, ej7⟩ := by_ixor (a := v) (b := a) (by omega) (by omega)
          refine t_eq ej7 ?_
          refine lv_istore_n (lv' := [(2, .int (nI j7)), (4, .int (nI b)), (3, .int (nI a)), (0, .int (nI a0)), (1, .int (nI a1))]) X.1 X.2.1 d_product_23 rfl hl (by decide) rfl (fun ls hl => ?_)
          refine lv_iload_n X.1 X.2.1 d_product_24 rfl (lv_at hl 2 rfl) ?_
          refine pp_calli (As := [.int (nI a)]) (rest := []) (n := 1) hS X hml hl.1 (c_twice l (nI a)) kl_twice ks_twice ki_twice ini_M (by decide +kernel) ⟨by decide, by decide⟩ rfl (Nat.le_of_ble_eq_true rfl) d_product_25 (fun r8 H locs hpr8 hS => ?_)
          obtain ⟨j9, hj9, ej9⟩ := hpr8
          refine t_eq ej9 ?_
          refine lv_istore_n (lv' := [(3, .int (nI j9)), (2, .int (nI j7)), (4, .int (nI b)), (0, .int (nI a0)), (1, .int (nI a1))]) X.1 X.2.1 d_product_28 rfl hl (by decide) rfl (fun ls hl => ?_)
          refine lv_iload X.1 X.2.1 d_product_29 (lv_at hl 2 rfl) ?_
          refine lv_iconst (v := (nI 1)) X.1 X.2.1 d_product_31 (by decide) ?_
          refine lv_ishr X.1 X.2.1 d_product_32 ?_
          refine t_eq (y := nI (b / 2 ^ 1)) (pk_shrN (by omega) _ 1 (by decide)) ?_
          refine lv_istore (lv' := [(4, .int (nI (b / 2 ^ 1))), (3, .int (nI j9)), (2, .int (nI j7)), (0, .int (nI a0)), (1, .int (nI a1))]) X.1 X.2.1 d_product_33 hl (by decide) rfl (fun ls hl => ?_)
          refine lv_goto (tgt := 7) X.1 X.2.1 d_product_35 (by decide) ?_
          exact ih (b / 2 ^ 1) (j9) (j7) _ _ _ (by omega) (by omega) (by omega) (by omega) hS (lv_sub hl [0, 1, 2, 3, 4] rfl)
  exact lp a1 a1 a0 0 _ _ _ (by omega) (by omega) (by omega) (by omega) hS (lv_sub hl [0, 1, 2, 3, 4] rfl)
set_option maxHeartbeats 4000000 in
set_option maxRecDepth 100000 in
theorem c_makeBox (l : Launch) (D : va_G) (E : mE) (h : Nat) (q : Nat → Nat) (sz : Nat) (I : Nat → Int32) (J : Nat → Int64) (B : Nat → Nat → Int32) (G : Nat → Nat → Int64)  (y12 : by8 (B 12)) (y13 : by8 (B 13)) : Met l y_makeBox (k_makeBox :: lw_tg) (mR 2 44) (va_Pc [.ref h] (mPre D E h q (I, J, B, G) sz)) (va_Qv (fun (u : mS) => (∀ j, j ≠ 14 → u.1 j = I j) ∧ u.2.1 = J ∧ (∀ j, j ≠ 12 → j ≠ 13 → u.2.2.1 j = B j) ∧ u.2.2.2 = G ∧ u.1 14 = nI (1) ∧ by8 (u.2.2.1 12) ∧ by8 (u.2.2.1 13)) (mPost D E h q (mA E h q sz)) (mA E h q sz)) 0 0 (mA E h q sz) := by
  refine m_enter (by decide) rfl (Nat.le_of_ble_eq_true rfl) (fun p e s m below meth c ls AV QQ H locs hQQ X Y hA hr hlk hml hl => ?_)
  have Y : mH D E (mA E h q sz) s.heap h q I J B G H locs := Y
  have hl : lv_has ls 6 [(0, .ref h)] := hl
  refine lv_aload_n X.1 X.2.1 d_makeBox_0 rfl (lv_at hl 0 rfl) ?_
  refine lv_iconst (v := (nI 1)) X.1 X.2.1 d_makeBox_1 (by decide) ?_
  refine m_puti X Y 14 (by decide) lk_hasBox rfl rfl (t_M_ok 14 (by decide)) rfl rfl (sf_hasBox _ _ _ _) (Nat.le_of_ble_eq_true rfl) d_makeBox_2 (fun H locs Y => ?_)
  refine lv_iconst (v := (nI 0)) X.1 X.2.1 d_makeBox_5 (by decide) ?_
  refine lv_istore_n (lv' := [(1, .int (nI 0)), (0, .ref h)]) X.1 X.2.1 d_makeBox_6 rfl hl (by decide) rfl (fun ls hl => ?_)
  have lp4 : ∀ (n1 i2 : Nat) (B5 : Nat → Nat → Int32) (H : Heap) (locs : List Loc) (ls : Array Slot), i2 + n1 = 256 → 0 ≤ i2 → (∀ j, j ≠ 12 → j ≠ 13 → B5 j = B j) → by8 (B5 12) → by8 (B5 13) → mH D E (mA E h q sz) s.heap h q (upd I 14 (nI 1)) J B5 G H locs → lv_has ls 6 [(1, .int (nI i2)), (0, .ref h)] → W p l e (mR 2 44) s m AV below meth c H locs 0 0 QQ (F0 m 7 ls []) := by
    intro n1
    induction n1 with
    | zero =>
      intro i2 B5 H locs ls hii2 hsi2 hB6 y7 y8  Y hl
      refine lv_iload_n X.1 X.2.1 d_makeBox_7 rfl (lv_at hl 0 rfl) ?_
      refine lv_sipush (v := (nI 256)) X.1 X.2.1 d_makeBox_8 (by decide) ?_
      refine lv_icmp_ge (tgt := 139) X.1 X.2.1 d_makeBox_11 (by decide) (fun c9 => ?_) (fun c9 => absurd ?_ c9)
      rotate_left
      · (rw [nI_leI (by omega) (by omega)]; omega)
      rw [nI_leI (by omega) (by omega)] at c9
      exact m_retv hQQ X Y hr hlk ⟨(fun j h14 => ((if_neg h14).trans rfl)), rfl, (fun j h12 h13 => (hB6 j h12 h13)), rfl, (show (upd I 14 (nI 1)) 14 = nI (1) from (show (upd I 14 (nI 1)) 14 = nI (1) from pk_us).trans (congrArg nI (show (1 : Nat) = 1 by omega))), (show by8 (B5 12) from y7), (show by8 (B5 13) from y8)⟩ d_makeBox_139
    | succ n1 ih3 =>
      intro i2 B5 H locs ls hii2 hsi2 hB6 y7 y8  Y hl
      refine lv_iload_n X.1 X.2.1 d_makeBox_7 rfl (lv_at hl 0 rfl) ?_
      refine lv_sipush (v := (nI 256)) X.1 X.2.1 d_makeBox_8 (by decide) ?_
      refine lv_icmp_ge (tgt := 139) X.1 X.2.1 d_makeBox_11 (by decide) (fun c10 => absurd c10 ?_) (fun c10 => ?_)
      · (rw [nI_leI (by omega) (by omega)]; omega)
      rw [nI_leI (by omega) (by omega)] at c10
      refine lv_iconst (v := (nI 1)) X.1 X.2.1 d_makeBox_14 (by decide) ?_
      refine lv_istore_n (lv' := [(2, .int (nI 1)), (1, .int (nI i2)), (0, .ref h)]) X.1 X.2.1 d_makeBox_15 rfl hl (by decide) rfl (fun ls hl => ?_)
      refine lv_iconst (v := (nI 0)) X.1 X.2.1 d_makeBox_16 (by decide) ?_
      refine lv_istore_n (lv' := [(3, .int (nI 0)), (2, .int (nI 1)), (1, .int (nI i2)), (0, .ref h)]) X.1 X.2.1 d_makeBox_17 rfl hl (by decide) rfl (fun ls hl => ?_)
      have lp14 : ∀ (n11 i12 : Nat) (x15 : Nat) (H : Heap) (locs : List Loc) (ls : Array Slot), i12 + n11 = 254 → 0 ≤ i12 → x15 < 256 → mH D E (mA E h q sz) s.heap h q (upd I 14 (nI 1)) J B5 G H locs → lv_has ls 6 [(3, .int (nI i12)), (2, .int (nI x15)), (1, .int (nI i2)), (0, .ref h)] → W p l e (mR 2 44) s m AV below meth c H locs 0 0 QQ (F0 m 18 ls []) := by
        intro n11
        induction n11 with
        | zero =>
          intro i12 x15 H locs ls hii12 hsi12 hxx15  Y hl
          refine lv_iload_n X.1 X.2.1 d_makeBox_18 rfl (lv_at hl 0 rfl) ?_
          refine lv_sipush (v := (nI 254)) X.1 X.2.1 d_makeBox_19 (by decide) ?_
          refine lv_icmp_ge (tgt := 37) X.1 X.2.1 d_makeBox_22 (by decide) (fun c16 => ?_) (fun c16 => absurd ?_ c16)
          rotate_left
          · (rw [nI_leI (by omega) (by omega)]; omega)
          rw [nI_leI (by omega) (by omega)] at c16
          refine lv_iconst (v := (nI 0)) X.1 X.2.1 d_makeBox_37 (by decide) ?_
          refine lv_istore_n (lv' := [(3, .int (nI 0)), (2, .int (nI x15)), (1, .int (nI i2)), (0, .ref h)]) X.1 X.2.1 d_makeBox_38 rfl hl (by decide) rfl (fun ls hl => ?_)
          refine lv_iconst (v := (nI 0)) X.1 X.2.1 d_makeBox_39 (by decide) ?_
          refine lv_istore (lv' := [(4, .int (nI 0)), (3, .int (nI 0)), (2, .int (nI x15)), (1, .int (nI i2)), (0, .ref h)]) X.1 X.2.1 d_makeBox_40 hl (by decide) rfl (fun ls hl => ?_)
          have lp20 : ∀ (n17 i18 : Nat) (x21 : Nat) (H : Heap) (locs : List Loc) (ls : Array Slot), i18 + n17 = 8 → 0 ≤ i18 → x21 < 256 → mH D E (mA E h q sz) s.heap h q (upd I 14 (nI 1)) J B5 G H locs → lv_has ls 6 [(4, .int (nI i18)), (3, .int (nI x21)), (2, .int (nI x15)), (1, .int (nI i2)), (0, .ref h)] → W p l e (mR 2 44) s m AV below meth c H locs 0 0 QQ (F0 m 42 ls []) := by
            intro n17
            induction n17 with
            | zero =>
              intro i18 x21 H locs ls hii18 hsi18 hxx21  Y hl
              refine lv_iload X.1 X.2.1 d_makeBox_42 (lv_at hl 0 rfl) ?_
              refine lv_bipush (v := (nI 8)) X.1 X.2.1 d_makeBox_44 (by decide) ?_
              refine lv_icmp_ge (tgt := 119) X.1 X.2.1 d_makeBox_46 (by decide) (fun c22 => ?_) (fun c22 => absurd ?_ c22)
              rotate_left
              · (rw [nI_leI (by omega) (by omega)]; omega)
              rw [nI_leI (by omega) (by omega)] at c22
              refine lv_aload_n X.1 X.2.1 d_makeBox_119 rfl (lv_at hl 4 rfl) ?_
              refine m_get X Y 12 (by decide) lk_box (gf_box _ _ _) rfl d_makeBox_120 ?_
              refine lv_iload_n X.1 X.2.1 d_makeBox_123 rfl (lv_at hl 3 rfl) ?_
              refine lv_iload_n X.1 X.2.1 d_makeBox_124 rfl (lv_at hl 1 rfl) ?_
              refine m_iast X Y (aw_box _ _ _ _ _ _ _) (vp_in_nI (by omega) (by decide)) (sw_box _ _ _ _ _ _ _ _) d_makeBox_125 (fun H locs Y => ?_)
              have y24 : by8 (upd (B5 12) ((nI i2)).toNatClampNeg (nI x21)) := by8_upd y7 (show x21 < 256 by omega)
              generalize (upd (B5 12) ((nI i2)).toNatClampNeg (nI x21)) = f23 at Y y24
              refine lv_aload_n X.1 X.2.1 d_makeBox_126 rfl (lv_at hl 4 rfl) ?_
              refine m_get X Y 13 (by decide) lk_back (gf_back _ _ _) rfl d_makeBox_127 ?_
              refine lv_iload_n X.1 X.2.1 d_makeBox_130 rfl (lv_at hl 1 rfl) ?_
              refine lv_iload_n X.1 X.2.1 d_makeBox_131 rfl (lv_at hl 3 rfl) ?_
              refine m_iast X Y (aw_back _ _ _ _ _ _ _) (vp_in_nI (by omega) (by decide)) (sw_back _ _ _ _ _ _ _ _) d_makeBox_132 (fun H locs Y => ?_)
              have y26 : by8 (upd ((upB B5 12 f23) 13) ((nI x21)).toNatClampNeg (nI i2)) := by8_upd y8 (show i2 < 256 by omega)
              generalize (upd ((upB B5 12 f23) 13) ((nI x21)).toNatClampNeg (nI i2)) = f25 at Y y26
              refine lv_iinc (v := (nI (i2 + 1))) (lv' := [(1, .int (nI (i2 + 1))), (4, .int (nI i18)), (3, .int (nI x21)), (2, .int (nI x15)), (0, .ref h)]) X.1 X.2.1 d_makeBox_133 hl (k := 3) rfl (nI_add _ 1) (by decide) rfl (fun ls hl => ?_)
              refine lv_goto (tgt := 7) X.1 X.2.1 d_makeBox_136 (by decide) ?_
              exact ih3 (i2 + 1) (upB (upB B5 12 f23) 13 f25) _ _ _ (by omega) (by omega) (fun j h12 h13 => ((if_neg h13).trans ((if_neg h12).trans (hB6 j h12 h13)))) (show by8 ((upB (upB B5 12 f23) 13 f25) 12) from y24) (show by8 ((upB (upB B5 12 f23) 13 f25) 13) from y26)  Y (lv_sub hl [0, 4] rfl)
            | succ n17 ih19 =>
              intro i18 x21 H locs ls hii18 hsi18 hxx21  Y hl
              refine lv_iload X.1 X.2.1 d_makeBox_42 (lv_at hl 0 rfl) ?_
              refine lv_bipush (v := (nI 8)) X.1 X.2.1 d_makeBox_44 (by decide) ?_
              refine lv_icmp_ge (tgt := 119) X.1 X.2.1 d_makeBox_46 (by decide) (fun c27 => absurd c27 ?_) (fun c27 => ?_)
              · (rw [nI_leI (by omega) (by omega)]; omega)
              rw [nI_leI (by omega) (by omega)] at c27
              refine lv_iload_n X.1 X.2.1 d_makeBox_49 rfl (lv_at hl 2 rfl) ?_
              refine lv_iload X.1 X.2.1 d_makeBox_50 (lv_at hl 0 rfl) ?_
              refine lv_ishr X.1 X.2.1 d_makeBox_52 ?_
              refine t_any (fun v28 => ?_)
              refine lv_iload_n X.1 X.2.1 d_makeBox_53 rfl (lv_at hl 2 rfl) ?_
              refine lv_iload X.1 X.2.1 d_makeBox_54 (lv_at hl 0 rfl) ?_
              refine lv_iconst (v := (nI 4)) X.1 X.2.1 d_makeBox_56 (by decide) ?_
              refine lv_iadd X.1 X.2.1 d_makeBox_57 ?_
              refine t_eq (y := nI (i18 + 4)) (nI_add _ _) ?_
              refine lv_bipush (v := (nI 8)) X.1 X.2.1 d_makeBox_58 (by decide) ?_
              refine lv_irem X.1 X.2.1 d_makeBox_60 (nI_ne0 (by omega) (by omega)) ?_
              refine t_eq (y := nI ((i18 + 4) % (8))) (pk_rem (by omega) (by omega) (by omega)) ?_
              refine lv_ishr X.1 X.2.1 d_makeBox_61 ?_
              refine t_any (fun v29 => ?_)
              refine lv_ixor X.1 X.2.1 d_makeBox_62 ?_
              refine t_any (fun v30 => ?_)
              refine lv_iload_n X.1 X.2.1 d_makeBox_63 rfl (lv_at hl 2 rfl) ?_
              refine lv_iload X.1 X.2.1 d_makeBox_64 (lv_at hl 0 rfl) ?_
              refine lv_iconst (v := (nI 5)) X.1 X.2.1 d_makeBox_66 (by decide) ?_
              refine lv_iadd X.1 X.2.1 d_makeBox_67 ?_
              refine t_eq (y := nI (i18 + 5)) (nI_add _ _) ?_
              refine lv_bipush (v := (nI 8)) X.1 X.2.1 d_makeBox_68 (by decide) ?_
              refine lv_irem X.1 X.2.1 d_makeBox_70 (nI_ne0 (by omega) (by omega)) ?_
              refine t_eq (y := nI ((i18 + 5) % (8))) (pk_rem (by omega) (by omega) (by omega)) ?_
              refine lv_ishr X.1 X.2.1 d_makeBox_71 ?_
              refine t_any (fun v31 => ?_)
              refine lv_ixor X.1 X.2.1 d_makeBox_72 ?_
              refine t_any (fun v32 => ?_)
              refine lv_iload_n X.1 X.2.1 d_makeBox_73 rfl (lv_at hl 2 rfl) ?_
              refine lv_iload X.1 X.2.1 d_makeBox_74 (lv_at hl 0 rfl) ?_
              refine lv_bipush (v := (nI 6)) X.1 X.2.1 d_makeBox_76 (by decide) ?_
              refine lv_iadd X.1 X.2.1 d_makeBox_78 ?_
              refine t_eq (y := nI (i18 + 6)) (nI_add _ _) ?_
              refine lv_bipush (v := (nI 8)) X.1 X.2.1 d_makeBox_79 (by decide) ?_
              refine lv_irem X.1 X.2.1 d_makeBox_81 (nI_ne0 (by omega) (by omega)) ?_
              refine t_eq (y := nI ((i18 + 6) % (8))) (pk_rem (by omega) (by omega) (by omega)) ?_
              refine lv_ishr X.1 X.2.1 d_makeBox_82 ?_
              refine t_any (fun v33 => ?_)
              refine lv_ixor X.1 X.2.1 d_makeBox_83 ?_
              refine t_any (fun v34 => ?_)
              refine lv_iload_n X.1 X.2.1 d_makeBox_84 rfl (lv_at hl 2 rfl) ?_
              refine lv_iload X.1 X.2.1 d_makeBox_85 (lv_at hl 0 rfl) ?_
              refine lv_bipush (v := (nI 7)) X.1 X.2.1 d_makeBox_87 (by decide) ?_
              refine lv_iadd X.1 X.2.1 d_makeBox_89 ?_
              refine t_eq (y := nI (i18 + 7)) (nI_add _ _) ?_
              refine lv_bipush (v := (nI 8)) X.1 X.2.1 d_makeBox_90 (by decide) ?_
              refine lv_irem X.1 X.2.1 d_makeBox_92 (nI_ne0 (by omega) (by omega)) ?_
              refine t_eq (y := nI ((i18 + 7) % (8))) (pk_rem (by omega) (by omega) (by omega)) ?_
              refine lv_ishr X.1 X.2.1 d_makeBox_93 ?_
              refine t_any (fun v35 => ?_)
              refine lv_ixor X.1 X.2.1 d_makeBox_94 ?_
              refine t_any (fun v36 => ?_)
              refine lv_bipush (v := (nI 99)) X.1 X.2.1 d_makeBox_95 (by decide) ?_
              refine lv_iload X.1 X.2.1 d_makeBox_97 (lv_at hl 0 rfl) ?_
              refine lv_ishr X.1 X.2.1 d_makeBox_99 ?_
              refine t_any (fun v37 => ?_)
              refine lv_ixor X.1 X.2.1 d_makeBox_100 ?_
              refine t_any (fun v38 => ?_)
              refine lv_istore (lv' := [(5, .int v38), (4, .int (nI i18)), (3, .int (nI x21)), (2, .int (nI x15)), (1, .int (nI i2)), (0, .ref h)]) X.1 X.2.1 d_makeBox_101 hl (by decide) rfl (fun ls hl => ?_)
              refine lv_iload_n X.1 X.2.1 d_makeBox_103 rfl (lv_at hl 2 rfl) ?_
              refine lv_iload X.1 X.2.1 d_makeBox_104 (lv_at hl 0 rfl) ?_
              refine lv_iconst (v := (nI 1)) X.1 X.2.1 d_makeBox_106 (by decide) ?_
              refine lv_iand X.1 X.2.1 d_makeBox_107 ?_
              obtain ⟨j39, hj39, ej39⟩ := pk_andE v38 (m := nI 1) 1 (by decide)
              refine t_eq ej39 ?_
              have hj39 : j39 < 2 := hj39
              refine lv_iload X.1 X.2.1 d_makeBox_108 (lv_at hl 1 rfl) ?_
              refine lv_ishl X.1 X.2.1 d_makeBox_110 ?_
              obtain ⟨j40, hj40, ej40⟩ := by_bit (i18) (by omega) (j39) (by omega)
              refine t_eq ej40 ?_
              refine lv_ior X.1 X.2.1 d_makeBox_111 ?_
              obtain ⟨j41, hj41, ej41⟩ := by_ior (a := x21) (b := j40) (by omega) (by omega)
              refine t_eq ej41 ?_
              refine lv_istore_n (lv' := [(3, .int (nI j41)), (5, .int v38), (4, .int (nI i18)), (2, .int (nI x15)), (1, .int (nI i2)), (0, .ref h)]) X.1 X.2.1 d_makeBox_112 rfl hl (by decide) rfl (fun ls hl => ?_)
              refine lv_iinc (v := (nI (i18 + 1))) (lv' := [(4, .int (nI (i18 + 1))), (3, .int (nI j41)), (5, .int v38), (2, .int (nI x15)), (1, .int (nI i2)), (0, .ref h)]) X.1 X.2.1 d_makeBox_113 hl (k := 2) rfl (nI_add _ 1) (by decide) rfl (fun ls hl => ?_)
              refine lv_goto (tgt := 42) X.1 X.2.1 d_makeBox_116 (by decide) ?_
              exact ih19 (i18 + 1) (j41) _ _ _ (by omega) (by omega) (by omega)  Y (lv_sub hl [0, 1, 3, 4, 5] rfl)
          exact lp20 8 0 (0) _ _ _ (by omega) (by omega) (by omega)  Y (lv_sub hl [0, 1, 2, 3, 4] rfl)
        | succ n11 ih13 =>
          intro i12 x15 H locs ls hii12 hsi12 hxx15  Y hl
          refine lv_iload_n X.1 X.2.1 d_makeBox_18 rfl (lv_at hl 0 rfl) ?_
          refine lv_sipush (v := (nI 254)) X.1 X.2.1 d_makeBox_19 (by decide) ?_
          refine lv_icmp_ge (tgt := 37) X.1 X.2.1 d_makeBox_22 (by decide) (fun c42 => absurd c42 ?_) (fun c42 => ?_)
          · (rw [nI_leI (by omega) (by omega)]; omega)
          rw [nI_leI (by omega) (by omega)] at c42
          refine lv_iload_n X.1 X.2.1 d_makeBox_25 rfl (lv_at hl 1 rfl) ?_
          refine lv_iload_n X.1 X.2.1 d_makeBox_26 rfl (lv_at hl 2 rfl) ?_
          refine p_calli (As := [.int (nI x15), .int (nI i2)]) (rest := []) (n := 2) X Y hml hl.1 (c_product l (x15) (i2) (by omega) (by omega)) kl_product ks_product ki_product ini_M (by decide +kernel) ⟨by decide, by decide⟩ rfl (Nat.le_of_ble_eq_true rfl) d_makeBox_27 ⟨Nat.le_refl _, Nat.le_refl _⟩ (fun r43 H locs hpr43 Y => ?_)
          obtain ⟨j44, hj44, ej44⟩ := hpr43
          refine t_eq ej44 ?_
          refine lv_istore_n (lv' := [(2, .int (nI j44)), (3, .int (nI i12)), (1, .int (nI i2)), (0, .ref h)]) X.1 X.2.1 d_makeBox_30 rfl hl (by decide) rfl (fun ls hl => ?_)
          refine lv_iinc (v := (nI (i12 + 1))) (lv' := [(3, .int (nI (i12 + 1))), (2, .int (nI j44)), (1, .int (nI i2)), (0, .ref h)]) X.1 X.2.1 d_makeBox_31 hl (k := 1) rfl (nI_add _ 1) (by decide) rfl (fun ls hl => ?_)
          refine lv_goto (tgt := 18) X.1 X.2.1 d_makeBox_34 (by decide) ?_
          exact ih13 (i12 + 1) (j44) _ _ _ (by omega) (by omega) (by omega)  Y (lv_sub hl [0, 1, 2, 3] rfl)
      exact lp14 254 0 (1) _ _ _ (by omega) (by omega) (by omega)  Y (lv_sub hl [0, 1, 2, 3] rfl)
  exact lp4 256 0 B _ _ _ (by omega) (by omega) (fun j h12 h13 => rfl) (show by8 (B 12) from y12) (show by8 (B 13) from y13)  Y (lv_sub hl [0, 1] rfl)
