abbrev b_M_cover : ByteArray := prog_14_method_21_code
def y_M_cover : MethodName := ⟨R_M, "cover", "()V"⟩
abbrev k_M_cover : Cond := .code y_M_cover b_M_cover 6 none
theorem ki_M_cover : k_M_cover ∈ lw_tg := in_t 1867 (by decide +kernel)
theorem ks_M_cover : Cond.instanceMethod y_M_cover ∈ lw_tg := in_t 1866 (by decide +kernel)
theorem kx_M_cover : Cond.selects R_M y_M_cover y_M_cover ∈ lw_tg := List.mem_filter.mpr ⟨List.mem_append_left _ (List.mem_of_getElem? (i := 91) (by decide +kernel)), rfl⟩
theorem kl_M_cover : Cond.methodLink R_M 411 y_M_cover ∈ lw_tg := in_t 1864 (by decide +kernel)
theorem hd_M_cover : y_M_cover.cls = R_M ∧ y_M_cover.cls ≠ "java/lang/invoke/MethodHandle" ∧ y_M_cover.cls ≠ "java/lang/invoke/VarHandle" ∧ (parseMethodDescriptor y_M_cover.desc).map (fun d => d.parameters.length) = some 0 := by decide +kernel
theorem d_M_cover_0 : decode b_M_cover 0 = .ok (.aload_n 0, 1) := by decide +kernel
theorem d_M_cover_1 : decode b_M_cover 1 = .ok (.iconst 0, 1) := by decide +kernel
theorem d_M_cover_2 : decode b_M_cover 2 = .ok (.invokevirtual 401, 3) := by decide +kernel
theorem d_M_cover_5 : decode b_M_cover 5 = .ok (.iconst 1, 1) := by decide +kernel
theorem d_M_cover_6 : decode b_M_cover 6 = .ok (.istore_n 1, 1) := by decide +kernel
theorem d_M_cover_7 : decode b_M_cover 7 = .ok (.iload_n 1, 1) := by decide +kernel
theorem d_M_cover_8 : decode b_M_cover 8 = .ok (.aload_n 0, 1) := by decide +kernel
theorem d_M_cover_9 : decode b_M_cover 9 = .ok (.getfield 395, 3) := by decide +kernel
theorem d_M_cover_12 : decode b_M_cover 12 = .ok (.if_icmp .gt 166, 3) := by decide +kernel
theorem d_M_cover_15 : decode b_M_cover 15 = .ok (.iconst 0, 1) := by decide +kernel
theorem d_M_cover_16 : decode b_M_cover 16 = .ok (.istore_n 2, 1) := by decide +kernel
theorem d_M_cover_17 : decode b_M_cover 17 = .ok (.iload_n 2, 1) := by decide +kernel
theorem d_M_cover_18 : decode b_M_cover 18 = .ok (.bipush 16, 2) := by decide +kernel
theorem d_M_cover_20 : decode b_M_cover 20 = .ok (.if_icmp .ge 35, 3) := by decide +kernel
theorem d_M_cover_23 : decode b_M_cover 23 = .ok (.aload_n 0, 1) := by decide +kernel
theorem d_M_cover_24 : decode b_M_cover 24 = .ok (.getfield 53, 3) := by decide +kernel
theorem d_M_cover_27 : decode b_M_cover 27 = .ok (.iload_n 2, 1) := by decide +kernel
theorem d_M_cover_28 : decode b_M_cover 28 = .ok (.aload_n 0, 1) := by decide +kernel
theorem d_M_cover_29 : decode b_M_cover 29 = .ok (.getfield 41, 3) := by decide +kernel
theorem d_M_cover_32 : decode b_M_cover 32 = .ok (.aload_n 0, 1) := by decide +kernel
theorem d_M_cover_33 : decode b_M_cover 33 = .ok (.getfield 50, 3) := by decide +kernel
theorem d_M_cover_36 : decode b_M_cover 36 = .ok (.iload_n 2, 1) := by decide +kernel
theorem d_M_cover_37 : decode b_M_cover 37 = .ok (.iconst 4, 1) := by decide +kernel
theorem d_M_cover_38 : decode b_M_cover 38 = .ok (.iload_n 2, 1) := by decide +kernel
theorem d_M_cover_39 : decode b_M_cover 39 = .ok (.iconst 4, 1) := by decide +kernel
theorem d_M_cover_40 : decode b_M_cover 40 = .ok (.irem, 1) := by decide +kernel
theorem d_M_cover_41 : decode b_M_cover 41 = .ok (.imul, 1) := by decide +kernel
theorem d_M_cover_42 : decode b_M_cover 42 = .ok (.iadd, 1) := by decide +kernel
theorem d_M_cover_43 : decode b_M_cover 43 = .ok (.bipush 16, 2) := by decide +kernel
theorem d_M_cover_45 : decode b_M_cover 45 = .ok (.irem, 1) := by decide +kernel
theorem d_M_cover_46 : decode b_M_cover 46 = .ok (.iaload, 1) := by decide +kernel
theorem d_M_cover_47 : decode b_M_cover 47 = .ok (.iaload, 1) := by decide +kernel
theorem d_M_cover_48 : decode b_M_cover 48 = .ok (.iastore, 1) := by decide +kernel
theorem d_M_cover_49 : decode b_M_cover 49 = .ok (.iinc 2 1, 3) := by decide +kernel
theorem d_M_cover_52 : decode b_M_cover 52 = .ok (.goto (-35), 3) := by decide +kernel
theorem d_M_cover_55 : decode b_M_cover 55 = .ok (.iconst 0, 1) := by decide +kernel
theorem d_M_cover_56 : decode b_M_cover 56 = .ok (.istore_n 2, 1) := by decide +kernel
theorem d_M_cover_57 : decode b_M_cover 57 = .ok (.iload_n 2, 1) := by decide +kernel
theorem d_M_cover_58 : decode b_M_cover 58 = .ok (.bipush 16, 2) := by decide +kernel
theorem d_M_cover_60 : decode b_M_cover 60 = .ok (.if_icmp .ge 107, 3) := by decide +kernel
theorem d_M_cover_63 : decode b_M_cover 63 = .ok (.iconst 0, 1) := by decide +kernel
theorem d_M_cover_64 : decode b_M_cover 64 = .ok (.istore_n 3, 1) := by decide +kernel
theorem d_M_cover_65 : decode b_M_cover 65 = .ok (.iload_n 3, 1) := by decide +kernel
theorem d_M_cover_66 : decode b_M_cover 66 = .ok (.iconst 4, 1) := by decide +kernel
theorem d_M_cover_67 : decode b_M_cover 67 = .ok (.if_icmp .ge 94, 3) := by decide +kernel
theorem d_M_cover_70 : decode b_M_cover 70 = .ok (.aload_n 0, 1) := by decide +kernel
theorem d_M_cover_71 : decode b_M_cover 71 = .ok (.getfield 53, 3) := by decide +kernel
theorem d_M_cover_74 : decode b_M_cover 74 = .ok (.iload_n 2, 1) := by decide +kernel
theorem d_M_cover_75 : decode b_M_cover 75 = .ok (.iload_n 3, 1) := by decide +kernel
theorem d_M_cover_76 : decode b_M_cover 76 = .ok (.iadd, 1) := by decide +kernel
theorem d_M_cover_77 : decode b_M_cover 77 = .ok (.iaload, 1) := by decide +kernel
theorem d_M_cover_78 : decode b_M_cover 78 = .ok (.istore 4, 2) := by decide +kernel
theorem d_M_cover_80 : decode b_M_cover 80 = .ok (.aload_n 0, 1) := by decide +kernel
theorem d_M_cover_81 : decode b_M_cover 81 = .ok (.getfield 53, 3) := by decide +kernel
theorem d_M_cover_84 : decode b_M_cover 84 = .ok (.iload_n 2, 1) := by decide +kernel
theorem d_M_cover_85 : decode b_M_cover 85 = .ok (.iload_n 3, 1) := by decide +kernel
theorem d_M_cover_86 : decode b_M_cover 86 = .ok (.iconst 1, 1) := by decide +kernel
theorem d_M_cover_87 : decode b_M_cover 87 = .ok (.iadd, 1) := by decide +kernel
theorem d_M_cover_88 : decode b_M_cover 88 = .ok (.iconst 4, 1) := by decide +kernel
theorem d_M_cover_89 : decode b_M_cover 89 = .ok (.irem, 1) := by decide +kernel
theorem d_M_cover_90 : decode b_M_cover 90 = .ok (.iadd, 1) := by decide +kernel
theorem d_M_cover_91 : decode b_M_cover 91 = .ok (.iaload, 1) := by decide +kernel
theorem d_M_cover_92 : decode b_M_cover 92 = .ok (.istore 5, 2) := by decide +kernel
theorem d_M_cover_94 : decode b_M_cover 94 = .ok (.aload_n 0, 1) := by decide +kernel
theorem d_M_cover_95 : decode b_M_cover 95 = .ok (.getfield 50, 3) := by decide +kernel
theorem d_M_cover_98 : decode b_M_cover 98 = .ok (.iload_n 2, 1) := by decide +kernel
theorem d_M_cover_99 : decode b_M_cover 99 = .ok (.iload_n 3, 1) := by decide +kernel
theorem d_M_cover_100 : decode b_M_cover 100 = .ok (.iadd, 1) := by decide +kernel
theorem d_M_cover_101 : decode b_M_cover 101 = .ok (.iload_n 1, 1) := by decide +kernel
theorem d_M_cover_102 : decode b_M_cover 102 = .ok (.aload_n 0, 1) := by decide +kernel
theorem d_M_cover_103 : decode b_M_cover 103 = .ok (.getfield 395, 3) := by decide +kernel
theorem d_M_cover_106 : decode b_M_cover 106 = .ok (.if_icmp .ne 8, 3) := by decide +kernel
theorem d_M_cover_109 : decode b_M_cover 109 = .ok (.iload 4, 2) := by decide +kernel
theorem d_M_cover_111 : decode b_M_cover 111 = .ok (.goto 43, 3) := by decide +kernel
theorem d_M_cover_114 : decode b_M_cover 114 = .ok (.iload 4, 2) := by decide +kernel
theorem d_M_cover_116 : decode b_M_cover 116 = .ok (.invokestatic 381, 3) := by decide +kernel
theorem d_M_cover_119 : decode b_M_cover 119 = .ok (.iload 5, 2) := by decide +kernel
theorem d_M_cover_121 : decode b_M_cover 121 = .ok (.invokestatic 381, 3) := by decide +kernel
theorem d_M_cover_124 : decode b_M_cover 124 = .ok (.ixor, 1) := by decide +kernel
theorem d_M_cover_125 : decode b_M_cover 125 = .ok (.iload 5, 2) := by decide +kernel
theorem d_M_cover_127 : decode b_M_cover 127 = .ok (.ixor, 1) := by decide +kernel
theorem d_M_cover_128 : decode b_M_cover 128 = .ok (.aload_n 0, 1) := by decide +kernel
theorem d_M_cover_129 : decode b_M_cover 129 = .ok (.getfield 53, 3) := by decide +kernel
theorem d_M_cover_132 : decode b_M_cover 132 = .ok (.iload_n 2, 1) := by decide +kernel
theorem d_M_cover_133 : decode b_M_cover 133 = .ok (.iload_n 3, 1) := by decide +kernel
theorem d_M_cover_134 : decode b_M_cover 134 = .ok (.iconst 2, 1) := by decide +kernel
theorem d_M_cover_135 : decode b_M_cover 135 = .ok (.iadd, 1) := by decide +kernel
theorem d_M_cover_136 : decode b_M_cover 136 = .ok (.iconst 4, 1) := by decide +kernel
theorem d_M_cover_137 : decode b_M_cover 137 = .ok (.irem, 1) := by decide +kernel
theorem d_M_cover_138 : decode b_M_cover 138 = .ok (.iadd, 1) := by decide +kernel
theorem d_M_cover_139 : decode b_M_cover 139 = .ok (.iaload, 1) := by decide +kernel
theorem d_M_cover_140 : decode b_M_cover 140 = .ok (.ixor, 1) := by decide +kernel
theorem d_M_cover_141 : decode b_M_cover 141 = .ok (.aload_n 0, 1) := by decide +kernel
theorem d_M_cover_142 : decode b_M_cover 142 = .ok (.getfield 53, 3) := by decide +kernel
theorem d_M_cover_145 : decode b_M_cover 145 = .ok (.iload_n 2, 1) := by decide +kernel
theorem d_M_cover_146 : decode b_M_cover 146 = .ok (.iload_n 3, 1) := by decide +kernel
theorem d_M_cover_147 : decode b_M_cover 147 = .ok (.iconst 3, 1) := by decide +kernel
theorem d_M_cover_148 : decode b_M_cover 148 = .ok (.iadd, 1) := by decide +kernel
theorem d_M_cover_149 : decode b_M_cover 149 = .ok (.iconst 4, 1) := by decide +kernel
theorem d_M_cover_150 : decode b_M_cover 150 = .ok (.irem, 1) := by decide +kernel
theorem d_M_cover_151 : decode b_M_cover 151 = .ok (.iadd, 1) := by decide +kernel
theorem d_M_cover_152 : decode b_M_cover 152 = .ok (.iaload, 1) := by decide +kernel
theorem d_M_cover_153 : decode b_M_cover 153 = .ok (.ixor, 1) := by decide +kernel
theorem d_M_cover_154 : decode b_M_cover 154 = .ok (.iastore, 1) := by decide +kernel
theorem d_M_cover_155 : decode b_M_cover 155 = .ok (.iinc 3 1, 3) := by decide +kernel
theorem d_M_cover_158 : decode b_M_cover 158 = .ok (.goto (-93), 3) := by decide +kernel
theorem d_M_cover_161 : decode b_M_cover 161 = .ok (.iinc 2 4, 3) := by decide +kernel
theorem d_M_cover_164 : decode b_M_cover 164 = .ok (.goto (-107), 3) := by decide +kernel
theorem d_M_cover_167 : decode b_M_cover 167 = .ok (.aload_n 0, 1) := by decide +kernel
theorem d_M_cover_168 : decode b_M_cover 168 = .ok (.iload_n 1, 1) := by decide +kernel
theorem d_M_cover_169 : decode b_M_cover 169 = .ok (.invokevirtual 401, 3) := by decide +kernel
theorem d_M_cover_172 : decode b_M_cover 172 = .ok (.iinc 1 1, 3) := by decide +kernel
theorem d_M_cover_175 : decode b_M_cover 175 = .ok (.goto (-168), 3) := by decide +kernel
theorem d_M_cover_178 : decode b_M_cover 178 = .ok (.return_, 1) := by decide +kernel
abbrev b_M_uncover : ByteArray := prog_14_method_22_code
def y_M_uncover : MethodName := ⟨R_M, "uncover", "()V"⟩
abbrev k_M_uncover : Cond := .code y_M_uncover b_M_uncover 8 none
theorem ki_M_uncover : k_M_uncover ∈ lw_tg := in_t 2525 (by decide +kernel)
theorem ks_M_uncover : Cond.instanceMethod y_M_uncover ∈ lw_tg := in_t 2524 (by decide +kernel)
theorem kx_M_uncover : Cond.selects R_M y_M_uncover y_M_uncover ∈ lw_tg := List.mem_filter.mpr ⟨List.mem_append_left _ (List.mem_of_getElem? (i := 125) (by decide +kernel)), rfl⟩
theorem kl_M_uncover : Cond.methodLink R_M 450 y_M_uncover ∈ lw_tg := in_t 2522 (by decide +kernel)
theorem hd_M_uncover : y_M_uncover.cls = R_M ∧ y_M_uncover.cls ≠ "java/lang/invoke/MethodHandle" ∧ y_M_uncover.cls ≠ "java/lang/invoke/VarHandle" ∧ (parseMethodDescriptor y_M_uncover.desc).map (fun d => d.parameters.length) = some 0 := by decide +kernel
theorem d_M_uncover_0 : decode b_M_uncover 0 = .ok (.aload_n 0, 1) := by decide +kernel
theorem d_M_uncover_1 : decode b_M_uncover 1 = .ok (.getfield 395, 3) := by decide +kernel
theorem d_M_uncover_4 : decode b_M_uncover 4 = .ok (.istore_n 1, 1) := by decide +kernel
theorem d_M_uncover_5 : decode b_M_uncover 5 = .ok (.iload_n 1, 1) := by decide +kernel
theorem d_M_uncover_6 : decode b_M_uncover 6 = .ok (.ifCond .le 185, 3) := by decide +kernel
theorem d_M_uncover_9 : decode b_M_uncover 9 = .ok (.aload_n 0, 1) := by decide +kernel
theorem d_M_uncover_10 : decode b_M_uncover 10 = .ok (.iload_n 1, 1) := by decide +kernel
theorem d_M_uncover_11 : decode b_M_uncover 11 = .ok (.invokevirtual 401, 3) := by decide +kernel
theorem d_M_uncover_14 : decode b_M_uncover 14 = .ok (.iconst 0, 1) := by decide +kernel
theorem d_M_uncover_15 : decode b_M_uncover 15 = .ok (.istore_n 2, 1) := by decide +kernel
theorem d_M_uncover_16 : decode b_M_uncover 16 = .ok (.iload_n 2, 1) := by decide +kernel
theorem d_M_uncover_17 : decode b_M_uncover 17 = .ok (.bipush 16, 2) := by decide +kernel
theorem d_M_uncover_19 : decode b_M_uncover 19 = .ok (.if_icmp .ge 126, 3) := by decide +kernel
theorem d_M_uncover_22 : decode b_M_uncover 22 = .ok (.iconst 0, 1) := by decide +kernel
theorem d_M_uncover_23 : decode b_M_uncover 23 = .ok (.istore_n 3, 1) := by decide +kernel
theorem d_M_uncover_24 : decode b_M_uncover 24 = .ok (.iload_n 3, 1) := by decide +kernel
theorem d_M_uncover_25 : decode b_M_uncover 25 = .ok (.iconst 4, 1) := by decide +kernel
theorem d_M_uncover_26 : decode b_M_uncover 26 = .ok (.if_icmp .ge 113, 3) := by decide +kernel
theorem d_M_uncover_29 : decode b_M_uncover 29 = .ok (.aload_n 0, 1) := by decide +kernel
theorem d_M_uncover_30 : decode b_M_uncover 30 = .ok (.getfield 50, 3) := by decide +kernel
theorem d_M_uncover_33 : decode b_M_uncover 33 = .ok (.iload_n 2, 1) := by decide +kernel
theorem d_M_uncover_34 : decode b_M_uncover 34 = .ok (.iload_n 3, 1) := by decide +kernel
theorem d_M_uncover_35 : decode b_M_uncover 35 = .ok (.iadd, 1) := by decide +kernel
theorem d_M_uncover_36 : decode b_M_uncover 36 = .ok (.iaload, 1) := by decide +kernel
theorem d_M_uncover_37 : decode b_M_uncover 37 = .ok (.istore 4, 2) := by decide +kernel
theorem d_M_uncover_39 : decode b_M_uncover 39 = .ok (.aload_n 0, 1) := by decide +kernel
theorem d_M_uncover_40 : decode b_M_uncover 40 = .ok (.getfield 50, 3) := by decide +kernel
theorem d_M_uncover_43 : decode b_M_uncover 43 = .ok (.iload_n 2, 1) := by decide +kernel
theorem d_M_uncover_44 : decode b_M_uncover 44 = .ok (.iload_n 3, 1) := by decide +kernel
theorem d_M_uncover_45 : decode b_M_uncover 45 = .ok (.iconst 1, 1) := by decide +kernel
theorem d_M_uncover_46 : decode b_M_uncover 46 = .ok (.iadd, 1) := by decide +kernel
theorem d_M_uncover_47 : decode b_M_uncover 47 = .ok (.iconst 4, 1) := by decide +kernel
theorem d_M_uncover_48 : decode b_M_uncover 48 = .ok (.irem, 1) := by decide +kernel
theorem d_M_uncover_49 : decode b_M_uncover 49 = .ok (.iadd, 1) := by decide +kernel
theorem d_M_uncover_50 : decode b_M_uncover 50 = .ok (.iaload, 1) := by decide +kernel
theorem d_M_uncover_51 : decode b_M_uncover 51 = .ok (.istore 5, 2) := by decide +kernel
theorem d_M_uncover_53 : decode b_M_uncover 53 = .ok (.aload_n 0, 1) := by decide +kernel
theorem d_M_uncover_54 : decode b_M_uncover 54 = .ok (.getfield 50, 3) := by decide +kernel
theorem d_M_uncover_57 : decode b_M_uncover 57 = .ok (.iload_n 2, 1) := by decide +kernel
theorem d_M_uncover_58 : decode b_M_uncover 58 = .ok (.iload_n 3, 1) := by decide +kernel
theorem d_M_uncover_59 : decode b_M_uncover 59 = .ok (.iconst 2, 1) := by decide +kernel
theorem d_M_uncover_60 : decode b_M_uncover 60 = .ok (.iadd, 1) := by decide +kernel
theorem d_M_uncover_61 : decode b_M_uncover 61 = .ok (.iconst 4, 1) := by decide +kernel
theorem d_M_uncover_62 : decode b_M_uncover 62 = .ok (.irem, 1) := by decide +kernel
theorem d_M_uncover_63 : decode b_M_uncover 63 = .ok (.iadd, 1) := by decide +kernel
theorem d_M_uncover_64 : decode b_M_uncover 64 = .ok (.iaload, 1) := by decide +kernel
theorem d_M_uncover_65 : decode b_M_uncover 65 = .ok (.istore 6, 2) := by decide +kernel
theorem d_M_uncover_67 : decode b_M_uncover 67 = .ok (.aload_n 0, 1) := by decide +kernel
theorem d_M_uncover_68 : decode b_M_uncover 68 = .ok (.getfield 50, 3) := by decide +kernel
theorem d_M_uncover_71 : decode b_M_uncover 71 = .ok (.iload_n 2, 1) := by decide +kernel
theorem d_M_uncover_72 : decode b_M_uncover 72 = .ok (.iload_n 3, 1) := by decide +kernel
theorem d_M_uncover_73 : decode b_M_uncover 73 = .ok (.iconst 3, 1) := by decide +kernel
theorem d_M_uncover_74 : decode b_M_uncover 74 = .ok (.iadd, 1) := by decide +kernel
theorem d_M_uncover_75 : decode b_M_uncover 75 = .ok (.iconst 4, 1) := by decide +kernel
theorem d_M_uncover_76 : decode b_M_uncover 76 = .ok (.irem, 1) := by decide +kernel
theorem d_M_uncover_77 : decode b_M_uncover 77 = .ok (.iadd, 1) := by decide +kernel
theorem d_M_uncover_78 : decode b_M_uncover 78 = .ok (.iaload, 1) := by decide +kernel
theorem d_M_uncover_79 : decode b_M_uncover 79 = .ok (.istore 7, 2) := by decide +kernel
theorem d_M_uncover_81 : decode b_M_uncover 81 = .ok (.aload_n 0, 1) := by decide +kernel
theorem d_M_uncover_82 : decode b_M_uncover 82 = .ok (.getfield 53, 3) := by decide +kernel
theorem d_M_uncover_85 : decode b_M_uncover 85 = .ok (.iload_n 2, 1) := by decide +kernel
theorem d_M_uncover_86 : decode b_M_uncover 86 = .ok (.iload_n 3, 1) := by decide +kernel
theorem d_M_uncover_87 : decode b_M_uncover 87 = .ok (.iadd, 1) := by decide +kernel
theorem d_M_uncover_88 : decode b_M_uncover 88 = .ok (.iload_n 1, 1) := by decide +kernel
theorem d_M_uncover_89 : decode b_M_uncover 89 = .ok (.aload_n 0, 1) := by decide +kernel
theorem d_M_uncover_90 : decode b_M_uncover 90 = .ok (.getfield 395, 3) := by decide +kernel
theorem d_M_uncover_93 : decode b_M_uncover 93 = .ok (.if_icmp .ne 8, 3) := by decide +kernel
theorem d_M_uncover_96 : decode b_M_uncover 96 = .ok (.iload 4, 2) := by decide +kernel
theorem d_M_uncover_98 : decode b_M_uncover 98 = .ok (.goto 34, 3) := by decide +kernel
theorem d_M_uncover_101 : decode b_M_uncover 101 = .ok (.iload 4, 2) := by decide +kernel
theorem d_M_uncover_103 : decode b_M_uncover 103 = .ok (.bipush 14, 2) := by decide +kernel
theorem d_M_uncover_105 : decode b_M_uncover 105 = .ok (.invokestatic 389, 3) := by decide +kernel
theorem d_M_uncover_108 : decode b_M_uncover 108 = .ok (.iload 5, 2) := by decide +kernel
theorem d_M_uncover_110 : decode b_M_uncover 110 = .ok (.bipush 11, 2) := by decide +kernel
theorem d_M_uncover_112 : decode b_M_uncover 112 = .ok (.invokestatic 389, 3) := by decide +kernel
theorem d_M_uncover_115 : decode b_M_uncover 115 = .ok (.ixor, 1) := by decide +kernel
theorem d_M_uncover_116 : decode b_M_uncover 116 = .ok (.iload 6, 2) := by decide +kernel
theorem d_M_uncover_118 : decode b_M_uncover 118 = .ok (.bipush 13, 2) := by decide +kernel
theorem d_M_uncover_120 : decode b_M_uncover 120 = .ok (.invokestatic 389, 3) := by decide +kernel
theorem d_M_uncover_123 : decode b_M_uncover 123 = .ok (.ixor, 1) := by decide +kernel
theorem d_M_uncover_124 : decode b_M_uncover 124 = .ok (.iload 7, 2) := by decide +kernel
theorem d_M_uncover_126 : decode b_M_uncover 126 = .ok (.bipush 9, 2) := by decide +kernel
theorem d_M_uncover_128 : decode b_M_uncover 128 = .ok (.invokestatic 389, 3) := by decide +kernel
theorem d_M_uncover_131 : decode b_M_uncover 131 = .ok (.ixor, 1) := by decide +kernel
theorem d_M_uncover_132 : decode b_M_uncover 132 = .ok (.iastore, 1) := by decide +kernel
theorem d_M_uncover_133 : decode b_M_uncover 133 = .ok (.iinc 3 1, 3) := by decide +kernel
theorem d_M_uncover_136 : decode b_M_uncover 136 = .ok (.goto (-112), 3) := by decide +kernel
theorem d_M_uncover_139 : decode b_M_uncover 139 = .ok (.iinc 2 4, 3) := by decide +kernel
theorem d_M_uncover_142 : decode b_M_uncover 142 = .ok (.goto (-126), 3) := by decide +kernel
theorem d_M_uncover_145 : decode b_M_uncover 145 = .ok (.iconst 0, 1) := by decide +kernel
theorem d_M_uncover_146 : decode b_M_uncover 146 = .ok (.istore_n 2, 1) := by decide +kernel
theorem d_M_uncover_147 : decode b_M_uncover 147 = .ok (.iload_n 2, 1) := by decide +kernel
theorem d_M_uncover_148 : decode b_M_uncover 148 = .ok (.bipush 16, 2) := by decide +kernel
theorem d_M_uncover_150 : decode b_M_uncover 150 = .ok (.if_icmp .ge 35, 3) := by decide +kernel
theorem d_M_uncover_153 : decode b_M_uncover 153 = .ok (.aload_n 0, 1) := by decide +kernel
theorem d_M_uncover_154 : decode b_M_uncover 154 = .ok (.getfield 50, 3) := by decide +kernel
theorem d_M_uncover_157 : decode b_M_uncover 157 = .ok (.iload_n 2, 1) := by decide +kernel
theorem d_M_uncover_158 : decode b_M_uncover 158 = .ok (.iconst 4, 1) := by decide +kernel
theorem d_M_uncover_159 : decode b_M_uncover 159 = .ok (.iload_n 2, 1) := by decide +kernel
theorem d_M_uncover_160 : decode b_M_uncover 160 = .ok (.iconst 4, 1) := by decide +kernel
theorem d_M_uncover_161 : decode b_M_uncover 161 = .ok (.irem, 1) := by decide +kernel
theorem d_M_uncover_162 : decode b_M_uncover 162 = .ok (.imul, 1) := by decide +kernel
theorem d_M_uncover_163 : decode b_M_uncover 163 = .ok (.iadd, 1) := by decide +kernel
theorem d_M_uncover_164 : decode b_M_uncover 164 = .ok (.bipush 16, 2) := by decide +kernel
theorem d_M_uncover_166 : decode b_M_uncover 166 = .ok (.irem, 1) := by decide +kernel
theorem d_M_uncover_167 : decode b_M_uncover 167 = .ok (.aload_n 0, 1) := by decide +kernel
theorem d_M_uncover_168 : decode b_M_uncover 168 = .ok (.getfield 44, 3) := by decide +kernel
theorem d_M_uncover_171 : decode b_M_uncover 171 = .ok (.aload_n 0, 1) := by decide +kernel
theorem d_M_uncover_172 : decode b_M_uncover 172 = .ok (.getfield 53, 3) := by decide +kernel
theorem d_M_uncover_175 : decode b_M_uncover 175 = .ok (.iload_n 2, 1) := by decide +kernel
theorem d_M_uncover_176 : decode b_M_uncover 176 = .ok (.iaload, 1) := by decide +kernel
theorem d_M_uncover_177 : decode b_M_uncover 177 = .ok (.iaload, 1) := by decide +kernel
theorem d_M_uncover_178 : decode b_M_uncover 178 = .ok (.iastore, 1) := by decide +kernel
theorem d_M_uncover_179 : decode b_M_uncover 179 = .ok (.iinc 2 1, 3) := by decide +kernel
theorem d_M_uncover_182 : decode b_M_uncover 182 = .ok (.goto (-35), 3) := by decide +kernel
theorem d_M_uncover_185 : decode b_M_uncover 185 = .ok (.iinc 1 (-1), 3) := by decide +kernel
theorem d_M_uncover_188 : decode b_M_uncover 188 = .ok (.goto (-183), 3) := by decide +kernel
theorem d_M_uncover_191 : decode b_M_uncover 191 = .ok (.aload_n 0, 1) := by decide +kernel
theorem d_M_uncover_192 : decode b_M_uncover 192 = .ok (.iconst 0, 1) := by decide +kernel
theorem d_M_uncover_193 : decode b_M_uncover 193 = .ok (.invokevirtual 401, 3) := by decide +kernel
theorem d_M_uncover_196 : decode b_M_uncover 196 = .ok (.return_, 1) := by decide +kernel
abbrev b_M_foldOf : ByteArray := prog_14_method_23_code
def y_M_foldOf : MethodName := ⟨R_M, "foldOf", "([BI)V"⟩
abbrev k_M_foldOf : Cond := .code y_M_foldOf b_M_foldOf 11 none
theorem ki_M_foldOf : k_M_foldOf ∈ lw_tg := in_t 1845 (by decide +kernel)
theorem ks_M_foldOf : Cond.instanceMethod y_M_foldOf ∈ lw_tg := in_t 1844 (by decide +kernel)
theorem kx_M_foldOf : Cond.selects R_M y_M_foldOf y_M_foldOf ∈ lw_tg := List.mem_filter.mpr ⟨List.mem_append_left _ (List.mem_of_getElem? (i := 87) (by decide +kernel)), rfl⟩
theorem kl_M_foldOf : Cond.methodLink R_M 404 y_M_foldOf ∈ lw_tg := in_t 1842 (by decide +kernel)
theorem hd_M_foldOf : y_M_foldOf.cls = R_M ∧ y_M_foldOf.cls ≠ "java/lang/invoke/MethodHandle" ∧ y_M_foldOf.cls ≠ "java/lang/invoke/VarHandle" ∧ (parseMethodDescriptor y_M_foldOf.desc).map (fun d => d.parameters.length) = some 2 := by decide +kernel
theorem d_M_foldOf_0 : decode b_M_foldOf 0 = .ok (.iload_n 2, 1) := by decide +kernel
theorem d_M_foldOf_1 : decode b_M_foldOf 1 = .ok (.istore_n 3, 1) := by decide +kernel
theorem d_M_foldOf_2 : decode b_M_foldOf 2 = .ok (.iload_n 3, 1) := by decide +kernel
theorem d_M_foldOf_3 : decode b_M_foldOf 3 = .ok (.bipush 16, 2) := by decide +kernel
theorem d_M_foldOf_5 : decode b_M_foldOf 5 = .ok (.irem, 1) := by decide +kernel
theorem d_M_foldOf_6 : decode b_M_foldOf 6 = .ok (.ifCond .eq 10, 3) := by decide +kernel
theorem d_M_foldOf_9 : decode b_M_foldOf 9 = .ok (.iload_n 3, 1) := by decide +kernel
theorem d_M_foldOf_10 : decode b_M_foldOf 10 = .ok (.iload_n 2, 1) := by decide +kernel
theorem d_M_foldOf_11 : decode b_M_foldOf 11 = .ok (.iadd, 1) := by decide +kernel
theorem d_M_foldOf_12 : decode b_M_foldOf 12 = .ok (.istore_n 3, 1) := by decide +kernel
theorem d_M_foldOf_13 : decode b_M_foldOf 13 = .ok (.goto (-11), 3) := by decide +kernel
theorem d_M_foldOf_16 : decode b_M_foldOf 16 = .ok (.aload_n 0, 1) := by decide +kernel
theorem d_M_foldOf_17 : decode b_M_foldOf 17 = .ok (.getfield 62, 3) := by decide +kernel
theorem d_M_foldOf_20 : decode b_M_foldOf 20 = .ok (.astore 4, 2) := by decide +kernel
theorem d_M_foldOf_22 : decode b_M_foldOf 22 = .ok (.iconst 0, 1) := by decide +kernel
theorem d_M_foldOf_23 : decode b_M_foldOf 23 = .ok (.istore 5, 2) := by decide +kernel
theorem d_M_foldOf_25 : decode b_M_foldOf 25 = .ok (.iload 5, 2) := by decide +kernel
theorem d_M_foldOf_27 : decode b_M_foldOf 27 = .ok (.bipush 16, 2) := by decide +kernel
theorem d_M_foldOf_29 : decode b_M_foldOf 29 = .ok (.if_icmp .ge 15, 3) := by decide +kernel
theorem d_M_foldOf_32 : decode b_M_foldOf 32 = .ok (.aload 4, 2) := by decide +kernel
theorem d_M_foldOf_34 : decode b_M_foldOf 34 = .ok (.iload 5, 2) := by decide +kernel
theorem d_M_foldOf_36 : decode b_M_foldOf 36 = .ok (.iconst 0, 1) := by decide +kernel
theorem d_M_foldOf_37 : decode b_M_foldOf 37 = .ok (.iastore, 1) := by decide +kernel
theorem d_M_foldOf_38 : decode b_M_foldOf 38 = .ok (.iinc 5 1, 3) := by decide +kernel
theorem d_M_foldOf_41 : decode b_M_foldOf 41 = .ok (.goto (-16), 3) := by decide +kernel
theorem d_M_foldOf_44 : decode b_M_foldOf 44 = .ok (.iconst 0, 1) := by decide +kernel
theorem d_M_foldOf_45 : decode b_M_foldOf 45 = .ok (.istore 5, 2) := by decide +kernel
theorem d_M_foldOf_47 : decode b_M_foldOf 47 = .ok (.iload 5, 2) := by decide +kernel
theorem d_M_foldOf_49 : decode b_M_foldOf 49 = .ok (.iload_n 3, 1) := by decide +kernel
theorem d_M_foldOf_50 : decode b_M_foldOf 50 = .ok (.if_icmp .ge 109, 3) := by decide +kernel
theorem d_M_foldOf_53 : decode b_M_foldOf 53 = .ok (.iload 5, 2) := by decide +kernel
theorem d_M_foldOf_55 : decode b_M_foldOf 55 = .ok (.iload_n 2, 1) := by decide +kernel
theorem d_M_foldOf_56 : decode b_M_foldOf 56 = .ok (.idiv, 1) := by decide +kernel
theorem d_M_foldOf_57 : decode b_M_foldOf 57 = .ok (.istore 6, 2) := by decide +kernel
theorem d_M_foldOf_59 : decode b_M_foldOf 59 = .ok (.bipush 13, 2) := by decide +kernel
theorem d_M_foldOf_61 : decode b_M_foldOf 61 = .ok (.iload 6, 2) := by decide +kernel
theorem d_M_foldOf_63 : decode b_M_foldOf 63 = .ok (.imul, 1) := by decide +kernel
theorem d_M_foldOf_64 : decode b_M_foldOf 64 = .ok (.bipush 8, 2) := by decide +kernel
theorem d_M_foldOf_66 : decode b_M_foldOf 66 = .ok (.iload_n 2, 1) := by decide +kernel
theorem d_M_foldOf_67 : decode b_M_foldOf 67 = .ok (.imul, 1) := by decide +kernel
theorem d_M_foldOf_68 : decode b_M_foldOf 68 = .ok (.irem, 1) := by decide +kernel
theorem d_M_foldOf_69 : decode b_M_foldOf 69 = .ok (.istore 7, 2) := by decide +kernel
theorem d_M_foldOf_71 : decode b_M_foldOf 71 = .ok (.iconst 0, 1) := by decide +kernel
theorem d_M_foldOf_72 : decode b_M_foldOf 72 = .ok (.istore 8, 2) := by decide +kernel
theorem d_M_foldOf_74 : decode b_M_foldOf 74 = .ok (.iconst 0, 1) := by decide +kernel
theorem d_M_foldOf_75 : decode b_M_foldOf 75 = .ok (.istore 9, 2) := by decide +kernel
theorem d_M_foldOf_77 : decode b_M_foldOf 77 = .ok (.iload 9, 2) := by decide +kernel
theorem d_M_foldOf_79 : decode b_M_foldOf 79 = .ok (.bipush 8, 2) := by decide +kernel
theorem d_M_foldOf_81 : decode b_M_foldOf 81 = .ok (.if_icmp .ge 59, 3) := by decide +kernel
theorem d_M_foldOf_84 : decode b_M_foldOf 84 = .ok (.bipush 8, 2) := by decide +kernel
theorem d_M_foldOf_86 : decode b_M_foldOf 86 = .ok (.iload 5, 2) := by decide +kernel
theorem d_M_foldOf_88 : decode b_M_foldOf 88 = .ok (.iload_n 2, 1) := by decide +kernel
theorem d_M_foldOf_89 : decode b_M_foldOf 89 = .ok (.irem, 1) := by decide +kernel
theorem d_M_foldOf_90 : decode b_M_foldOf 90 = .ok (.imul, 1) := by decide +kernel
theorem d_M_foldOf_91 : decode b_M_foldOf 91 = .ok (.iload 9, 2) := by decide +kernel
theorem d_M_foldOf_93 : decode b_M_foldOf 93 = .ok (.iadd, 1) := by decide +kernel
theorem d_M_foldOf_94 : decode b_M_foldOf 94 = .ok (.iload 7, 2) := by decide +kernel
theorem d_M_foldOf_96 : decode b_M_foldOf 96 = .ok (.isub, 1) := by decide +kernel
theorem d_M_foldOf_97 : decode b_M_foldOf 97 = .ok (.bipush 8, 2) := by decide +kernel
theorem d_M_foldOf_99 : decode b_M_foldOf 99 = .ok (.iload_n 2, 1) := by decide +kernel
theorem d_M_foldOf_100 : decode b_M_foldOf 100 = .ok (.imul, 1) := by decide +kernel
theorem d_M_foldOf_101 : decode b_M_foldOf 101 = .ok (.iadd, 1) := by decide +kernel
theorem d_M_foldOf_102 : decode b_M_foldOf 102 = .ok (.bipush 8, 2) := by decide +kernel
theorem d_M_foldOf_104 : decode b_M_foldOf 104 = .ok (.iload_n 2, 1) := by decide +kernel
theorem d_M_foldOf_105 : decode b_M_foldOf 105 = .ok (.imul, 1) := by decide +kernel
theorem d_M_foldOf_106 : decode b_M_foldOf 106 = .ok (.irem, 1) := by decide +kernel
theorem d_M_foldOf_107 : decode b_M_foldOf 107 = .ok (.istore 10, 2) := by decide +kernel
theorem d_M_foldOf_109 : decode b_M_foldOf 109 = .ok (.iload 8, 2) := by decide +kernel
theorem d_M_foldOf_111 : decode b_M_foldOf 111 = .ok (.iconst 1, 1) := by decide +kernel
theorem d_M_foldOf_112 : decode b_M_foldOf 112 = .ok (.ishl, 1) := by decide +kernel
theorem d_M_foldOf_113 : decode b_M_foldOf 113 = .ok (.aload_n 1, 1) := by decide +kernel
theorem d_M_foldOf_114 : decode b_M_foldOf 114 = .ok (.iload 10, 2) := by decide +kernel
theorem d_M_foldOf_116 : decode b_M_foldOf 116 = .ok (.bipush 8, 2) := by decide +kernel
theorem d_M_foldOf_118 : decode b_M_foldOf 118 = .ok (.idiv, 1) := by decide +kernel
theorem d_M_foldOf_119 : decode b_M_foldOf 119 = .ok (.baload, 1) := by decide +kernel
theorem d_M_foldOf_120 : decode b_M_foldOf 120 = .ok (.bipush 7, 2) := by decide +kernel
theorem d_M_foldOf_122 : decode b_M_foldOf 122 = .ok (.iload 10, 2) := by decide +kernel
theorem d_M_foldOf_124 : decode b_M_foldOf 124 = .ok (.bipush 8, 2) := by decide +kernel
theorem d_M_foldOf_126 : decode b_M_foldOf 126 = .ok (.irem, 1) := by decide +kernel
theorem d_M_foldOf_127 : decode b_M_foldOf 127 = .ok (.isub, 1) := by decide +kernel
theorem d_M_foldOf_128 : decode b_M_foldOf 128 = .ok (.ishr, 1) := by decide +kernel
theorem d_M_foldOf_129 : decode b_M_foldOf 129 = .ok (.iconst 1, 1) := by decide +kernel
theorem d_M_foldOf_130 : decode b_M_foldOf 130 = .ok (.iand, 1) := by decide +kernel
theorem d_M_foldOf_131 : decode b_M_foldOf 131 = .ok (.ior, 1) := by decide +kernel
theorem d_M_foldOf_132 : decode b_M_foldOf 132 = .ok (.istore 8, 2) := by decide +kernel
theorem d_M_foldOf_134 : decode b_M_foldOf 134 = .ok (.iinc 9 1, 3) := by decide +kernel
theorem d_M_foldOf_137 : decode b_M_foldOf 137 = .ok (.goto (-60), 3) := by decide +kernel
theorem d_M_foldOf_140 : decode b_M_foldOf 140 = .ok (.aload 4, 2) := by decide +kernel
theorem d_M_foldOf_142 : decode b_M_foldOf 142 = .ok (.iload 5, 2) := by decide +kernel
theorem d_M_foldOf_144 : decode b_M_foldOf 144 = .ok (.bipush 16, 2) := by decide +kernel
theorem d_M_foldOf_146 : decode b_M_foldOf 146 = .ok (.irem, 1) := by decide +kernel
theorem d_M_foldOf_147 : decode b_M_foldOf 147 = .ok (.dup2, 1) := by decide +kernel
theorem d_M_foldOf_148 : decode b_M_foldOf 148 = .ok (.iaload, 1) := by decide +kernel
theorem d_M_foldOf_149 : decode b_M_foldOf 149 = .ok (.iload 8, 2) := by decide +kernel
theorem d_M_foldOf_151 : decode b_M_foldOf 151 = .ok (.iadd, 1) := by decide +kernel
theorem d_M_foldOf_152 : decode b_M_foldOf 152 = .ok (.iastore, 1) := by decide +kernel
theorem d_M_foldOf_153 : decode b_M_foldOf 153 = .ok (.iinc 5 1, 3) := by decide +kernel
theorem d_M_foldOf_156 : decode b_M_foldOf 156 = .ok (.goto (-109), 3) := by decide +kernel
theorem d_M_foldOf_159 : decode b_M_foldOf 159 = .ok (.iconst 0, 1) := by decide +kernel
theorem d_M_foldOf_160 : decode b_M_foldOf 160 = .ok (.istore 5, 2) := by decide +kernel
theorem d_M_foldOf_162 : decode b_M_foldOf 162 = .ok (.iload 5, 2) := by decide +kernel
theorem d_M_foldOf_164 : decode b_M_foldOf 164 = .ok (.bipush 40, 2) := by decide +kernel
theorem d_M_foldOf_166 : decode b_M_foldOf 166 = .ok (.if_icmp .ge 65, 3) := by decide +kernel
theorem d_M_foldOf_169 : decode b_M_foldOf 169 = .ok (.iconst 0, 1) := by decide +kernel
theorem d_M_foldOf_170 : decode b_M_foldOf 170 = .ok (.istore 6, 2) := by decide +kernel
theorem d_M_foldOf_172 : decode b_M_foldOf 172 = .ok (.bipush 15, 2) := by decide +kernel
theorem d_M_foldOf_174 : decode b_M_foldOf 174 = .ok (.istore 7, 2) := by decide +kernel
theorem d_M_foldOf_176 : decode b_M_foldOf 176 = .ok (.iload 7, 2) := by decide +kernel
theorem d_M_foldOf_178 : decode b_M_foldOf 178 = .ok (.ifCond .lt 37, 3) := by decide +kernel
theorem d_M_foldOf_181 : decode b_M_foldOf 181 = .ok (.aload 4, 2) := by decide +kernel
theorem d_M_foldOf_183 : decode b_M_foldOf 183 = .ok (.iload 7, 2) := by decide +kernel
theorem d_M_foldOf_185 : decode b_M_foldOf 185 = .ok (.iaload, 1) := by decide +kernel
theorem d_M_foldOf_186 : decode b_M_foldOf 186 = .ok (.iload 6, 2) := by decide +kernel
theorem d_M_foldOf_188 : decode b_M_foldOf 188 = .ok (.iadd, 1) := by decide +kernel
theorem d_M_foldOf_189 : decode b_M_foldOf 189 = .ok (.istore 8, 2) := by decide +kernel
theorem d_M_foldOf_191 : decode b_M_foldOf 191 = .ok (.aload 4, 2) := by decide +kernel
theorem d_M_foldOf_193 : decode b_M_foldOf 193 = .ok (.iload 7, 2) := by decide +kernel
theorem d_M_foldOf_195 : decode b_M_foldOf 195 = .ok (.iload 8, 2) := by decide +kernel
theorem d_M_foldOf_197 : decode b_M_foldOf 197 = .ok (.sipush 255, 3) := by decide +kernel
theorem d_M_foldOf_200 : decode b_M_foldOf 200 = .ok (.iand, 1) := by decide +kernel
theorem d_M_foldOf_201 : decode b_M_foldOf 201 = .ok (.iastore, 1) := by decide +kernel
theorem d_M_foldOf_202 : decode b_M_foldOf 202 = .ok (.iload 8, 2) := by decide +kernel
theorem d_M_foldOf_204 : decode b_M_foldOf 204 = .ok (.bipush 8, 2) := by decide +kernel
theorem d_M_foldOf_206 : decode b_M_foldOf 206 = .ok (.ishr, 1) := by decide +kernel
theorem d_M_foldOf_207 : decode b_M_foldOf 207 = .ok (.istore 6, 2) := by decide +kernel
theorem d_M_foldOf_209 : decode b_M_foldOf 209 = .ok (.iinc 7 (-1), 3) := by decide +kernel
theorem d_M_foldOf_212 : decode b_M_foldOf 212 = .ok (.goto (-36), 3) := by decide +kernel
theorem d_M_foldOf_215 : decode b_M_foldOf 215 = .ok (.aload 4, 2) := by decide +kernel
theorem d_M_foldOf_217 : decode b_M_foldOf 217 = .ok (.bipush 15, 2) := by decide +kernel
theorem d_M_foldOf_219 : decode b_M_foldOf 219 = .ok (.dup2, 1) := by decide +kernel
theorem d_M_foldOf_220 : decode b_M_foldOf 220 = .ok (.iaload, 1) := by decide +kernel
theorem d_M_foldOf_221 : decode b_M_foldOf 221 = .ok (.iload 6, 2) := by decide +kernel
theorem d_M_foldOf_223 : decode b_M_foldOf 223 = .ok (.iadd, 1) := by decide +kernel
theorem d_M_foldOf_224 : decode b_M_foldOf 224 = .ok (.iastore, 1) := by decide +kernel
theorem d_M_foldOf_225 : decode b_M_foldOf 225 = .ok (.iinc 5 1, 3) := by decide +kernel
theorem d_M_foldOf_228 : decode b_M_foldOf 228 = .ok (.goto (-66), 3) := by decide +kernel
theorem d_M_foldOf_231 : decode b_M_foldOf 231 = .ok (.iconst 0, 1) := by decide +kernel
theorem d_M_foldOf_232 : decode b_M_foldOf 232 = .ok (.istore 5, 2) := by decide +kernel
theorem d_M_foldOf_234 : decode b_M_foldOf 234 = .ok (.iload 5, 2) := by decide +kernel
theorem d_M_foldOf_236 : decode b_M_foldOf 236 = .ok (.bipush 16, 2) := by decide +kernel
theorem d_M_foldOf_238 : decode b_M_foldOf 238 = .ok (.if_icmp .ge 22, 3) := by decide +kernel
theorem d_M_foldOf_241 : decode b_M_foldOf 241 = .ok (.aload_n 0, 1) := by decide +kernel
theorem d_M_foldOf_242 : decode b_M_foldOf 242 = .ok (.getfield 56, 3) := by decide +kernel
theorem d_M_foldOf_245 : decode b_M_foldOf 245 = .ok (.iload 5, 2) := by decide +kernel
theorem d_M_foldOf_247 : decode b_M_foldOf 247 = .ok (.aload 4, 2) := by decide +kernel
theorem d_M_foldOf_249 : decode b_M_foldOf 249 = .ok (.iload 5, 2) := by decide +kernel
theorem d_M_foldOf_251 : decode b_M_foldOf 251 = .ok (.iaload, 1) := by decide +kernel
theorem d_M_foldOf_252 : decode b_M_foldOf 252 = .ok (.i2b, 1) := by decide +kernel
theorem d_M_foldOf_253 : decode b_M_foldOf 253 = .ok (.bastore, 1) := by decide +kernel
theorem d_M_foldOf_254 : decode b_M_foldOf 254 = .ok (.iinc 5 1, 3) := by decide +kernel
theorem d_M_foldOf_257 : decode b_M_foldOf 257 = .ok (.goto (-23), 3) := by decide +kernel
theorem d_M_foldOf_260 : decode b_M_foldOf 260 = .ok (.return_, 1) := by decide +kernel
abbrev b_M_derive : ByteArray := prog_14_method_24_code
def y_M_derive : MethodName := ⟨R_M, "derive", "([BI[BI[B)V"⟩
abbrev k_M_derive : Cond := .code y_M_derive b_M_derive 8 none
theorem ki_M_derive : k_M_derive ∈ lw_tg := in_t 1841 (by decide +kernel)
theorem ks_M_derive : Cond.instanceMethod y_M_derive ∈ lw_tg := in_t 1840 (by decide +kernel)
theorem kx_M_derive : Cond.selects R_M y_M_derive y_M_derive ∈ lw_tg := List.mem_filter.mpr ⟨List.mem_append_left _ (List.mem_of_getElem? (i := 86) (by decide +kernel)), rfl⟩
theorem kl_M_derive : Cond.methodLink R_M 414 y_M_derive ∈ lw_tg := in_t 1838 (by decide +kernel)
theorem hd_M_derive : y_M_derive.cls = R_M ∧ y_M_derive.cls ≠ "java/lang/invoke/MethodHandle" ∧ y_M_derive.cls ≠ "java/lang/invoke/VarHandle" ∧ (parseMethodDescriptor y_M_derive.desc).map (fun d => d.parameters.length) = some 5 := by decide +kernel
theorem d_M_derive_0 : decode b_M_derive 0 = .ok (.aload_n 0, 1) := by decide +kernel
theorem d_M_derive_1 : decode b_M_derive 1 = .ok (.aload_n 3, 1) := by decide +kernel
theorem d_M_derive_2 : decode b_M_derive 2 = .ok (.iload 4, 2) := by decide +kernel
theorem d_M_derive_4 : decode b_M_derive 4 = .ok (.invokevirtual 404, 3) := by decide +kernel
theorem d_M_derive_7 : decode b_M_derive 7 = .ok (.aload_n 0, 1) := by decide +kernel
theorem d_M_derive_8 : decode b_M_derive 8 = .ok (.aload_n 1, 1) := by decide +kernel
theorem d_M_derive_9 : decode b_M_derive 9 = .ok (.iload_n 2, 1) := by decide +kernel
theorem d_M_derive_10 : decode b_M_derive 10 = .ok (.invokevirtual 408, 3) := by decide +kernel
theorem d_M_derive_13 : decode b_M_derive 13 = .ok (.iconst 0, 1) := by decide +kernel
theorem d_M_derive_14 : decode b_M_derive 14 = .ok (.istore 6, 2) := by decide +kernel
theorem d_M_derive_16 : decode b_M_derive 16 = .ok (.iload 6, 2) := by decide +kernel
theorem d_M_derive_18 : decode b_M_derive 18 = .ok (.bipush 16, 2) := by decide +kernel
theorem d_M_derive_20 : decode b_M_derive 20 = .ok (.if_icmp .ge 27, 3) := by decide +kernel
theorem d_M_derive_23 : decode b_M_derive 23 = .ok (.aload_n 0, 1) := by decide +kernel
theorem d_M_derive_24 : decode b_M_derive 24 = .ok (.getfield 50, 3) := by decide +kernel
theorem d_M_derive_27 : decode b_M_derive 27 = .ok (.iload 6, 2) := by decide +kernel
theorem d_M_derive_29 : decode b_M_derive 29 = .ok (.aload_n 0, 1) := by decide +kernel
theorem d_M_derive_30 : decode b_M_derive 30 = .ok (.getfield 56, 3) := by decide +kernel
theorem d_M_derive_33 : decode b_M_derive 33 = .ok (.iload 6, 2) := by decide +kernel
theorem d_M_derive_35 : decode b_M_derive 35 = .ok (.baload, 1) := by decide +kernel
theorem d_M_derive_36 : decode b_M_derive 36 = .ok (.sipush 255, 3) := by decide +kernel
theorem d_M_derive_39 : decode b_M_derive 39 = .ok (.iand, 1) := by decide +kernel
theorem d_M_derive_40 : decode b_M_derive 40 = .ok (.iastore, 1) := by decide +kernel
theorem d_M_derive_41 : decode b_M_derive 41 = .ok (.iinc 6 1, 3) := by decide +kernel
theorem d_M_derive_44 : decode b_M_derive 44 = .ok (.goto (-28), 3) := by decide +kernel
theorem d_M_derive_47 : decode b_M_derive 47 = .ok (.iconst 0, 1) := by decide +kernel
theorem d_M_derive_48 : decode b_M_derive 48 = .ok (.istore 6, 2) := by decide +kernel
theorem d_M_derive_50 : decode b_M_derive 50 = .ok (.iload 6, 2) := by decide +kernel
theorem d_M_derive_52 : decode b_M_derive 52 = .ok (.iload_n 2, 1) := by decide +kernel
theorem d_M_derive_53 : decode b_M_derive 53 = .ok (.if_icmp .ge 47, 3) := by decide +kernel
theorem d_M_derive_56 : decode b_M_derive 56 = .ok (.aload_n 0, 1) := by decide +kernel
theorem d_M_derive_57 : decode b_M_derive 57 = .ok (.invokevirtual 411, 3) := by decide +kernel
theorem d_M_derive_60 : decode b_M_derive 60 = .ok (.iconst 0, 1) := by decide +kernel
theorem d_M_derive_61 : decode b_M_derive 61 = .ok (.istore 7, 2) := by decide +kernel
theorem d_M_derive_63 : decode b_M_derive 63 = .ok (.iload 7, 2) := by decide +kernel
theorem d_M_derive_65 : decode b_M_derive 65 = .ok (.bipush 16, 2) := by decide +kernel
theorem d_M_derive_67 : decode b_M_derive 67 = .ok (.if_icmp .ge 27, 3) := by decide +kernel
theorem d_M_derive_70 : decode b_M_derive 70 = .ok (.aload_n 0, 1) := by decide +kernel
theorem d_M_derive_71 : decode b_M_derive 71 = .ok (.getfield 59, 3) := by decide +kernel
theorem d_M_derive_74 : decode b_M_derive 74 = .ok (.iload 6, 2) := by decide +kernel
theorem d_M_derive_76 : decode b_M_derive 76 = .ok (.iload 7, 2) := by decide +kernel
theorem d_M_derive_78 : decode b_M_derive 78 = .ok (.iadd, 1) := by decide +kernel
theorem d_M_derive_79 : decode b_M_derive 79 = .ok (.aload_n 0, 1) := by decide +kernel
theorem d_M_derive_80 : decode b_M_derive 80 = .ok (.getfield 50, 3) := by decide +kernel
theorem d_M_derive_83 : decode b_M_derive 83 = .ok (.iload 7, 2) := by decide +kernel
theorem d_M_derive_85 : decode b_M_derive 85 = .ok (.iaload, 1) := by decide +kernel
theorem d_M_derive_86 : decode b_M_derive 86 = .ok (.i2b, 1) := by decide +kernel
theorem d_M_derive_87 : decode b_M_derive 87 = .ok (.bastore, 1) := by decide +kernel
theorem d_M_derive_88 : decode b_M_derive 88 = .ok (.iinc 7 1, 3) := by decide +kernel
theorem d_M_derive_91 : decode b_M_derive 91 = .ok (.goto (-28), 3) := by decide +kernel
theorem d_M_derive_94 : decode b_M_derive 94 = .ok (.iinc 6 16, 3) := by decide +kernel
theorem d_M_derive_97 : decode b_M_derive 97 = .ok (.goto (-47), 3) := by decide +kernel
theorem d_M_derive_100 : decode b_M_derive 100 = .ok (.iconst 0, 1) := by decide +kernel
theorem d_M_derive_101 : decode b_M_derive 101 = .ok (.istore 6, 2) := by decide +kernel
theorem d_M_derive_103 : decode b_M_derive 103 = .ok (.iload 6, 2) := by decide +kernel
theorem d_M_derive_105 : decode b_M_derive 105 = .ok (.iload_n 2, 1) := by decide +kernel
theorem d_M_derive_106 : decode b_M_derive 106 = .ok (.if_icmp .ge 21, 3) := by decide +kernel
theorem d_M_derive_109 : decode b_M_derive 109 = .ok (.aload 5, 2) := by decide +kernel
theorem d_M_derive_111 : decode b_M_derive 111 = .ok (.iload 6, 2) := by decide +kernel
theorem d_M_derive_113 : decode b_M_derive 113 = .ok (.aload_n 0, 1) := by decide +kernel
theorem d_M_derive_114 : decode b_M_derive 114 = .ok (.getfield 59, 3) := by decide +kernel
theorem d_M_derive_117 : decode b_M_derive 117 = .ok (.iload 6, 2) := by decide +kernel
theorem d_M_derive_119 : decode b_M_derive 119 = .ok (.baload, 1) := by decide +kernel
theorem d_M_derive_120 : decode b_M_derive 120 = .ok (.bastore, 1) := by decide +kernel
theorem d_M_derive_121 : decode b_M_derive 121 = .ok (.iinc 6 1, 3) := by decide +kernel
theorem d_M_derive_124 : decode b_M_derive 124 = .ok (.goto (-21), 3) := by decide +kernel
theorem d_M_derive_127 : decode b_M_derive 127 = .ok (.return_, 1) := by decide +kernel
abbrev b_M_useKey : ByteArray := prog_14_method_25_code
def y_M_useKey : MethodName := ⟨R_M, "useKey", "([BIII)V"⟩
abbrev k_M_useKey : Cond := .code y_M_useKey b_M_useKey 5 none
theorem ki_M_useKey : k_M_useKey ∈ lw_tg := in_t 2521 (by decide +kernel)
theorem ks_M_useKey : Cond.instanceMethod y_M_useKey ∈ lw_tg := in_t 2520 (by decide +kernel)
theorem kx_M_useKey : Cond.selects R_M y_M_useKey y_M_useKey ∈ lw_tg := List.mem_filter.mpr ⟨List.mem_append_left _ (List.mem_of_getElem? (i := 124) (by decide +kernel)), rfl⟩
theorem kl_M_useKey : Cond.methodLink R_M 443 y_M_useKey ∈ lw_tg := in_t 2518 (by decide +kernel)
theorem hd_M_useKey : y_M_useKey.cls = R_M ∧ y_M_useKey.cls ≠ "java/lang/invoke/MethodHandle" ∧ y_M_useKey.cls ≠ "java/lang/invoke/VarHandle" ∧ (parseMethodDescriptor y_M_useKey.desc).map (fun d => d.parameters.length) = some 4 := by decide +kernel
theorem d_M_useKey_0 : decode b_M_useKey 0 = .ok (.aload_n 0, 1) := by decide +kernel
theorem d_M_useKey_1 : decode b_M_useKey 1 = .ok (.getfield 65, 3) := by decide +kernel
theorem d_M_useKey_4 : decode b_M_useKey 4 = .ok (.iconst 0, 1) := by decide +kernel
theorem d_M_useKey_5 : decode b_M_useKey 5 = .ok (.iconst 0, 1) := by decide +kernel
theorem d_M_useKey_6 : decode b_M_useKey 6 = .ok (.bastore, 1) := by decide +kernel
theorem d_M_useKey_7 : decode b_M_useKey 7 = .ok (.aload_n 0, 1) := by decide +kernel
theorem d_M_useKey_8 : decode b_M_useKey 8 = .ok (.getfield 65, 3) := by decide +kernel
theorem d_M_useKey_11 : decode b_M_useKey 11 = .ok (.iconst 1, 1) := by decide +kernel
theorem d_M_useKey_12 : decode b_M_useKey 12 = .ok (.iconst 0, 1) := by decide +kernel
theorem d_M_useKey_13 : decode b_M_useKey 13 = .ok (.bastore, 1) := by decide +kernel
theorem d_M_useKey_14 : decode b_M_useKey 14 = .ok (.aload_n 0, 1) := by decide +kernel
theorem d_M_useKey_15 : decode b_M_useKey 15 = .ok (.getfield 65, 3) := by decide +kernel
theorem d_M_useKey_18 : decode b_M_useKey 18 = .ok (.iconst 2, 1) := by decide +kernel
theorem d_M_useKey_19 : decode b_M_useKey 19 = .ok (.iconst 0, 1) := by decide +kernel
theorem d_M_useKey_20 : decode b_M_useKey 20 = .ok (.bastore, 1) := by decide +kernel
theorem d_M_useKey_21 : decode b_M_useKey 21 = .ok (.aload_n 0, 1) := by decide +kernel
theorem d_M_useKey_22 : decode b_M_useKey 22 = .ok (.getfield 65, 3) := by decide +kernel
theorem d_M_useKey_25 : decode b_M_useKey 25 = .ok (.iconst 3, 1) := by decide +kernel
theorem d_M_useKey_26 : decode b_M_useKey 26 = .ok (.iload_n 3, 1) := by decide +kernel
theorem d_M_useKey_27 : decode b_M_useKey 27 = .ok (.i2b, 1) := by decide +kernel
theorem d_M_useKey_28 : decode b_M_useKey 28 = .ok (.bastore, 1) := by decide +kernel
theorem d_M_useKey_29 : decode b_M_useKey 29 = .ok (.aload_n 0, 1) := by decide +kernel
theorem d_M_useKey_30 : decode b_M_useKey 30 = .ok (.getfield 65, 3) := by decide +kernel
theorem d_M_useKey_33 : decode b_M_useKey 33 = .ok (.iconst 4, 1) := by decide +kernel
theorem d_M_useKey_34 : decode b_M_useKey 34 = .ok (.iload 4, 2) := by decide +kernel
theorem d_M_useKey_36 : decode b_M_useKey 36 = .ok (.i2b, 1) := by decide +kernel
theorem d_M_useKey_37 : decode b_M_useKey 37 = .ok (.bastore, 1) := by decide +kernel
theorem d_M_useKey_38 : decode b_M_useKey 38 = .ok (.aload_n 0, 1) := by decide +kernel
theorem d_M_useKey_39 : decode b_M_useKey 39 = .ok (.aload_n 1, 1) := by decide +kernel
theorem d_M_useKey_40 : decode b_M_useKey 40 = .ok (.iload_n 2, 1) := by decide +kernel
theorem d_M_useKey_41 : decode b_M_useKey 41 = .ok (.aload_n 0, 1) := by decide +kernel
theorem d_M_useKey_42 : decode b_M_useKey 42 = .ok (.getfield 65, 3) := by decide +kernel
theorem d_M_useKey_45 : decode b_M_useKey 45 = .ok (.iconst 5, 1) := by decide +kernel
theorem d_M_useKey_46 : decode b_M_useKey 46 = .ok (.aload_n 0, 1) := by decide +kernel
theorem d_M_useKey_47 : decode b_M_useKey 47 = .ok (.getfield 68, 3) := by decide +kernel
theorem d_M_useKey_50 : decode b_M_useKey 50 = .ok (.invokevirtual 414, 3) := by decide +kernel
theorem d_M_useKey_53 : decode b_M_useKey 53 = .ok (.return_, 1) := by decide +kernel
abbrev b_M_passwordKey : ByteArray := prog_14_method_26_code
def y_M_passwordKey : MethodName := ⟨R_M, "passwordKey", "(II[B)V"⟩
abbrev k_M_passwordKey : Cond := .code y_M_passwordKey b_M_passwordKey 7 none
theorem ki_M_passwordKey : k_M_passwordKey ∈ lw_tg := in_t 1800 (by decide +kernel)
theorem ks_M_passwordKey : Cond.instanceMethod y_M_passwordKey ∈ lw_tg := in_t 1799 (by decide +kernel)
theorem kx_M_passwordKey : Cond.selects R_M y_M_passwordKey y_M_passwordKey ∈ lw_tg := List.mem_filter.mpr ⟨List.mem_append_left _ (List.mem_of_getElem? (i := 79) (by decide +kernel)), rfl⟩
theorem kl_M_passwordKey : Cond.methodLink R_M 626 y_M_passwordKey ∈ lw_tg := in_t 1797 (by decide +kernel)
theorem hd_M_passwordKey : y_M_passwordKey.cls = R_M ∧ y_M_passwordKey.cls ≠ "java/lang/invoke/MethodHandle" ∧ y_M_passwordKey.cls ≠ "java/lang/invoke/VarHandle" ∧ (parseMethodDescriptor y_M_passwordKey.desc).map (fun d => d.parameters.length) = some 3 := by decide +kernel
theorem d_M_passwordKey_0 : decode b_M_passwordKey 0 = .ok (.iconst 0, 1) := by decide +kernel
theorem d_M_passwordKey_1 : decode b_M_passwordKey 1 = .ok (.istore 4, 2) := by decide +kernel
theorem d_M_passwordKey_3 : decode b_M_passwordKey 3 = .ok (.bipush 20, 2) := by decide +kernel
theorem d_M_passwordKey_5 : decode b_M_passwordKey 5 = .ok (.iload 4, 2) := by decide +kernel
theorem d_M_passwordKey_7 : decode b_M_passwordKey 7 = .ok (.imul, 1) := by decide +kernel
theorem d_M_passwordKey_8 : decode b_M_passwordKey 8 = .ok (.iload_n 1, 1) := by decide +kernel
theorem d_M_passwordKey_9 : decode b_M_passwordKey 9 = .ok (.if_icmp .ge 241, 3) := by decide +kernel
theorem d_M_passwordKey_12 : decode b_M_passwordKey 12 = .ok (.aload_n 0, 1) := by decide +kernel
theorem d_M_passwordKey_13 : decode b_M_passwordKey 13 = .ok (.aload_n 0, 1) := by decide +kernel
theorem d_M_passwordKey_14 : decode b_M_passwordKey 14 = .ok (.getfield 74, 3) := by decide +kernel
theorem d_M_passwordKey_17 : decode b_M_passwordKey 17 = .ok (.aload_n 0, 1) := by decide +kernel
theorem d_M_passwordKey_18 : decode b_M_passwordKey 18 = .ok (.getfield 418, 3) := by decide +kernel
theorem d_M_passwordKey_21 : decode b_M_passwordKey 21 = .ok (.invokevirtual 421, 3) := by decide +kernel
theorem d_M_passwordKey_24 : decode b_M_passwordKey 24 = .ok (.aload_n 0, 1) := by decide +kernel
theorem d_M_passwordKey_25 : decode b_M_passwordKey 25 = .ok (.invokevirtual 423, 3) := by decide +kernel
theorem d_M_passwordKey_28 : decode b_M_passwordKey 28 = .ok (.iconst 0, 1) := by decide +kernel
theorem d_M_passwordKey_29 : decode b_M_passwordKey 29 = .ok (.istore 5, 2) := by decide +kernel
theorem d_M_passwordKey_31 : decode b_M_passwordKey 31 = .ok (.iload 5, 2) := by decide +kernel
theorem d_M_passwordKey_33 : decode b_M_passwordKey 33 = .ok (.aload_n 0, 1) := by decide +kernel
theorem d_M_passwordKey_34 : decode b_M_passwordKey 34 = .ok (.getfield 426, 3) := by decide +kernel
theorem d_M_passwordKey_37 : decode b_M_passwordKey 37 = .ok (.if_icmp .ge 20, 3) := by decide +kernel
theorem d_M_passwordKey_40 : decode b_M_passwordKey 40 = .ok (.aload_n 0, 1) := by decide +kernel
theorem d_M_passwordKey_41 : decode b_M_passwordKey 41 = .ok (.aload_n 0, 1) := by decide +kernel
theorem d_M_passwordKey_42 : decode b_M_passwordKey 42 = .ok (.getfield 71, 3) := by decide +kernel
theorem d_M_passwordKey_45 : decode b_M_passwordKey 45 = .ok (.iload 5, 2) := by decide +kernel
theorem d_M_passwordKey_47 : decode b_M_passwordKey 47 = .ok (.baload, 1) := by decide +kernel
theorem d_M_passwordKey_48 : decode b_M_passwordKey 48 = .ok (.invokevirtual 370, 3) := by decide +kernel
theorem d_M_passwordKey_51 : decode b_M_passwordKey 51 = .ok (.iinc 5 1, 3) := by decide +kernel
theorem d_M_passwordKey_54 : decode b_M_passwordKey 54 = .ok (.goto (-23), 3) := by decide +kernel
theorem d_M_passwordKey_57 : decode b_M_passwordKey 57 = .ok (.iconst 0, 1) := by decide +kernel
theorem d_M_passwordKey_58 : decode b_M_passwordKey 58 = .ok (.istore 5, 2) := by decide +kernel
theorem d_M_passwordKey_60 : decode b_M_passwordKey 60 = .ok (.iload 5, 2) := by decide +kernel
theorem d_M_passwordKey_62 : decode b_M_passwordKey 62 = .ok (.iconst 4, 1) := by decide +kernel
theorem d_M_passwordKey_63 : decode b_M_passwordKey 63 = .ok (.if_icmp .ge 27, 3) := by decide +kernel
theorem d_M_passwordKey_66 : decode b_M_passwordKey 66 = .ok (.aload_n 0, 1) := by decide +kernel
theorem d_M_passwordKey_67 : decode b_M_passwordKey 67 = .ok (.iload 5, 2) := by decide +kernel
theorem d_M_passwordKey_69 : decode b_M_passwordKey 69 = .ok (.iconst 3, 1) := by decide +kernel
theorem d_M_passwordKey_70 : decode b_M_passwordKey 70 = .ok (.if_icmp .ne 10, 3) := by decide +kernel
theorem d_M_passwordKey_73 : decode b_M_passwordKey 73 = .ok (.iload 4, 2) := by decide +kernel
theorem d_M_passwordKey_75 : decode b_M_passwordKey 75 = .ok (.iconst 1, 1) := by decide +kernel
theorem d_M_passwordKey_76 : decode b_M_passwordKey 76 = .ok (.iadd, 1) := by decide +kernel
theorem d_M_passwordKey_77 : decode b_M_passwordKey 77 = .ok (.goto 4, 3) := by decide +kernel
theorem d_M_passwordKey_80 : decode b_M_passwordKey 80 = .ok (.iconst 0, 1) := by decide +kernel
theorem d_M_passwordKey_81 : decode b_M_passwordKey 81 = .ok (.invokevirtual 370, 3) := by decide +kernel
theorem d_M_passwordKey_84 : decode b_M_passwordKey 84 = .ok (.iinc 5 1, 3) := by decide +kernel
theorem d_M_passwordKey_87 : decode b_M_passwordKey 87 = .ok (.goto (-27), 3) := by decide +kernel
theorem d_M_passwordKey_90 : decode b_M_passwordKey 90 = .ok (.aload_n 0, 1) := by decide +kernel
theorem d_M_passwordKey_91 : decode b_M_passwordKey 91 = .ok (.invokevirtual 429, 3) := by decide +kernel
theorem d_M_passwordKey_94 : decode b_M_passwordKey 94 = .ok (.iconst 0, 1) := by decide +kernel
theorem d_M_passwordKey_95 : decode b_M_passwordKey 95 = .ok (.istore 5, 2) := by decide +kernel
theorem d_M_passwordKey_97 : decode b_M_passwordKey 97 = .ok (.iload 5, 2) := by decide +kernel
theorem d_M_passwordKey_99 : decode b_M_passwordKey 99 = .ok (.bipush 20, 2) := by decide +kernel
theorem d_M_passwordKey_101 : decode b_M_passwordKey 101 = .ok (.if_icmp .ge 23, 3) := by decide +kernel
theorem d_M_passwordKey_104 : decode b_M_passwordKey 104 = .ok (.aload_n 0, 1) := by decide +kernel
theorem d_M_passwordKey_105 : decode b_M_passwordKey 105 = .ok (.getfield 77, 3) := by decide +kernel
theorem d_M_passwordKey_108 : decode b_M_passwordKey 108 = .ok (.iload 5, 2) := by decide +kernel
theorem d_M_passwordKey_110 : decode b_M_passwordKey 110 = .ok (.aload_n 0, 1) := by decide +kernel
theorem d_M_passwordKey_111 : decode b_M_passwordKey 111 = .ok (.getfield 35, 3) := by decide +kernel
theorem d_M_passwordKey_114 : decode b_M_passwordKey 114 = .ok (.iload 5, 2) := by decide +kernel
theorem d_M_passwordKey_116 : decode b_M_passwordKey 116 = .ok (.baload, 1) := by decide +kernel
theorem d_M_passwordKey_117 : decode b_M_passwordKey 117 = .ok (.bastore, 1) := by decide +kernel
theorem d_M_passwordKey_118 : decode b_M_passwordKey 118 = .ok (.iinc 5 1, 3) := by decide +kernel
theorem d_M_passwordKey_121 : decode b_M_passwordKey 121 = .ok (.goto (-24), 3) := by decide +kernel
theorem d_M_passwordKey_124 : decode b_M_passwordKey 124 = .ok (.iconst 1, 1) := by decide +kernel
theorem d_M_passwordKey_125 : decode b_M_passwordKey 125 = .ok (.istore 5, 2) := by decide +kernel
theorem d_M_passwordKey_127 : decode b_M_passwordKey 127 = .ok (.iload 5, 2) := by decide +kernel
theorem d_M_passwordKey_129 : decode b_M_passwordKey 129 = .ok (.iload_n 2, 1) := by decide +kernel
theorem d_M_passwordKey_130 : decode b_M_passwordKey 130 = .ok (.if_icmp .ge 78, 3) := by decide +kernel
theorem d_M_passwordKey_133 : decode b_M_passwordKey 133 = .ok (.aload_n 0, 1) := by decide +kernel
theorem d_M_passwordKey_134 : decode b_M_passwordKey 134 = .ok (.invokevirtual 423, 3) := by decide +kernel
theorem d_M_passwordKey_137 : decode b_M_passwordKey 137 = .ok (.iconst 0, 1) := by decide +kernel
theorem d_M_passwordKey_138 : decode b_M_passwordKey 138 = .ok (.istore 6, 2) := by decide +kernel
theorem d_M_passwordKey_140 : decode b_M_passwordKey 140 = .ok (.iload 6, 2) := by decide +kernel
theorem d_M_passwordKey_142 : decode b_M_passwordKey 142 = .ok (.bipush 20, 2) := by decide +kernel
theorem d_M_passwordKey_144 : decode b_M_passwordKey 144 = .ok (.if_icmp .ge 20, 3) := by decide +kernel
theorem d_M_passwordKey_147 : decode b_M_passwordKey 147 = .ok (.aload_n 0, 1) := by decide +kernel
theorem d_M_passwordKey_148 : decode b_M_passwordKey 148 = .ok (.aload_n 0, 1) := by decide +kernel
theorem d_M_passwordKey_149 : decode b_M_passwordKey 149 = .ok (.getfield 35, 3) := by decide +kernel
theorem d_M_passwordKey_152 : decode b_M_passwordKey 152 = .ok (.iload 6, 2) := by decide +kernel
theorem d_M_passwordKey_154 : decode b_M_passwordKey 154 = .ok (.baload, 1) := by decide +kernel
theorem d_M_passwordKey_155 : decode b_M_passwordKey 155 = .ok (.invokevirtual 370, 3) := by decide +kernel
theorem d_M_passwordKey_158 : decode b_M_passwordKey 158 = .ok (.iinc 6 1, 3) := by decide +kernel
theorem d_M_passwordKey_161 : decode b_M_passwordKey 161 = .ok (.goto (-21), 3) := by decide +kernel
theorem d_M_passwordKey_164 : decode b_M_passwordKey 164 = .ok (.aload_n 0, 1) := by decide +kernel
theorem d_M_passwordKey_165 : decode b_M_passwordKey 165 = .ok (.invokevirtual 429, 3) := by decide +kernel
theorem d_M_passwordKey_168 : decode b_M_passwordKey 168 = .ok (.iconst 0, 1) := by decide +kernel
theorem d_M_passwordKey_169 : decode b_M_passwordKey 169 = .ok (.istore 6, 2) := by decide +kernel
theorem d_M_passwordKey_171 : decode b_M_passwordKey 171 = .ok (.iload 6, 2) := by decide +kernel
theorem d_M_passwordKey_173 : decode b_M_passwordKey 173 = .ok (.bipush 20, 2) := by decide +kernel
theorem d_M_passwordKey_175 : decode b_M_passwordKey 175 = .ok (.if_icmp .ge 27, 3) := by decide +kernel
theorem d_M_passwordKey_178 : decode b_M_passwordKey 178 = .ok (.aload_n 0, 1) := by decide +kernel
theorem d_M_passwordKey_179 : decode b_M_passwordKey 179 = .ok (.getfield 77, 3) := by decide +kernel
theorem d_M_passwordKey_182 : decode b_M_passwordKey 182 = .ok (.iload 6, 2) := by decide +kernel
theorem d_M_passwordKey_184 : decode b_M_passwordKey 184 = .ok (.dup2, 1) := by decide +kernel
theorem d_M_passwordKey_185 : decode b_M_passwordKey 185 = .ok (.baload, 1) := by decide +kernel
theorem d_M_passwordKey_186 : decode b_M_passwordKey 186 = .ok (.aload_n 0, 1) := by decide +kernel
theorem d_M_passwordKey_187 : decode b_M_passwordKey 187 = .ok (.getfield 35, 3) := by decide +kernel
theorem d_M_passwordKey_190 : decode b_M_passwordKey 190 = .ok (.iload 6, 2) := by decide +kernel
theorem d_M_passwordKey_192 : decode b_M_passwordKey 192 = .ok (.baload, 1) := by decide +kernel
theorem d_M_passwordKey_193 : decode b_M_passwordKey 193 = .ok (.ixor, 1) := by decide +kernel
theorem d_M_passwordKey_194 : decode b_M_passwordKey 194 = .ok (.i2b, 1) := by decide +kernel
theorem d_M_passwordKey_195 : decode b_M_passwordKey 195 = .ok (.bastore, 1) := by decide +kernel
theorem d_M_passwordKey_196 : decode b_M_passwordKey 196 = .ok (.iinc 6 1, 3) := by decide +kernel
theorem d_M_passwordKey_199 : decode b_M_passwordKey 199 = .ok (.goto (-28), 3) := by decide +kernel
theorem d_M_passwordKey_202 : decode b_M_passwordKey 202 = .ok (.iinc 5 1, 3) := by decide +kernel
theorem d_M_passwordKey_205 : decode b_M_passwordKey 205 = .ok (.goto (-78), 3) := by decide +kernel
theorem d_M_passwordKey_208 : decode b_M_passwordKey 208 = .ok (.iconst 0, 1) := by decide +kernel
theorem d_M_passwordKey_209 : decode b_M_passwordKey 209 = .ok (.istore 5, 2) := by decide +kernel
theorem d_M_passwordKey_211 : decode b_M_passwordKey 211 = .ok (.iload 5, 2) := by decide +kernel
theorem d_M_passwordKey_213 : decode b_M_passwordKey 213 = .ok (.bipush 20, 2) := by decide +kernel
theorem d_M_passwordKey_215 : decode b_M_passwordKey 215 = .ok (.if_icmp .ge 29, 3) := by decide +kernel
theorem d_M_passwordKey_218 : decode b_M_passwordKey 218 = .ok (.aload_n 0, 1) := by decide +kernel
theorem d_M_passwordKey_219 : decode b_M_passwordKey 219 = .ok (.getfield 80, 3) := by decide +kernel
theorem d_M_passwordKey_222 : decode b_M_passwordKey 222 = .ok (.bipush 20, 2) := by decide +kernel
theorem d_M_passwordKey_224 : decode b_M_passwordKey 224 = .ok (.iload 4, 2) := by decide +kernel
theorem d_M_passwordKey_226 : decode b_M_passwordKey 226 = .ok (.imul, 1) := by decide +kernel
theorem d_M_passwordKey_227 : decode b_M_passwordKey 227 = .ok (.iload 5, 2) := by decide +kernel
theorem d_M_passwordKey_229 : decode b_M_passwordKey 229 = .ok (.iadd, 1) := by decide +kernel
theorem d_M_passwordKey_230 : decode b_M_passwordKey 230 = .ok (.aload_n 0, 1) := by decide +kernel
theorem d_M_passwordKey_231 : decode b_M_passwordKey 231 = .ok (.getfield 77, 3) := by decide +kernel
theorem d_M_passwordKey_234 : decode b_M_passwordKey 234 = .ok (.iload 5, 2) := by decide +kernel
theorem d_M_passwordKey_236 : decode b_M_passwordKey 236 = .ok (.baload, 1) := by decide +kernel
theorem d_M_passwordKey_237 : decode b_M_passwordKey 237 = .ok (.bastore, 1) := by decide +kernel
theorem d_M_passwordKey_238 : decode b_M_passwordKey 238 = .ok (.iinc 5 1, 3) := by decide +kernel
theorem d_M_passwordKey_241 : decode b_M_passwordKey 241 = .ok (.goto (-30), 3) := by decide +kernel
theorem d_M_passwordKey_244 : decode b_M_passwordKey 244 = .ok (.iinc 4 1, 3) := by decide +kernel
theorem d_M_passwordKey_247 : decode b_M_passwordKey 247 = .ok (.goto (-244), 3) := by decide +kernel
theorem d_M_passwordKey_250 : decode b_M_passwordKey 250 = .ok (.aload_n 0, 1) := by decide +kernel
theorem d_M_passwordKey_251 : decode b_M_passwordKey 251 = .ok (.aload_n 0, 1) := by decide +kernel
theorem d_M_passwordKey_252 : decode b_M_passwordKey 252 = .ok (.getfield 80, 3) := by decide +kernel
theorem d_M_passwordKey_255 : decode b_M_passwordKey 255 = .ok (.iload_n 1, 1) := by decide +kernel
theorem d_M_passwordKey_256 : decode b_M_passwordKey 256 = .ok (.aload_n 0, 1) := by decide +kernel
theorem d_M_passwordKey_257 : decode b_M_passwordKey 257 = .ok (.getfield 83, 3) := by decide +kernel
theorem d_M_passwordKey_260 : decode b_M_passwordKey 260 = .ok (.bipush 8, 2) := by decide +kernel
theorem d_M_passwordKey_262 : decode b_M_passwordKey 262 = .ok (.aload_n 3, 1) := by decide +kernel
theorem d_M_passwordKey_263 : decode b_M_passwordKey 263 = .ok (.invokevirtual 414, 3) := by decide +kernel
theorem d_M_passwordKey_266 : decode b_M_passwordKey 266 = .ok (.return_, 1) := by decide +kernel
abbrev b_M_seed : ByteArray := prog_14_method_27_code
def y_M_seed : MethodName := ⟨R_M, "seed", "()Z"⟩
abbrev k_M_seed : Cond := .code y_M_seed b_M_seed 2 (some .boolean)
theorem ki_M_seed : k_M_seed ∈ lw_tg := in_t 2333 (by decide +kernel)
theorem ks_M_seed : Cond.instanceMethod y_M_seed ∈ lw_tg := in_t 2331 (by decide +kernel)
theorem kx_M_seed : Cond.selects R_M y_M_seed y_M_seed ∈ lw_tg := in_t 2332 (by decide +kernel)
theorem hd_M_seed : y_M_seed.cls = R_M ∧ y_M_seed.cls ≠ "java/lang/invoke/MethodHandle" ∧ y_M_seed.cls ≠ "java/lang/invoke/VarHandle" ∧ (parseMethodDescriptor y_M_seed.desc).map (fun d => d.parameters.length) = some 0 := by decide +kernel
theorem d_M_seed_0 : decode b_M_seed 0 = .ok (.aload_n 0, 1) := by decide +kernel
theorem d_M_seed_1 : decode b_M_seed 1 = .ok (.getfield 332, 3) := by decide +kernel
theorem d_M_seed_4 : decode b_M_seed 4 = .ok (.bipush 64, 2) := by decide +kernel
theorem d_M_seed_6 : decode b_M_seed 6 = .ok (.if_icmp .le 5, 3) := by decide +kernel
theorem d_M_seed_9 : decode b_M_seed 9 = .ok (.iconst 0, 1) := by decide +kernel
theorem d_M_seed_10 : decode b_M_seed 10 = .ok (.ireturn, 1) := by decide +kernel
theorem d_M_seed_11 : decode b_M_seed 11 = .ok (.iconst 0, 1) := by decide +kernel
theorem d_M_seed_12 : decode b_M_seed 12 = .ok (.istore_n 1, 1) := by decide +kernel
theorem d_M_seed_13 : decode b_M_seed 13 = .ok (.iload_n 1, 1) := by decide +kernel
theorem d_M_seed_14 : decode b_M_seed 14 = .ok (.aload_n 0, 1) := by decide +kernel
theorem d_M_seed_15 : decode b_M_seed 15 = .ok (.getfield 332, 3) := by decide +kernel
theorem d_M_seed_18 : decode b_M_seed 18 = .ok (.if_icmp .ge 21, 3) := by decide +kernel
theorem d_M_seed_21 : decode b_M_seed 21 = .ok (.aload_n 0, 1) := by decide +kernel
theorem d_M_seed_22 : decode b_M_seed 22 = .ok (.getfield 86, 3) := by decide +kernel
theorem d_M_seed_25 : decode b_M_seed 25 = .ok (.iload_n 1, 1) := by decide +kernel
theorem d_M_seed_26 : decode b_M_seed 26 = .ok (.aload_n 0, 1) := by decide +kernel
theorem d_M_seed_27 : decode b_M_seed 27 = .ok (.getfield 10, 3) := by decide +kernel
theorem d_M_seed_30 : decode b_M_seed 30 = .ok (.iload_n 1, 1) := by decide +kernel
theorem d_M_seed_31 : decode b_M_seed 31 = .ok (.baload, 1) := by decide +kernel
theorem d_M_seed_32 : decode b_M_seed 32 = .ok (.bastore, 1) := by decide +kernel
theorem d_M_seed_33 : decode b_M_seed 33 = .ok (.iinc 1 1, 3) := by decide +kernel
theorem d_M_seed_36 : decode b_M_seed 36 = .ok (.goto (-23), 3) := by decide +kernel
theorem d_M_seed_39 : decode b_M_seed 39 = .ok (.aload_n 0, 1) := by decide +kernel
theorem d_M_seed_40 : decode b_M_seed 40 = .ok (.aload_n 0, 1) := by decide +kernel
theorem d_M_seed_41 : decode b_M_seed 41 = .ok (.getfield 332, 3) := by decide +kernel
theorem d_M_seed_44 : decode b_M_seed 44 = .ok (.putfield 432, 3) := by decide +kernel
theorem d_M_seed_47 : decode b_M_seed 47 = .ok (.aload_n 0, 1) := by decide +kernel
theorem d_M_seed_48 : decode b_M_seed 48 = .ok (.iconst 0, 1) := by decide +kernel
theorem d_M_seed_49 : decode b_M_seed 49 = .ok (.putfield 332, 3) := by decide +kernel
theorem d_M_seed_52 : decode b_M_seed 52 = .ok (.aload_n 0, 1) := by decide +kernel
theorem d_M_seed_53 : decode b_M_seed 53 = .ok (.iconst 0, 1) := by decide +kernel
theorem d_M_seed_54 : decode b_M_seed 54 = .ok (.putfield 435, 3) := by decide +kernel
theorem d_M_seed_57 : decode b_M_seed 57 = .ok (.iconst 1, 1) := by decide +kernel
theorem d_M_seed_58 : decode b_M_seed 58 = .ok (.ireturn, 1) := by decide +kernel
abbrev b_M_coin : ByteArray := prog_14_method_28_code
def y_M_coin : MethodName := ⟨R_M, "coin", "()I"⟩
abbrev k_M_coin : Cond := .code y_M_coin b_M_coin 3 (some .int)
theorem ki_M_coin : k_M_coin ∈ lw_tg := in_t 2557 (by decide +kernel)
theorem ks_M_coin : Cond.instanceMethod y_M_coin ∈ lw_tg := in_t 2556 (by decide +kernel)
theorem kx_M_coin : Cond.selects R_M y_M_coin y_M_coin ∈ lw_tg := List.mem_filter.mpr ⟨List.mem_append_left _ (List.mem_of_getElem? (i := 132) (by decide +kernel)), rfl⟩
theorem kl_M_coin : Cond.methodLink R_M 441 y_M_coin ∈ lw_tg := in_t 2554 (by decide +kernel)
theorem hd_M_coin : y_M_coin.cls = R_M ∧ y_M_coin.cls ≠ "java/lang/invoke/MethodHandle" ∧ y_M_coin.cls ≠ "java/lang/invoke/VarHandle" ∧ (parseMethodDescriptor y_M_coin.desc).map (fun d => d.parameters.length) = some 0 := by decide +kernel
theorem d_M_coin_0 : decode b_M_coin 0 = .ok (.aload_n 0, 1) := by decide +kernel
theorem d_M_coin_1 : decode b_M_coin 1 = .ok (.aload_n 0, 1) := by decide +kernel
theorem d_M_coin_2 : decode b_M_coin 2 = .ok (.getfield 86, 3) := by decide +kernel
theorem d_M_coin_5 : decode b_M_coin 5 = .ok (.aload_n 0, 1) := by decide +kernel
theorem d_M_coin_6 : decode b_M_coin 6 = .ok (.getfield 432, 3) := by decide +kernel
theorem d_M_coin_9 : decode b_M_coin 9 = .ok (.invokevirtual 421, 3) := by decide +kernel
theorem d_M_coin_12 : decode b_M_coin 12 = .ok (.aload_n 0, 1) := by decide +kernel
theorem d_M_coin_13 : decode b_M_coin 13 = .ok (.invokevirtual 423, 3) := by decide +kernel
theorem d_M_coin_16 : decode b_M_coin 16 = .ok (.aload_n 0, 1) := by decide +kernel
theorem d_M_coin_17 : decode b_M_coin 17 = .ok (.getfield 435, 3) := by decide +kernel
theorem d_M_coin_20 : decode b_M_coin 20 = .ok (.bipush 20, 2) := by decide +kernel
theorem d_M_coin_22 : decode b_M_coin 22 = .ok (.idiv, 1) := by decide +kernel
theorem d_M_coin_23 : decode b_M_coin 23 = .ok (.istore_n 1, 1) := by decide +kernel
theorem d_M_coin_24 : decode b_M_coin 24 = .ok (.iconst 0, 1) := by decide +kernel
theorem d_M_coin_25 : decode b_M_coin 25 = .ok (.istore_n 2, 1) := by decide +kernel
theorem d_M_coin_26 : decode b_M_coin 26 = .ok (.iload_n 2, 1) := by decide +kernel
theorem d_M_coin_27 : decode b_M_coin 27 = .ok (.iconst 4, 1) := by decide +kernel
theorem d_M_coin_28 : decode b_M_coin 28 = .ok (.if_icmp .ge 22, 3) := by decide +kernel
theorem d_M_coin_31 : decode b_M_coin 31 = .ok (.aload_n 0, 1) := by decide +kernel
theorem d_M_coin_32 : decode b_M_coin 32 = .ok (.iload_n 1, 1) := by decide +kernel
theorem d_M_coin_33 : decode b_M_coin 33 = .ok (.bipush 24, 2) := by decide +kernel
theorem d_M_coin_35 : decode b_M_coin 35 = .ok (.bipush 8, 2) := by decide +kernel
theorem d_M_coin_37 : decode b_M_coin 37 = .ok (.iload_n 2, 1) := by decide +kernel
theorem d_M_coin_38 : decode b_M_coin 38 = .ok (.imul, 1) := by decide +kernel
theorem d_M_coin_39 : decode b_M_coin 39 = .ok (.isub, 1) := by decide +kernel
theorem d_M_coin_40 : decode b_M_coin 40 = .ok (.iushr, 1) := by decide +kernel
theorem d_M_coin_41 : decode b_M_coin 41 = .ok (.invokevirtual 370, 3) := by decide +kernel
theorem d_M_coin_44 : decode b_M_coin 44 = .ok (.iinc 2 1, 3) := by decide +kernel
theorem d_M_coin_47 : decode b_M_coin 47 = .ok (.goto (-21), 3) := by decide +kernel
theorem d_M_coin_50 : decode b_M_coin 50 = .ok (.aload_n 0, 1) := by decide +kernel
theorem d_M_coin_51 : decode b_M_coin 51 = .ok (.invokevirtual 429, 3) := by decide +kernel
theorem d_M_coin_54 : decode b_M_coin 54 = .ok (.aload_n 0, 1) := by decide +kernel
theorem d_M_coin_55 : decode b_M_coin 55 = .ok (.dup, 1) := by decide +kernel
theorem d_M_coin_56 : decode b_M_coin 56 = .ok (.getfield 435, 3) := by decide +kernel
theorem d_M_coin_59 : decode b_M_coin 59 = .ok (.iconst 1, 1) := by decide +kernel
theorem d_M_coin_60 : decode b_M_coin 60 = .ok (.iadd, 1) := by decide +kernel
theorem d_M_coin_61 : decode b_M_coin 61 = .ok (.putfield 435, 3) := by decide +kernel
theorem d_M_coin_64 : decode b_M_coin 64 = .ok (.aload_n 0, 1) := by decide +kernel
theorem d_M_coin_65 : decode b_M_coin 65 = .ok (.getfield 35, 3) := by decide +kernel
theorem d_M_coin_68 : decode b_M_coin 68 = .ok (.aload_n 0, 1) := by decide +kernel
theorem d_M_coin_69 : decode b_M_coin 69 = .ok (.getfield 435, 3) := by decide +kernel
theorem d_M_coin_72 : decode b_M_coin 72 = .ok (.iconst 1, 1) := by decide +kernel
theorem d_M_coin_73 : decode b_M_coin 73 = .ok (.isub, 1) := by decide +kernel
theorem d_M_coin_74 : decode b_M_coin 74 = .ok (.bipush 20, 2) := by decide +kernel
theorem d_M_coin_76 : decode b_M_coin 76 = .ok (.irem, 1) := by decide +kernel
theorem d_M_coin_77 : decode b_M_coin 77 = .ok (.baload, 1) := by decide +kernel
theorem d_M_coin_78 : decode b_M_coin 78 = .ok (.sipush 255, 3) := by decide +kernel
theorem d_M_coin_81 : decode b_M_coin 81 = .ok (.iand, 1) := by decide +kernel
theorem d_M_coin_82 : decode b_M_coin 82 = .ok (.ireturn, 1) := by decide +kernel
abbrev b_M_newKey : ByteArray := prog_14_method_29_code
def y_M_newKey : MethodName := ⟨R_M, "newKey", "(I[B)V"⟩
abbrev k_M_newKey : Cond := .code y_M_newKey b_M_newKey 4 none
theorem ki_M_newKey : k_M_newKey ∈ lw_tg := in_t 2553 (by decide +kernel)
theorem ks_M_newKey : Cond.instanceMethod y_M_newKey ∈ lw_tg := in_t 2552 (by decide +kernel)
theorem kx_M_newKey : Cond.selects R_M y_M_newKey y_M_newKey ∈ lw_tg := List.mem_filter.mpr ⟨List.mem_append_left _ (List.mem_of_getElem? (i := 131) (by decide +kernel)), rfl⟩
theorem kl_M_newKey : Cond.methodLink R_M 857 y_M_newKey ∈ lw_tg := in_t 2550 (by decide +kernel)
theorem hd_M_newKey : y_M_newKey.cls = R_M ∧ y_M_newKey.cls ≠ "java/lang/invoke/MethodHandle" ∧ y_M_newKey.cls ≠ "java/lang/invoke/VarHandle" ∧ (parseMethodDescriptor y_M_newKey.desc).map (fun d => d.parameters.length) = some 2 := by decide +kernel
theorem d_M_newKey_0 : decode b_M_newKey 0 = .ok (.iconst 0, 1) := by decide +kernel
theorem d_M_newKey_1 : decode b_M_newKey 1 = .ok (.istore_n 3, 1) := by decide +kernel
theorem d_M_newKey_2 : decode b_M_newKey 2 = .ok (.iload_n 3, 1) := by decide +kernel
theorem d_M_newKey_3 : decode b_M_newKey 3 = .ok (.iload_n 1, 1) := by decide +kernel
theorem d_M_newKey_4 : decode b_M_newKey 4 = .ok (.invokestatic 438, 3) := by decide +kernel
theorem d_M_newKey_7 : decode b_M_newKey 7 = .ok (.if_icmp .ge 17, 3) := by decide +kernel
theorem d_M_newKey_10 : decode b_M_newKey 10 = .ok (.aload_n 2, 1) := by decide +kernel
theorem d_M_newKey_11 : decode b_M_newKey 11 = .ok (.iload_n 3, 1) := by decide +kernel
theorem d_M_newKey_12 : decode b_M_newKey 12 = .ok (.aload_n 0, 1) := by decide +kernel
theorem d_M_newKey_13 : decode b_M_newKey 13 = .ok (.invokevirtual 441, 3) := by decide +kernel
theorem d_M_newKey_16 : decode b_M_newKey 16 = .ok (.i2b, 1) := by decide +kernel
theorem d_M_newKey_17 : decode b_M_newKey 17 = .ok (.bastore, 1) := by decide +kernel
theorem d_M_newKey_18 : decode b_M_newKey 18 = .ok (.iinc 3 1, 3) := by decide +kernel
theorem d_M_newKey_21 : decode b_M_newKey 21 = .ok (.goto (-19), 3) := by decide +kernel
theorem d_M_newKey_24 : decode b_M_newKey 24 = .ok (.return_, 1) := by decide +kernel
abbrev b_M_size : ByteArray := prog_14_method_30_code
def y_M_size : MethodName := ⟨R_M, "size", "(I)I"⟩
abbrev k_M_size : Cond := .code y_M_size b_M_size 1 (some .int)
theorem ki_M_size : k_M_size ∈ lw_tg := in_t 2517 (by decide +kernel)
theorem ks_M_size : Cond.static y_M_size ∈ lw_tg := in_t 2516 (by decide +kernel)
theorem kl_M_size : Cond.methodLink R_M 438 y_M_size ∈ lw_tg := in_t 2515 (by decide +kernel)
theorem hd_M_size : y_M_size.cls = R_M ∧ y_M_size.cls ≠ "java/lang/invoke/MethodHandle" ∧ y_M_size.cls ≠ "java/lang/invoke/VarHandle" ∧ (parseMethodDescriptor y_M_size.desc).map (fun d => d.parameters.length) = some 1 := by decide +kernel
theorem d_M_size_0 : decode b_M_size 0 = .ok (.iload_n 0, 1) := by decide +kernel
theorem d_M_size_1 : decode b_M_size 1 = .ok (.bipush 17, 2) := by decide +kernel
theorem d_M_size_3 : decode b_M_size 3 = .ok (.if_icmp .ne 8, 3) := by decide +kernel
theorem d_M_size_6 : decode b_M_size 6 = .ok (.bipush 16, 2) := by decide +kernel
theorem d_M_size_8 : decode b_M_size 8 = .ok (.goto 5, 3) := by decide +kernel
theorem d_M_size_11 : decode b_M_size 11 = .ok (.bipush 32, 2) := by decide +kernel
theorem d_M_size_13 : decode b_M_size 13 = .ok (.ireturn, 1) := by decide +kernel
abbrev b_M_fourCoins : ByteArray := prog_14_method_32_code
def y_M_fourCoins : MethodName := ⟨R_M, "fourCoins", "()I"⟩
abbrev k_M_fourCoins : Cond := .code y_M_fourCoins b_M_fourCoins 3 (some .int)
theorem ki_M_fourCoins : k_M_fourCoins ∈ lw_tg := in_t 2758 (by decide +kernel)
theorem ks_M_fourCoins : Cond.instanceMethod y_M_fourCoins ∈ lw_tg := in_t 2757 (by decide +kernel)
theorem kx_M_fourCoins : Cond.selects R_M y_M_fourCoins y_M_fourCoins ∈ lw_tg := List.mem_filter.mpr ⟨List.mem_append_left _ (List.mem_of_getElem? (i := 174) (by decide +kernel)), rfl⟩
theorem kl_M_fourCoins : Cond.methodLink R_M 930 y_M_fourCoins ∈ lw_tg := in_t 2755 (by decide +kernel)
theorem hd_M_fourCoins : y_M_fourCoins.cls = R_M ∧ y_M_fourCoins.cls ≠ "java/lang/invoke/MethodHandle" ∧ y_M_fourCoins.cls ≠ "java/lang/invoke/VarHandle" ∧ (parseMethodDescriptor y_M_fourCoins.desc).map (fun d => d.parameters.length) = some 0 := by decide +kernel
theorem d_M_fourCoins_0 : decode b_M_fourCoins 0 = .ok (.iconst 0, 1) := by decide +kernel
theorem d_M_fourCoins_1 : decode b_M_fourCoins 1 = .ok (.istore_n 1, 1) := by decide +kernel
theorem d_M_fourCoins_2 : decode b_M_fourCoins 2 = .ok (.iconst 0, 1) := by decide +kernel
theorem d_M_fourCoins_3 : decode b_M_fourCoins 3 = .ok (.istore_n 2, 1) := by decide +kernel
theorem d_M_fourCoins_4 : decode b_M_fourCoins 4 = .ok (.iload_n 2, 1) := by decide +kernel
theorem d_M_fourCoins_5 : decode b_M_fourCoins 5 = .ok (.iconst 4, 1) := by decide +kernel
theorem d_M_fourCoins_6 : decode b_M_fourCoins 6 = .ok (.if_icmp .ge 19, 3) := by decide +kernel
theorem d_M_fourCoins_9 : decode b_M_fourCoins 9 = .ok (.iload_n 1, 1) := by decide +kernel
theorem d_M_fourCoins_10 : decode b_M_fourCoins 10 = .ok (.bipush 8, 2) := by decide +kernel
theorem d_M_fourCoins_12 : decode b_M_fourCoins 12 = .ok (.ishl, 1) := by decide +kernel
theorem d_M_fourCoins_13 : decode b_M_fourCoins 13 = .ok (.aload_n 0, 1) := by decide +kernel
theorem d_M_fourCoins_14 : decode b_M_fourCoins 14 = .ok (.invokevirtual 441, 3) := by decide +kernel
theorem d_M_fourCoins_17 : decode b_M_fourCoins 17 = .ok (.ior, 1) := by decide +kernel
theorem d_M_fourCoins_18 : decode b_M_fourCoins 18 = .ok (.istore_n 1, 1) := by decide +kernel
theorem d_M_fourCoins_19 : decode b_M_fourCoins 19 = .ok (.iinc 2 1, 3) := by decide +kernel
theorem d_M_fourCoins_22 : decode b_M_fourCoins 22 = .ok (.goto (-18), 3) := by decide +kernel
theorem d_M_fourCoins_25 : decode b_M_fourCoins 25 = .ok (.iload_n 1, 1) := by decide +kernel
theorem d_M_fourCoins_26 : decode b_M_fourCoins 26 = .ok (.ireturn, 1) := by decide +kernel
abbrev b_M_seal : ByteArray := prog_14_method_33_code
def y_M_seal : MethodName := ⟨R_M, "seal", "([BIIII)V"⟩
abbrev k_M_seal : Cond := .code y_M_seal b_M_seal 11 none
theorem ki_M_seal : k_M_seal ∈ lw_tg := List.mem_filter.mpr ⟨List.mem_append_right _ (List.mem_append_right _ (List.mem_append_right _ (List.mem_append_right _ (List.mem_append_right _ (List.mem_append_right _ (List.mem_append_right _ (List.mem_append_right _ (List.mem_append_right _ (List.mem_append_right _ (List.mem_append_right _ (List.mem_append_left _ (List.mem_of_getElem? (i := 229) rfl)))))))))))), rfl⟩
theorem ks_M_seal : Cond.instanceMethod y_M_seal ∈ lw_tg := in_t 2628 (by decide +kernel)
theorem kx_M_seal : Cond.selects R_M y_M_seal y_M_seal ∈ lw_tg := List.mem_filter.mpr ⟨List.mem_append_left _ (List.mem_of_getElem? (i := 150) (by decide +kernel)), rfl⟩
theorem kl_M_seal : Cond.methodLink R_M 867 y_M_seal ∈ lw_tg := in_t 2626 (by decide +kernel)
theorem hd_M_seal : y_M_seal.cls = R_M ∧ y_M_seal.cls ≠ "java/lang/invoke/MethodHandle" ∧ y_M_seal.cls ≠ "java/lang/invoke/VarHandle" ∧ (parseMethodDescriptor y_M_seal.desc).map (fun d => d.parameters.length) = some 5 := by decide +kernel
theorem d_M_seal_0 : decode b_M_seal 0 = .ok (.bipush 16, 2) := by decide +kernel
theorem d_M_seal_2 : decode b_M_seal 2 = .ok (.iload 5, 2) := by decide +kernel
theorem d_M_seal_4 : decode b_M_seal 4 = .ok (.iadd, 1) := by decide +kernel
theorem d_M_seal_5 : decode b_M_seal 5 = .ok (.iload 4, 2) := by decide +kernel
theorem d_M_seal_7 : decode b_M_seal 7 = .ok (.isub, 1) := by decide +kernel
theorem d_M_seal_8 : decode b_M_seal 8 = .ok (.istore 6, 2) := by decide +kernel
theorem d_M_seal_10 : decode b_M_seal 10 = .ok (.iconst 0, 1) := by decide +kernel
theorem d_M_seal_11 : decode b_M_seal 11 = .ok (.istore 7, 2) := by decide +kernel
theorem d_M_seal_13 : decode b_M_seal 13 = .ok (.iload 7, 2) := by decide +kernel
theorem d_M_seal_15 : decode b_M_seal 15 = .ok (.bipush 16, 2) := by decide +kernel
theorem d_M_seal_17 : decode b_M_seal 17 = .ok (.if_icmp .ge 21, 3) := by decide +kernel
theorem d_M_seal_20 : decode b_M_seal 20 = .ok (.aload_n 0, 1) := by decide +kernel
theorem d_M_seal_21 : decode b_M_seal 21 = .ok (.getfield 89, 3) := by decide +kernel
theorem d_M_seal_24 : decode b_M_seal 24 = .ok (.iload 7, 2) := by decide +kernel
theorem d_M_seal_26 : decode b_M_seal 26 = .ok (.aload_n 0, 1) := by decide +kernel
theorem d_M_seal_27 : decode b_M_seal 27 = .ok (.invokevirtual 441, 3) := by decide +kernel
theorem d_M_seal_30 : decode b_M_seal 30 = .ok (.i2b, 1) := by decide +kernel
theorem d_M_seal_31 : decode b_M_seal 31 = .ok (.bastore, 1) := by decide +kernel
theorem d_M_seal_32 : decode b_M_seal 32 = .ok (.iinc 7 1, 3) := by decide +kernel
theorem d_M_seal_35 : decode b_M_seal 35 = .ok (.goto (-22), 3) := by decide +kernel
theorem d_M_seal_38 : decode b_M_seal 38 = .ok (.iload 4, 2) := by decide +kernel
theorem d_M_seal_40 : decode b_M_seal 40 = .ok (.istore 7, 2) := by decide +kernel
theorem d_M_seal_42 : decode b_M_seal 42 = .ok (.iload 7, 2) := by decide +kernel
theorem d_M_seal_44 : decode b_M_seal 44 = .ok (.iload 5, 2) := by decide +kernel
theorem d_M_seal_46 : decode b_M_seal 46 = .ok (.if_icmp .ge 29, 3) := by decide +kernel
theorem d_M_seal_49 : decode b_M_seal 49 = .ok (.aload_n 0, 1) := by decide +kernel
theorem d_M_seal_50 : decode b_M_seal 50 = .ok (.getfield 89, 3) := by decide +kernel
theorem d_M_seal_53 : decode b_M_seal 53 = .ok (.bipush 16, 2) := by decide +kernel
theorem d_M_seal_55 : decode b_M_seal 55 = .ok (.iload 7, 2) := by decide +kernel
theorem d_M_seal_57 : decode b_M_seal 57 = .ok (.iadd, 1) := by decide +kernel
theorem d_M_seal_58 : decode b_M_seal 58 = .ok (.iload 4, 2) := by decide +kernel
theorem d_M_seal_60 : decode b_M_seal 60 = .ok (.isub, 1) := by decide +kernel
theorem d_M_seal_61 : decode b_M_seal 61 = .ok (.aload_n 0, 1) := by decide +kernel
theorem d_M_seal_62 : decode b_M_seal 62 = .ok (.getfield 10, 3) := by decide +kernel
theorem d_M_seal_65 : decode b_M_seal 65 = .ok (.iload 7, 2) := by decide +kernel
theorem d_M_seal_67 : decode b_M_seal 67 = .ok (.baload, 1) := by decide +kernel
theorem d_M_seal_68 : decode b_M_seal 68 = .ok (.bastore, 1) := by decide +kernel
theorem d_M_seal_69 : decode b_M_seal 69 = .ok (.iinc 7 1, 3) := by decide +kernel
theorem d_M_seal_72 : decode b_M_seal 72 = .ok (.goto (-30), 3) := by decide +kernel
theorem d_M_seal_75 : decode b_M_seal 75 = .ok (.aload_n 0, 1) := by decide +kernel
theorem d_M_seal_76 : decode b_M_seal 76 = .ok (.aload_n 1, 1) := by decide +kernel
theorem d_M_seal_77 : decode b_M_seal 77 = .ok (.iload_n 2, 1) := by decide +kernel
theorem d_M_seal_78 : decode b_M_seal 78 = .ok (.invokestatic 438, 3) := by decide +kernel
theorem d_M_seal_81 : decode b_M_seal 81 = .ok (.iload_n 3, 1) := by decide +kernel
theorem d_M_seal_82 : decode b_M_seal 82 = .ok (.bipush 85, 2) := by decide +kernel
theorem d_M_seal_84 : decode b_M_seal 84 = .ok (.invokevirtual 443, 3) := by decide +kernel
theorem d_M_seal_87 : decode b_M_seal 87 = .ok (.aload_n 0, 1) := by decide +kernel
theorem d_M_seal_88 : decode b_M_seal 88 = .ok (.aload_n 0, 1) := by decide +kernel
theorem d_M_seal_89 : decode b_M_seal 89 = .ok (.getfield 68, 3) := by decide +kernel
theorem d_M_seal_92 : decode b_M_seal 92 = .ok (.iload_n 2, 1) := by decide +kernel
theorem d_M_seal_93 : decode b_M_seal 93 = .ok (.invokestatic 438, 3) := by decide +kernel
theorem d_M_seal_96 : decode b_M_seal 96 = .ok (.invokevirtual 421, 3) := by decide +kernel
theorem d_M_seal_99 : decode b_M_seal 99 = .ok (.aload_n 0, 1) := by decide +kernel
theorem d_M_seal_100 : decode b_M_seal 100 = .ok (.invokevirtual 423, 3) := by decide +kernel
theorem d_M_seal_103 : decode b_M_seal 103 = .ok (.iconst 0, 1) := by decide +kernel
theorem d_M_seal_104 : decode b_M_seal 104 = .ok (.istore 7, 2) := by decide +kernel
theorem d_M_seal_106 : decode b_M_seal 106 = .ok (.iload 7, 2) := by decide +kernel
theorem d_M_seal_108 : decode b_M_seal 108 = .ok (.iload 6, 2) := by decide +kernel
theorem d_M_seal_110 : decode b_M_seal 110 = .ok (.if_icmp .ge 20, 3) := by decide +kernel
theorem d_M_seal_113 : decode b_M_seal 113 = .ok (.aload_n 0, 1) := by decide +kernel
theorem d_M_seal_114 : decode b_M_seal 114 = .ok (.aload_n 0, 1) := by decide +kernel
theorem d_M_seal_115 : decode b_M_seal 115 = .ok (.getfield 89, 3) := by decide +kernel
theorem d_M_seal_118 : decode b_M_seal 118 = .ok (.iload 7, 2) := by decide +kernel
theorem d_M_seal_120 : decode b_M_seal 120 = .ok (.baload, 1) := by decide +kernel
theorem d_M_seal_121 : decode b_M_seal 121 = .ok (.invokevirtual 370, 3) := by decide +kernel
theorem d_M_seal_124 : decode b_M_seal 124 = .ok (.iinc 7 1, 3) := by decide +kernel
theorem d_M_seal_127 : decode b_M_seal 127 = .ok (.goto (-21), 3) := by decide +kernel
theorem d_M_seal_130 : decode b_M_seal 130 = .ok (.aload_n 0, 1) := by decide +kernel
theorem d_M_seal_131 : decode b_M_seal 131 = .ok (.invokevirtual 429, 3) := by decide +kernel
theorem d_M_seal_134 : decode b_M_seal 134 = .ok (.iconst 0, 1) := by decide +kernel
theorem d_M_seal_135 : decode b_M_seal 135 = .ok (.istore 7, 2) := by decide +kernel
theorem d_M_seal_137 : decode b_M_seal 137 = .ok (.iload 7, 2) := by decide +kernel
theorem d_M_seal_139 : decode b_M_seal 139 = .ok (.bipush 12, 2) := by decide +kernel
theorem d_M_seal_141 : decode b_M_seal 141 = .ok (.if_icmp .ge 26, 3) := by decide +kernel
theorem d_M_seal_144 : decode b_M_seal 144 = .ok (.aload_n 0, 1) := by decide +kernel
theorem d_M_seal_145 : decode b_M_seal 145 = .ok (.getfield 92, 3) := by decide +kernel
theorem d_M_seal_148 : decode b_M_seal 148 = .ok (.iload 6, 2) := by decide +kernel
theorem d_M_seal_150 : decode b_M_seal 150 = .ok (.iload 7, 2) := by decide +kernel
theorem d_M_seal_152 : decode b_M_seal 152 = .ok (.iadd, 1) := by decide +kernel
theorem d_M_seal_153 : decode b_M_seal 153 = .ok (.aload_n 0, 1) := by decide +kernel
theorem d_M_seal_154 : decode b_M_seal 154 = .ok (.getfield 35, 3) := by decide +kernel
theorem d_M_seal_157 : decode b_M_seal 157 = .ok (.iload 7, 2) := by decide +kernel
theorem d_M_seal_159 : decode b_M_seal 159 = .ok (.baload, 1) := by decide +kernel
theorem d_M_seal_160 : decode b_M_seal 160 = .ok (.bastore, 1) := by decide +kernel
theorem d_M_seal_161 : decode b_M_seal 161 = .ok (.iinc 7 1, 3) := by decide +kernel
theorem d_M_seal_164 : decode b_M_seal 164 = .ok (.goto (-27), 3) := by decide +kernel
theorem d_M_seal_167 : decode b_M_seal 167 = .ok (.aload_n 0, 1) := by decide +kernel
theorem d_M_seal_168 : decode b_M_seal 168 = .ok (.aload_n 1, 1) := by decide +kernel
theorem d_M_seal_169 : decode b_M_seal 169 = .ok (.iload_n 2, 1) := by decide +kernel
theorem d_M_seal_170 : decode b_M_seal 170 = .ok (.invokestatic 438, 3) := by decide +kernel
theorem d_M_seal_173 : decode b_M_seal 173 = .ok (.iload_n 3, 1) := by decide +kernel
theorem d_M_seal_174 : decode b_M_seal 174 = .ok (.sipush 170, 3) := by decide +kernel
theorem d_M_seal_177 : decode b_M_seal 177 = .ok (.invokevirtual 443, 3) := by decide +kernel
theorem d_M_seal_180 : decode b_M_seal 180 = .ok (.aload_n 0, 1) := by decide +kernel
theorem d_M_seal_181 : decode b_M_seal 181 = .ok (.aload_n 0, 1) := by decide +kernel
theorem d_M_seal_182 : decode b_M_seal 182 = .ok (.getfield 68, 3) := by decide +kernel
theorem d_M_seal_185 : decode b_M_seal 185 = .ok (.iload_n 2, 1) := by decide +kernel
theorem d_M_seal_186 : decode b_M_seal 186 = .ok (.invokestatic 438, 3) := by decide +kernel
theorem d_M_seal_189 : decode b_M_seal 189 = .ok (.invokevirtual 408, 3) := by decide +kernel
theorem d_M_seal_192 : decode b_M_seal 192 = .ok (.iload 6, 2) := by decide +kernel
theorem d_M_seal_194 : decode b_M_seal 194 = .ok (.bipush 15, 2) := by decide +kernel
theorem d_M_seal_196 : decode b_M_seal 196 = .ok (.iadd, 1) := by decide +kernel
theorem d_M_seal_197 : decode b_M_seal 197 = .ok (.bipush 16, 2) := by decide +kernel
theorem d_M_seal_199 : decode b_M_seal 199 = .ok (.idiv, 1) := by decide +kernel
theorem d_M_seal_200 : decode b_M_seal 200 = .ok (.istore 7, 2) := by decide +kernel
theorem d_M_seal_202 : decode b_M_seal 202 = .ok (.iconst 0, 1) := by decide +kernel
theorem d_M_seal_203 : decode b_M_seal 203 = .ok (.istore 8, 2) := by decide +kernel
theorem d_M_seal_205 : decode b_M_seal 205 = .ok (.iload 8, 2) := by decide +kernel
theorem d_M_seal_207 : decode b_M_seal 207 = .ok (.bipush 16, 2) := by decide +kernel
theorem d_M_seal_209 : decode b_M_seal 209 = .ok (.if_icmp .ge 17, 3) := by decide +kernel
theorem d_M_seal_212 : decode b_M_seal 212 = .ok (.aload_n 0, 1) := by decide +kernel
theorem d_M_seal_213 : decode b_M_seal 213 = .ok (.getfield 50, 3) := by decide +kernel
theorem d_M_seal_216 : decode b_M_seal 216 = .ok (.iload 8, 2) := by decide +kernel
theorem d_M_seal_218 : decode b_M_seal 218 = .ok (.iconst 0, 1) := by decide +kernel
theorem d_M_seal_219 : decode b_M_seal 219 = .ok (.iastore, 1) := by decide +kernel
theorem d_M_seal_220 : decode b_M_seal 220 = .ok (.iinc 8 1, 3) := by decide +kernel
theorem d_M_seal_223 : decode b_M_seal 223 = .ok (.goto (-18), 3) := by decide +kernel
theorem d_M_seal_226 : decode b_M_seal 226 = .ok (.iconst 0, 1) := by decide +kernel
theorem d_M_seal_227 : decode b_M_seal 227 = .ok (.istore 8, 2) := by decide +kernel
theorem d_M_seal_229 : decode b_M_seal 229 = .ok (.iload 8, 2) := by decide +kernel
theorem d_M_seal_231 : decode b_M_seal 231 = .ok (.iload 7, 2) := by decide +kernel
theorem d_M_seal_233 : decode b_M_seal 233 = .ok (.if_icmp .ge 170, 3) := by decide +kernel
theorem d_M_seal_236 : decode b_M_seal 236 = .ok (.iconst 0, 1) := by decide +kernel
theorem d_M_seal_237 : decode b_M_seal 237 = .ok (.istore 9, 2) := by decide +kernel
theorem d_M_seal_239 : decode b_M_seal 239 = .ok (.iload 9, 2) := by decide +kernel
theorem d_M_seal_241 : decode b_M_seal 241 = .ok (.bipush 16, 2) := by decide +kernel
theorem d_M_seal_243 : decode b_M_seal 243 = .ok (.if_icmp .ge 49, 3) := by decide +kernel
theorem d_M_seal_246 : decode b_M_seal 246 = .ok (.bipush 16, 2) := by decide +kernel
theorem d_M_seal_248 : decode b_M_seal 248 = .ok (.iload 8, 2) := by decide +kernel
theorem d_M_seal_250 : decode b_M_seal 250 = .ok (.imul, 1) := by decide +kernel
theorem d_M_seal_251 : decode b_M_seal 251 = .ok (.iload 9, 2) := by decide +kernel
theorem d_M_seal_253 : decode b_M_seal 253 = .ok (.iadd, 1) := by decide +kernel
theorem d_M_seal_254 : decode b_M_seal 254 = .ok (.iload 6, 2) := by decide +kernel
theorem d_M_seal_256 : decode b_M_seal 256 = .ok (.if_icmp .ge 30, 3) := by decide +kernel
theorem d_M_seal_259 : decode b_M_seal 259 = .ok (.aload_n 0, 1) := by decide +kernel
theorem d_M_seal_260 : decode b_M_seal 260 = .ok (.getfield 50, 3) := by decide +kernel
theorem d_M_seal_263 : decode b_M_seal 263 = .ok (.iload 9, 2) := by decide +kernel
theorem d_M_seal_265 : decode b_M_seal 265 = .ok (.dup2, 1) := by decide +kernel
theorem d_M_seal_266 : decode b_M_seal 266 = .ok (.iaload, 1) := by decide +kernel
theorem d_M_seal_267 : decode b_M_seal 267 = .ok (.aload_n 0, 1) := by decide +kernel
theorem d_M_seal_268 : decode b_M_seal 268 = .ok (.getfield 89, 3) := by decide +kernel
theorem d_M_seal_271 : decode b_M_seal 271 = .ok (.bipush 16, 2) := by decide +kernel
theorem d_M_seal_273 : decode b_M_seal 273 = .ok (.iload 8, 2) := by decide +kernel
theorem d_M_seal_275 : decode b_M_seal 275 = .ok (.imul, 1) := by decide +kernel
theorem d_M_seal_276 : decode b_M_seal 276 = .ok (.iload 9, 2) := by decide +kernel
theorem d_M_seal_278 : decode b_M_seal 278 = .ok (.iadd, 1) := by decide +kernel
theorem d_M_seal_279 : decode b_M_seal 279 = .ok (.baload, 1) := by decide +kernel
theorem d_M_seal_280 : decode b_M_seal 280 = .ok (.sipush 255, 3) := by decide +kernel
theorem d_M_seal_283 : decode b_M_seal 283 = .ok (.iand, 1) := by decide +kernel
theorem d_M_seal_284 : decode b_M_seal 284 = .ok (.ixor, 1) := by decide +kernel
theorem d_M_seal_285 : decode b_M_seal 285 = .ok (.iastore, 1) := by decide +kernel
theorem d_M_seal_286 : decode b_M_seal 286 = .ok (.iinc 9 1, 3) := by decide +kernel
theorem d_M_seal_289 : decode b_M_seal 289 = .ok (.goto (-50), 3) := by decide +kernel
theorem d_M_seal_292 : decode b_M_seal 292 = .ok (.aload_n 0, 1) := by decide +kernel
theorem d_M_seal_293 : decode b_M_seal 293 = .ok (.invokevirtual 411, 3) := by decide +kernel
theorem d_M_seal_296 : decode b_M_seal 296 = .ok (.iload 7, 2) := by decide +kernel
theorem d_M_seal_298 : decode b_M_seal 298 = .ok (.iconst 1, 1) := by decide +kernel
theorem d_M_seal_299 : decode b_M_seal 299 = .ok (.if_icmp .le 22, 3) := by decide +kernel
theorem d_M_seal_302 : decode b_M_seal 302 = .ok (.iload 8, 2) := by decide +kernel
theorem d_M_seal_304 : decode b_M_seal 304 = .ok (.iload 7, 2) := by decide +kernel
theorem d_M_seal_306 : decode b_M_seal 306 = .ok (.iconst 1, 1) := by decide +kernel
theorem d_M_seal_307 : decode b_M_seal 307 = .ok (.isub, 1) := by decide +kernel
theorem d_M_seal_308 : decode b_M_seal 308 = .ok (.if_icmp .ne 13, 3) := by decide +kernel
theorem d_M_seal_311 : decode b_M_seal 311 = .ok (.bipush 16, 2) := by decide +kernel
theorem d_M_seal_313 : decode b_M_seal 313 = .ok (.iload 8, 2) := by decide +kernel
theorem d_M_seal_315 : decode b_M_seal 315 = .ok (.iconst 1, 1) := by decide +kernel
theorem d_M_seal_316 : decode b_M_seal 316 = .ok (.isub, 1) := by decide +kernel
theorem d_M_seal_317 : decode b_M_seal 317 = .ok (.imul, 1) := by decide +kernel
theorem d_M_seal_318 : decode b_M_seal 318 = .ok (.goto 33, 3) := by decide +kernel
theorem d_M_seal_321 : decode b_M_seal 321 = .ok (.iload 7, 2) := by decide +kernel
theorem d_M_seal_323 : decode b_M_seal 323 = .ok (.iconst 1, 1) := by decide +kernel
theorem d_M_seal_324 : decode b_M_seal 324 = .ok (.if_icmp .le 22, 3) := by decide +kernel
theorem d_M_seal_327 : decode b_M_seal 327 = .ok (.iload 8, 2) := by decide +kernel
theorem d_M_seal_329 : decode b_M_seal 329 = .ok (.iload 7, 2) := by decide +kernel
theorem d_M_seal_331 : decode b_M_seal 331 = .ok (.iconst 2, 1) := by decide +kernel
theorem d_M_seal_332 : decode b_M_seal 332 = .ok (.isub, 1) := by decide +kernel
theorem d_M_seal_333 : decode b_M_seal 333 = .ok (.if_icmp .ne 13, 3) := by decide +kernel
theorem d_M_seal_336 : decode b_M_seal 336 = .ok (.bipush 16, 2) := by decide +kernel
theorem d_M_seal_338 : decode b_M_seal 338 = .ok (.iload 8, 2) := by decide +kernel
theorem d_M_seal_340 : decode b_M_seal 340 = .ok (.iconst 1, 1) := by decide +kernel
theorem d_M_seal_341 : decode b_M_seal 341 = .ok (.iadd, 1) := by decide +kernel
theorem d_M_seal_342 : decode b_M_seal 342 = .ok (.imul, 1) := by decide +kernel
theorem d_M_seal_343 : decode b_M_seal 343 = .ok (.goto 8, 3) := by decide +kernel
theorem d_M_seal_346 : decode b_M_seal 346 = .ok (.bipush 16, 2) := by decide +kernel
theorem d_M_seal_348 : decode b_M_seal 348 = .ok (.iload 8, 2) := by decide +kernel
theorem d_M_seal_350 : decode b_M_seal 350 = .ok (.imul, 1) := by decide +kernel
theorem d_M_seal_351 : decode b_M_seal 351 = .ok (.istore 9, 2) := by decide +kernel
theorem d_M_seal_353 : decode b_M_seal 353 = .ok (.iconst 0, 1) := by decide +kernel
theorem d_M_seal_354 : decode b_M_seal 354 = .ok (.istore 10, 2) := by decide +kernel
theorem d_M_seal_356 : decode b_M_seal 356 = .ok (.iload 10, 2) := by decide +kernel
theorem d_M_seal_358 : decode b_M_seal 358 = .ok (.bipush 16, 2) := by decide +kernel
theorem d_M_seal_360 : decode b_M_seal 360 = .ok (.if_icmp .ge 37, 3) := by decide +kernel
theorem d_M_seal_363 : decode b_M_seal 363 = .ok (.iload 9, 2) := by decide +kernel
theorem d_M_seal_365 : decode b_M_seal 365 = .ok (.iload 10, 2) := by decide +kernel
theorem d_M_seal_367 : decode b_M_seal 367 = .ok (.iadd, 1) := by decide +kernel
theorem d_M_seal_368 : decode b_M_seal 368 = .ok (.iload 6, 2) := by decide +kernel
theorem d_M_seal_370 : decode b_M_seal 370 = .ok (.if_icmp .ge 21, 3) := by decide +kernel
theorem d_M_seal_373 : decode b_M_seal 373 = .ok (.aload_n 0, 1) := by decide +kernel
theorem d_M_seal_374 : decode b_M_seal 374 = .ok (.getfield 92, 3) := by decide +kernel
theorem d_M_seal_377 : decode b_M_seal 377 = .ok (.iload 9, 2) := by decide +kernel
theorem d_M_seal_379 : decode b_M_seal 379 = .ok (.iload 10, 2) := by decide +kernel
theorem d_M_seal_381 : decode b_M_seal 381 = .ok (.iadd, 1) := by decide +kernel
theorem d_M_seal_382 : decode b_M_seal 382 = .ok (.aload_n 0, 1) := by decide +kernel
theorem d_M_seal_383 : decode b_M_seal 383 = .ok (.getfield 50, 3) := by decide +kernel
theorem d_M_seal_386 : decode b_M_seal 386 = .ok (.iload 10, 2) := by decide +kernel
theorem d_M_seal_388 : decode b_M_seal 388 = .ok (.iaload, 1) := by decide +kernel
theorem d_M_seal_389 : decode b_M_seal 389 = .ok (.i2b, 1) := by decide +kernel
theorem d_M_seal_390 : decode b_M_seal 390 = .ok (.bastore, 1) := by decide +kernel
theorem d_M_seal_391 : decode b_M_seal 391 = .ok (.iinc 10 1, 3) := by decide +kernel
theorem d_M_seal_394 : decode b_M_seal 394 = .ok (.goto (-38), 3) := by decide +kernel
theorem d_M_seal_397 : decode b_M_seal 397 = .ok (.iinc 8 1, 3) := by decide +kernel
theorem d_M_seal_400 : decode b_M_seal 400 = .ok (.goto (-171), 3) := by decide +kernel
theorem d_M_seal_403 : decode b_M_seal 403 = .ok (.aload_n 0, 1) := by decide +kernel
theorem d_M_seal_404 : decode b_M_seal 404 = .ok (.iload 6, 2) := by decide +kernel
theorem d_M_seal_406 : decode b_M_seal 406 = .ok (.bipush 12, 2) := by decide +kernel
theorem d_M_seal_408 : decode b_M_seal 408 = .ok (.iadd, 1) := by decide +kernel
theorem d_M_seal_409 : decode b_M_seal 409 = .ok (.putfield 447, 3) := by decide +kernel
theorem d_M_seal_412 : decode b_M_seal 412 = .ok (.return_, 1) := by decide +kernel
abbrev b_M_open : ByteArray := prog_14_method_34_code
def y_M_open : MethodName := ⟨R_M, "open", "([BIIIII)I"⟩
abbrev k_M_open : Cond := .code y_M_open b_M_open 13 (some .int)
theorem ki_M_open : k_M_open ∈ lw_tg := List.mem_filter.mpr ⟨List.mem_append_right _ (List.mem_append_right _ (List.mem_append_right _ (List.mem_append_right _ (List.mem_append_right _ (List.mem_append_right _ (List.mem_append_right _ (List.mem_append_right _ (List.mem_append_right _ (List.mem_append_right _ (List.mem_append_right _ (List.mem_append_left _ (List.mem_of_getElem? (i := 114) rfl)))))))))))), rfl⟩
theorem ks_M_open : Cond.instanceMethod y_M_open ∈ lw_tg := in_t 2513 (by decide +kernel)
theorem kx_M_open : Cond.selects R_M y_M_open y_M_open ∈ lw_tg := List.mem_filter.mpr ⟨List.mem_append_left _ (List.mem_of_getElem? (i := 123) (by decide +kernel)), rfl⟩
theorem kl_M_open : Cond.methodLink R_M 765 y_M_open ∈ lw_tg := in_t 2511 (by decide +kernel)
theorem hd_M_open : y_M_open.cls = R_M ∧ y_M_open.cls ≠ "java/lang/invoke/MethodHandle" ∧ y_M_open.cls ≠ "java/lang/invoke/VarHandle" ∧ (parseMethodDescriptor y_M_open.desc).map (fun d => d.parameters.length) = some 6 := by decide +kernel
theorem d_M_open_0 : decode b_M_open 0 = .ok (.iload 5, 2) := by decide +kernel
theorem d_M_open_2 : decode b_M_open 2 = .ok (.iload 4, 2) := by decide +kernel
theorem d_M_open_4 : decode b_M_open 4 = .ok (.isub, 1) := by decide +kernel
theorem d_M_open_5 : decode b_M_open 5 = .ok (.istore 7, 2) := by decide +kernel
theorem d_M_open_7 : decode b_M_open 7 = .ok (.iload 7, 2) := by decide +kernel
theorem d_M_open_9 : decode b_M_open 9 = .ok (.bipush 28, 2) := by decide +kernel
theorem d_M_open_11 : decode b_M_open 11 = .ok (.if_icmp .ge 5, 3) := by decide +kernel
theorem d_M_open_14 : decode b_M_open 14 = .ok (.iconst (-1), 1) := by decide +kernel
theorem d_M_open_15 : decode b_M_open 15 = .ok (.ireturn, 1) := by decide +kernel
theorem d_M_open_16 : decode b_M_open 16 = .ok (.iload 7, 2) := by decide +kernel
theorem d_M_open_18 : decode b_M_open 18 = .ok (.bipush 12, 2) := by decide +kernel
theorem d_M_open_20 : decode b_M_open 20 = .ok (.isub, 1) := by decide +kernel
theorem d_M_open_21 : decode b_M_open 21 = .ok (.istore 8, 2) := by decide +kernel
theorem d_M_open_23 : decode b_M_open 23 = .ok (.aload_n 0, 1) := by decide +kernel
theorem d_M_open_24 : decode b_M_open 24 = .ok (.aload_n 1, 1) := by decide +kernel
theorem d_M_open_25 : decode b_M_open 25 = .ok (.iload_n 2, 1) := by decide +kernel
theorem d_M_open_26 : decode b_M_open 26 = .ok (.invokestatic 438, 3) := by decide +kernel
theorem d_M_open_29 : decode b_M_open 29 = .ok (.iload_n 3, 1) := by decide +kernel
theorem d_M_open_30 : decode b_M_open 30 = .ok (.sipush 170, 3) := by decide +kernel
theorem d_M_open_33 : decode b_M_open 33 = .ok (.invokevirtual 443, 3) := by decide +kernel
theorem d_M_open_36 : decode b_M_open 36 = .ok (.aload_n 0, 1) := by decide +kernel
theorem d_M_open_37 : decode b_M_open 37 = .ok (.aload_n 0, 1) := by decide +kernel
theorem d_M_open_38 : decode b_M_open 38 = .ok (.getfield 68, 3) := by decide +kernel
theorem d_M_open_41 : decode b_M_open 41 = .ok (.iload_n 2, 1) := by decide +kernel
theorem d_M_open_42 : decode b_M_open 42 = .ok (.invokestatic 438, 3) := by decide +kernel
theorem d_M_open_45 : decode b_M_open 45 = .ok (.invokevirtual 408, 3) := by decide +kernel
theorem d_M_open_48 : decode b_M_open 48 = .ok (.iload 8, 2) := by decide +kernel
theorem d_M_open_50 : decode b_M_open 50 = .ok (.bipush 15, 2) := by decide +kernel
theorem d_M_open_52 : decode b_M_open 52 = .ok (.iadd, 1) := by decide +kernel
theorem d_M_open_53 : decode b_M_open 53 = .ok (.bipush 16, 2) := by decide +kernel
theorem d_M_open_55 : decode b_M_open 55 = .ok (.idiv, 1) := by decide +kernel
theorem d_M_open_56 : decode b_M_open 56 = .ok (.istore 9, 2) := by decide +kernel
theorem d_M_open_58 : decode b_M_open 58 = .ok (.iconst 0, 1) := by decide +kernel
theorem d_M_open_59 : decode b_M_open 59 = .ok (.istore 10, 2) := by decide +kernel
theorem d_M_open_61 : decode b_M_open 61 = .ok (.iload 10, 2) := by decide +kernel
theorem d_M_open_63 : decode b_M_open 63 = .ok (.iload 9, 2) := by decide +kernel
theorem d_M_open_65 : decode b_M_open 65 = .ok (.if_icmp .ge 143, 3) := by decide +kernel
theorem d_M_open_68 : decode b_M_open 68 = .ok (.iload 9, 2) := by decide +kernel
theorem d_M_open_70 : decode b_M_open 70 = .ok (.iconst 1, 1) := by decide +kernel
theorem d_M_open_71 : decode b_M_open 71 = .ok (.if_icmp .le 15, 3) := by decide +kernel
theorem d_M_open_74 : decode b_M_open 74 = .ok (.iload 10, 2) := by decide +kernel
theorem d_M_open_76 : decode b_M_open 76 = .ok (.iload 9, 2) := by decide +kernel
theorem d_M_open_78 : decode b_M_open 78 = .ok (.iconst 2, 1) := by decide +kernel
theorem d_M_open_79 : decode b_M_open 79 = .ok (.isub, 1) := by decide +kernel
theorem d_M_open_80 : decode b_M_open 80 = .ok (.if_icmp .lt 6, 3) := by decide +kernel
theorem d_M_open_83 : decode b_M_open 83 = .ok (.goto 125, 3) := by decide +kernel
theorem d_M_open_86 : decode b_M_open 86 = .ok (.iconst 0, 1) := by decide +kernel
theorem d_M_open_87 : decode b_M_open 87 = .ok (.istore 11, 2) := by decide +kernel
theorem d_M_open_89 : decode b_M_open 89 = .ok (.iload 11, 2) := by decide +kernel
theorem d_M_open_91 : decode b_M_open 91 = .ok (.bipush 16, 2) := by decide +kernel
theorem d_M_open_93 : decode b_M_open 93 = .ok (.if_icmp .ge 36, 3) := by decide +kernel
theorem d_M_open_96 : decode b_M_open 96 = .ok (.aload_n 0, 1) := by decide +kernel
theorem d_M_open_97 : decode b_M_open 97 = .ok (.getfield 50, 3) := by decide +kernel
theorem d_M_open_100 : decode b_M_open 100 = .ok (.iload 11, 2) := by decide +kernel
theorem d_M_open_102 : decode b_M_open 102 = .ok (.aload_n 0, 1) := by decide +kernel
theorem d_M_open_103 : decode b_M_open 103 = .ok (.getfield 10, 3) := by decide +kernel
theorem d_M_open_106 : decode b_M_open 106 = .ok (.iload 4, 2) := by decide +kernel
theorem d_M_open_108 : decode b_M_open 108 = .ok (.bipush 16, 2) := by decide +kernel
theorem d_M_open_110 : decode b_M_open 110 = .ok (.iload 10, 2) := by decide +kernel
theorem d_M_open_112 : decode b_M_open 112 = .ok (.imul, 1) := by decide +kernel
theorem d_M_open_113 : decode b_M_open 113 = .ok (.iadd, 1) := by decide +kernel
theorem d_M_open_114 : decode b_M_open 114 = .ok (.iload 11, 2) := by decide +kernel
theorem d_M_open_116 : decode b_M_open 116 = .ok (.iadd, 1) := by decide +kernel
theorem d_M_open_117 : decode b_M_open 117 = .ok (.baload, 1) := by decide +kernel
theorem d_M_open_118 : decode b_M_open 118 = .ok (.sipush 255, 3) := by decide +kernel
theorem d_M_open_121 : decode b_M_open 121 = .ok (.iand, 1) := by decide +kernel
theorem d_M_open_122 : decode b_M_open 122 = .ok (.iastore, 1) := by decide +kernel
theorem d_M_open_123 : decode b_M_open 123 = .ok (.iinc 11 1, 3) := by decide +kernel
theorem d_M_open_126 : decode b_M_open 126 = .ok (.goto (-37), 3) := by decide +kernel
theorem d_M_open_129 : decode b_M_open 129 = .ok (.aload_n 0, 1) := by decide +kernel
theorem d_M_open_130 : decode b_M_open 130 = .ok (.invokevirtual 450, 3) := by decide +kernel
theorem d_M_open_133 : decode b_M_open 133 = .ok (.iconst 0, 1) := by decide +kernel
theorem d_M_open_134 : decode b_M_open 134 = .ok (.istore 11, 2) := by decide +kernel
theorem d_M_open_136 : decode b_M_open 136 = .ok (.iload 11, 2) := by decide +kernel
theorem d_M_open_138 : decode b_M_open 138 = .ok (.bipush 16, 2) := by decide +kernel
theorem d_M_open_140 : decode b_M_open 140 = .ok (.if_icmp .ge 62, 3) := by decide +kernel
theorem d_M_open_143 : decode b_M_open 143 = .ok (.aload_n 0, 1) := by decide +kernel
theorem d_M_open_144 : decode b_M_open 144 = .ok (.getfield 89, 3) := by decide +kernel
theorem d_M_open_147 : decode b_M_open 147 = .ok (.bipush 16, 2) := by decide +kernel
theorem d_M_open_149 : decode b_M_open 149 = .ok (.iload 10, 2) := by decide +kernel
theorem d_M_open_151 : decode b_M_open 151 = .ok (.imul, 1) := by decide +kernel
theorem d_M_open_152 : decode b_M_open 152 = .ok (.iload 11, 2) := by decide +kernel
theorem d_M_open_154 : decode b_M_open 154 = .ok (.iadd, 1) := by decide +kernel
theorem d_M_open_155 : decode b_M_open 155 = .ok (.aload_n 0, 1) := by decide +kernel
theorem d_M_open_156 : decode b_M_open 156 = .ok (.getfield 50, 3) := by decide +kernel
theorem d_M_open_159 : decode b_M_open 159 = .ok (.iload 11, 2) := by decide +kernel
theorem d_M_open_161 : decode b_M_open 161 = .ok (.iaload, 1) := by decide +kernel
theorem d_M_open_162 : decode b_M_open 162 = .ok (.iload 10, 2) := by decide +kernel
theorem d_M_open_164 : decode b_M_open 164 = .ok (.ifCond .ne 7, 3) := by decide +kernel
theorem d_M_open_167 : decode b_M_open 167 = .ok (.iconst 0, 1) := by decide +kernel
theorem d_M_open_168 : decode b_M_open 168 = .ok (.goto 25, 3) := by decide +kernel
theorem d_M_open_171 : decode b_M_open 171 = .ok (.aload_n 0, 1) := by decide +kernel
theorem d_M_open_172 : decode b_M_open 172 = .ok (.getfield 10, 3) := by decide +kernel
theorem d_M_open_175 : decode b_M_open 175 = .ok (.iload 4, 2) := by decide +kernel
theorem d_M_open_177 : decode b_M_open 177 = .ok (.bipush 16, 2) := by decide +kernel
theorem d_M_open_179 : decode b_M_open 179 = .ok (.iload 10, 2) := by decide +kernel
theorem d_M_open_181 : decode b_M_open 181 = .ok (.iconst 1, 1) := by decide +kernel
theorem d_M_open_182 : decode b_M_open 182 = .ok (.isub, 1) := by decide +kernel
theorem d_M_open_183 : decode b_M_open 183 = .ok (.imul, 1) := by decide +kernel
theorem d_M_open_184 : decode b_M_open 184 = .ok (.iadd, 1) := by decide +kernel
theorem d_M_open_185 : decode b_M_open 185 = .ok (.iload 11, 2) := by decide +kernel
theorem d_M_open_187 : decode b_M_open 187 = .ok (.iadd, 1) := by decide +kernel
theorem d_M_open_188 : decode b_M_open 188 = .ok (.baload, 1) := by decide +kernel
theorem d_M_open_189 : decode b_M_open 189 = .ok (.sipush 255, 3) := by decide +kernel
theorem d_M_open_192 : decode b_M_open 192 = .ok (.iand, 1) := by decide +kernel
theorem d_M_open_193 : decode b_M_open 193 = .ok (.ixor, 1) := by decide +kernel
theorem d_M_open_194 : decode b_M_open 194 = .ok (.i2b, 1) := by decide +kernel
theorem d_M_open_195 : decode b_M_open 195 = .ok (.bastore, 1) := by decide +kernel
theorem d_M_open_196 : decode b_M_open 196 = .ok (.iinc 11 1, 3) := by decide +kernel
theorem d_M_open_199 : decode b_M_open 199 = .ok (.goto (-63), 3) := by decide +kernel
theorem d_M_open_202 : decode b_M_open 202 = .ok (.iinc 10 1, 3) := by decide +kernel
theorem d_M_open_205 : decode b_M_open 205 = .ok (.goto (-144), 3) := by decide +kernel
theorem d_M_open_208 : decode b_M_open 208 = .ok (.iload 9, 2) := by decide +kernel
theorem d_M_open_210 : decode b_M_open 210 = .ok (.iconst 1, 1) := by decide +kernel
theorem d_M_open_211 : decode b_M_open 211 = .ok (.if_icmp .le 237, 3) := by decide +kernel
theorem d_M_open_214 : decode b_M_open 214 = .ok (.bipush 16, 2) := by decide +kernel
theorem d_M_open_216 : decode b_M_open 216 = .ok (.iload 9, 2) := by decide +kernel
theorem d_M_open_218 : decode b_M_open 218 = .ok (.iconst 2, 1) := by decide +kernel
theorem d_M_open_219 : decode b_M_open 219 = .ok (.isub, 1) := by decide +kernel
theorem d_M_open_220 : decode b_M_open 220 = .ok (.imul, 1) := by decide +kernel
theorem d_M_open_221 : decode b_M_open 221 = .ok (.istore 10, 2) := by decide +kernel
theorem d_M_open_223 : decode b_M_open 223 = .ok (.iload 8, 2) := by decide +kernel
theorem d_M_open_225 : decode b_M_open 225 = .ok (.bipush 16, 2) := by decide +kernel
theorem d_M_open_227 : decode b_M_open 227 = .ok (.iload 9, 2) := by decide +kernel
theorem d_M_open_229 : decode b_M_open 229 = .ok (.iconst 1, 1) := by decide +kernel
theorem d_M_open_230 : decode b_M_open 230 = .ok (.isub, 1) := by decide +kernel
theorem d_M_open_231 : decode b_M_open 231 = .ok (.imul, 1) := by decide +kernel
theorem d_M_open_232 : decode b_M_open 232 = .ok (.isub, 1) := by decide +kernel
theorem d_M_open_233 : decode b_M_open 233 = .ok (.istore 11, 2) := by decide +kernel
theorem d_M_open_235 : decode b_M_open 235 = .ok (.iconst 0, 1) := by decide +kernel
theorem d_M_open_236 : decode b_M_open 236 = .ok (.istore 12, 2) := by decide +kernel
theorem d_M_open_238 : decode b_M_open 238 = .ok (.iload 12, 2) := by decide +kernel
theorem d_M_open_240 : decode b_M_open 240 = .ok (.bipush 16, 2) := by decide +kernel
theorem d_M_open_242 : decode b_M_open 242 = .ok (.if_icmp .ge 33, 3) := by decide +kernel
theorem d_M_open_245 : decode b_M_open 245 = .ok (.aload_n 0, 1) := by decide +kernel
theorem d_M_open_246 : decode b_M_open 246 = .ok (.getfield 50, 3) := by decide +kernel
theorem d_M_open_249 : decode b_M_open 249 = .ok (.iload 12, 2) := by decide +kernel
theorem d_M_open_251 : decode b_M_open 251 = .ok (.aload_n 0, 1) := by decide +kernel
theorem d_M_open_252 : decode b_M_open 252 = .ok (.getfield 10, 3) := by decide +kernel
theorem d_M_open_255 : decode b_M_open 255 = .ok (.iload 4, 2) := by decide +kernel
theorem d_M_open_257 : decode b_M_open 257 = .ok (.iload 10, 2) := by decide +kernel
theorem d_M_open_259 : decode b_M_open 259 = .ok (.iadd, 1) := by decide +kernel
theorem d_M_open_260 : decode b_M_open 260 = .ok (.iload 12, 2) := by decide +kernel
theorem d_M_open_262 : decode b_M_open 262 = .ok (.iadd, 1) := by decide +kernel
theorem d_M_open_263 : decode b_M_open 263 = .ok (.baload, 1) := by decide +kernel
theorem d_M_open_264 : decode b_M_open 264 = .ok (.sipush 255, 3) := by decide +kernel
theorem d_M_open_267 : decode b_M_open 267 = .ok (.iand, 1) := by decide +kernel
theorem d_M_open_268 : decode b_M_open 268 = .ok (.iastore, 1) := by decide +kernel
theorem d_M_open_269 : decode b_M_open 269 = .ok (.iinc 12 1, 3) := by decide +kernel
theorem d_M_open_272 : decode b_M_open 272 = .ok (.goto (-34), 3) := by decide +kernel
theorem d_M_open_275 : decode b_M_open 275 = .ok (.aload_n 0, 1) := by decide +kernel
theorem d_M_open_276 : decode b_M_open 276 = .ok (.invokevirtual 450, 3) := by decide +kernel
theorem d_M_open_279 : decode b_M_open 279 = .ok (.iconst 0, 1) := by decide +kernel
theorem d_M_open_280 : decode b_M_open 280 = .ok (.istore 12, 2) := by decide +kernel
theorem d_M_open_282 : decode b_M_open 282 = .ok (.iload 12, 2) := by decide +kernel
theorem d_M_open_284 : decode b_M_open 284 = .ok (.iload 11, 2) := by decide +kernel
theorem d_M_open_286 : decode b_M_open 286 = .ok (.if_icmp .ge 51, 3) := by decide +kernel
theorem d_M_open_289 : decode b_M_open 289 = .ok (.aload_n 0, 1) := by decide +kernel
theorem d_M_open_290 : decode b_M_open 290 = .ok (.getfield 89, 3) := by decide +kernel
theorem d_M_open_293 : decode b_M_open 293 = .ok (.iload 10, 2) := by decide +kernel
theorem d_M_open_295 : decode b_M_open 295 = .ok (.bipush 16, 2) := by decide +kernel
theorem d_M_open_297 : decode b_M_open 297 = .ok (.iadd, 1) := by decide +kernel
theorem d_M_open_298 : decode b_M_open 298 = .ok (.iload 12, 2) := by decide +kernel
theorem d_M_open_300 : decode b_M_open 300 = .ok (.iadd, 1) := by decide +kernel
theorem d_M_open_301 : decode b_M_open 301 = .ok (.aload_n 0, 1) := by decide +kernel
theorem d_M_open_302 : decode b_M_open 302 = .ok (.getfield 50, 3) := by decide +kernel
theorem d_M_open_305 : decode b_M_open 305 = .ok (.iload 12, 2) := by decide +kernel
theorem d_M_open_307 : decode b_M_open 307 = .ok (.iaload, 1) := by decide +kernel
theorem d_M_open_308 : decode b_M_open 308 = .ok (.aload_n 0, 1) := by decide +kernel
theorem d_M_open_309 : decode b_M_open 309 = .ok (.getfield 10, 3) := by decide +kernel
theorem d_M_open_312 : decode b_M_open 312 = .ok (.iload 4, 2) := by decide +kernel
theorem d_M_open_314 : decode b_M_open 314 = .ok (.iload 10, 2) := by decide +kernel
theorem d_M_open_316 : decode b_M_open 316 = .ok (.iadd, 1) := by decide +kernel
theorem d_M_open_317 : decode b_M_open 317 = .ok (.bipush 16, 2) := by decide +kernel
theorem d_M_open_319 : decode b_M_open 319 = .ok (.iadd, 1) := by decide +kernel
theorem d_M_open_320 : decode b_M_open 320 = .ok (.iload 12, 2) := by decide +kernel
theorem d_M_open_322 : decode b_M_open 322 = .ok (.iadd, 1) := by decide +kernel
theorem d_M_open_323 : decode b_M_open 323 = .ok (.baload, 1) := by decide +kernel
theorem d_M_open_324 : decode b_M_open 324 = .ok (.sipush 255, 3) := by decide +kernel
theorem d_M_open_327 : decode b_M_open 327 = .ok (.iand, 1) := by decide +kernel
theorem d_M_open_328 : decode b_M_open 328 = .ok (.ixor, 1) := by decide +kernel
theorem d_M_open_329 : decode b_M_open 329 = .ok (.i2b, 1) := by decide +kernel
theorem d_M_open_330 : decode b_M_open 330 = .ok (.bastore, 1) := by decide +kernel
theorem d_M_open_331 : decode b_M_open 331 = .ok (.iinc 12 1, 3) := by decide +kernel
theorem d_M_open_334 : decode b_M_open 334 = .ok (.goto (-52), 3) := by decide +kernel
theorem d_M_open_337 : decode b_M_open 337 = .ok (.iconst 0, 1) := by decide +kernel
theorem d_M_open_338 : decode b_M_open 338 = .ok (.istore 12, 2) := by decide +kernel
theorem d_M_open_340 : decode b_M_open 340 = .ok (.iload 12, 2) := by decide +kernel
theorem d_M_open_342 : decode b_M_open 342 = .ok (.iload 11, 2) := by decide +kernel
theorem d_M_open_344 : decode b_M_open 344 = .ok (.if_icmp .ge 36, 3) := by decide +kernel
theorem d_M_open_347 : decode b_M_open 347 = .ok (.aload_n 0, 1) := by decide +kernel
theorem d_M_open_348 : decode b_M_open 348 = .ok (.getfield 50, 3) := by decide +kernel
theorem d_M_open_351 : decode b_M_open 351 = .ok (.iload 12, 2) := by decide +kernel
theorem d_M_open_353 : decode b_M_open 353 = .ok (.aload_n 0, 1) := by decide +kernel
theorem d_M_open_354 : decode b_M_open 354 = .ok (.getfield 10, 3) := by decide +kernel
theorem d_M_open_357 : decode b_M_open 357 = .ok (.iload 4, 2) := by decide +kernel
theorem d_M_open_359 : decode b_M_open 359 = .ok (.iload 10, 2) := by decide +kernel
theorem d_M_open_361 : decode b_M_open 361 = .ok (.iadd, 1) := by decide +kernel
theorem d_M_open_362 : decode b_M_open 362 = .ok (.bipush 16, 2) := by decide +kernel
theorem d_M_open_364 : decode b_M_open 364 = .ok (.iadd, 1) := by decide +kernel
theorem d_M_open_365 : decode b_M_open 365 = .ok (.iload 12, 2) := by decide +kernel
theorem d_M_open_367 : decode b_M_open 367 = .ok (.iadd, 1) := by decide +kernel
theorem d_M_open_368 : decode b_M_open 368 = .ok (.baload, 1) := by decide +kernel
theorem d_M_open_369 : decode b_M_open 369 = .ok (.sipush 255, 3) := by decide +kernel
theorem d_M_open_372 : decode b_M_open 372 = .ok (.iand, 1) := by decide +kernel
theorem d_M_open_373 : decode b_M_open 373 = .ok (.iastore, 1) := by decide +kernel
theorem d_M_open_374 : decode b_M_open 374 = .ok (.iinc 12 1, 3) := by decide +kernel
theorem d_M_open_377 : decode b_M_open 377 = .ok (.goto (-37), 3) := by decide +kernel
theorem d_M_open_380 : decode b_M_open 380 = .ok (.aload_n 0, 1) := by decide +kernel
theorem d_M_open_381 : decode b_M_open 381 = .ok (.invokevirtual 450, 3) := by decide +kernel
theorem d_M_open_384 : decode b_M_open 384 = .ok (.iconst 0, 1) := by decide +kernel
theorem d_M_open_385 : decode b_M_open 385 = .ok (.istore 12, 2) := by decide +kernel
theorem d_M_open_387 : decode b_M_open 387 = .ok (.iload 12, 2) := by decide +kernel
theorem d_M_open_389 : decode b_M_open 389 = .ok (.bipush 16, 2) := by decide +kernel
theorem d_M_open_391 : decode b_M_open 391 = .ok (.if_icmp .ge 57, 3) := by decide +kernel
theorem d_M_open_394 : decode b_M_open 394 = .ok (.aload_n 0, 1) := by decide +kernel
theorem d_M_open_395 : decode b_M_open 395 = .ok (.getfield 89, 3) := by decide +kernel
theorem d_M_open_398 : decode b_M_open 398 = .ok (.iload 10, 2) := by decide +kernel
theorem d_M_open_400 : decode b_M_open 400 = .ok (.iload 12, 2) := by decide +kernel
theorem d_M_open_402 : decode b_M_open 402 = .ok (.iadd, 1) := by decide +kernel
theorem d_M_open_403 : decode b_M_open 403 = .ok (.aload_n 0, 1) := by decide +kernel
theorem d_M_open_404 : decode b_M_open 404 = .ok (.getfield 50, 3) := by decide +kernel
theorem d_M_open_407 : decode b_M_open 407 = .ok (.iload 12, 2) := by decide +kernel
theorem d_M_open_409 : decode b_M_open 409 = .ok (.iaload, 1) := by decide +kernel
theorem d_M_open_410 : decode b_M_open 410 = .ok (.iload 10, 2) := by decide +kernel
theorem d_M_open_412 : decode b_M_open 412 = .ok (.ifCond .ne 7, 3) := by decide +kernel
theorem d_M_open_415 : decode b_M_open 415 = .ok (.iconst 0, 1) := by decide +kernel
theorem d_M_open_416 : decode b_M_open 416 = .ok (.goto 23, 3) := by decide +kernel
theorem d_M_open_419 : decode b_M_open 419 = .ok (.aload_n 0, 1) := by decide +kernel
theorem d_M_open_420 : decode b_M_open 420 = .ok (.getfield 10, 3) := by decide +kernel
theorem d_M_open_423 : decode b_M_open 423 = .ok (.iload 4, 2) := by decide +kernel
theorem d_M_open_425 : decode b_M_open 425 = .ok (.iload 10, 2) := by decide +kernel
theorem d_M_open_427 : decode b_M_open 427 = .ok (.iadd, 1) := by decide +kernel
theorem d_M_open_428 : decode b_M_open 428 = .ok (.bipush 16, 2) := by decide +kernel
theorem d_M_open_430 : decode b_M_open 430 = .ok (.isub, 1) := by decide +kernel
theorem d_M_open_431 : decode b_M_open 431 = .ok (.iload 12, 2) := by decide +kernel
theorem d_M_open_433 : decode b_M_open 433 = .ok (.iadd, 1) := by decide +kernel
theorem d_M_open_434 : decode b_M_open 434 = .ok (.baload, 1) := by decide +kernel
theorem d_M_open_435 : decode b_M_open 435 = .ok (.sipush 255, 3) := by decide +kernel
theorem d_M_open_438 : decode b_M_open 438 = .ok (.iand, 1) := by decide +kernel
theorem d_M_open_439 : decode b_M_open 439 = .ok (.ixor, 1) := by decide +kernel
theorem d_M_open_440 : decode b_M_open 440 = .ok (.i2b, 1) := by decide +kernel
theorem d_M_open_441 : decode b_M_open 441 = .ok (.bastore, 1) := by decide +kernel
theorem d_M_open_442 : decode b_M_open 442 = .ok (.iinc 12 1, 3) := by decide +kernel
theorem d_M_open_445 : decode b_M_open 445 = .ok (.goto (-58), 3) := by decide +kernel
theorem d_M_open_448 : decode b_M_open 448 = .ok (.aload_n 0, 1) := by decide +kernel
theorem d_M_open_449 : decode b_M_open 449 = .ok (.aload_n 1, 1) := by decide +kernel
theorem d_M_open_450 : decode b_M_open 450 = .ok (.iload_n 2, 1) := by decide +kernel
theorem d_M_open_451 : decode b_M_open 451 = .ok (.invokestatic 438, 3) := by decide +kernel
theorem d_M_open_454 : decode b_M_open 454 = .ok (.iload_n 3, 1) := by decide +kernel
theorem d_M_open_455 : decode b_M_open 455 = .ok (.bipush 85, 2) := by decide +kernel
theorem d_M_open_457 : decode b_M_open 457 = .ok (.invokevirtual 443, 3) := by decide +kernel
theorem d_M_open_460 : decode b_M_open 460 = .ok (.aload_n 0, 1) := by decide +kernel
theorem d_M_open_461 : decode b_M_open 461 = .ok (.aload_n 0, 1) := by decide +kernel
theorem d_M_open_462 : decode b_M_open 462 = .ok (.getfield 68, 3) := by decide +kernel
theorem d_M_open_465 : decode b_M_open 465 = .ok (.iload_n 2, 1) := by decide +kernel
theorem d_M_open_466 : decode b_M_open 466 = .ok (.invokestatic 438, 3) := by decide +kernel
theorem d_M_open_469 : decode b_M_open 469 = .ok (.invokevirtual 421, 3) := by decide +kernel
theorem d_M_open_472 : decode b_M_open 472 = .ok (.aload_n 0, 1) := by decide +kernel
theorem d_M_open_473 : decode b_M_open 473 = .ok (.invokevirtual 423, 3) := by decide +kernel
theorem d_M_open_476 : decode b_M_open 476 = .ok (.iconst 0, 1) := by decide +kernel
theorem d_M_open_477 : decode b_M_open 477 = .ok (.istore 10, 2) := by decide +kernel
theorem d_M_open_479 : decode b_M_open 479 = .ok (.iload 10, 2) := by decide +kernel
theorem d_M_open_481 : decode b_M_open 481 = .ok (.iload 8, 2) := by decide +kernel
theorem d_M_open_483 : decode b_M_open 483 = .ok (.if_icmp .ge 20, 3) := by decide +kernel
theorem d_M_open_486 : decode b_M_open 486 = .ok (.aload_n 0, 1) := by decide +kernel
theorem d_M_open_487 : decode b_M_open 487 = .ok (.aload_n 0, 1) := by decide +kernel
theorem d_M_open_488 : decode b_M_open 488 = .ok (.getfield 89, 3) := by decide +kernel
theorem d_M_open_491 : decode b_M_open 491 = .ok (.iload 10, 2) := by decide +kernel
theorem d_M_open_493 : decode b_M_open 493 = .ok (.baload, 1) := by decide +kernel
theorem d_M_open_494 : decode b_M_open 494 = .ok (.invokevirtual 370, 3) := by decide +kernel
theorem d_M_open_497 : decode b_M_open 497 = .ok (.iinc 10 1, 3) := by decide +kernel
theorem d_M_open_500 : decode b_M_open 500 = .ok (.goto (-21), 3) := by decide +kernel
theorem d_M_open_503 : decode b_M_open 503 = .ok (.aload_n 0, 1) := by decide +kernel
theorem d_M_open_504 : decode b_M_open 504 = .ok (.invokevirtual 429, 3) := by decide +kernel
theorem d_M_open_507 : decode b_M_open 507 = .ok (.iconst 0, 1) := by decide +kernel
theorem d_M_open_508 : decode b_M_open 508 = .ok (.istore 10, 2) := by decide +kernel
theorem d_M_open_510 : decode b_M_open 510 = .ok (.iload 10, 2) := by decide +kernel
theorem d_M_open_512 : decode b_M_open 512 = .ok (.bipush 12, 2) := by decide +kernel
theorem d_M_open_514 : decode b_M_open 514 = .ok (.if_icmp .ge 34, 3) := by decide +kernel
theorem d_M_open_517 : decode b_M_open 517 = .ok (.aload_n 0, 1) := by decide +kernel
theorem d_M_open_518 : decode b_M_open 518 = .ok (.getfield 35, 3) := by decide +kernel
theorem d_M_open_521 : decode b_M_open 521 = .ok (.iload 10, 2) := by decide +kernel
theorem d_M_open_523 : decode b_M_open 523 = .ok (.baload, 1) := by decide +kernel
theorem d_M_open_524 : decode b_M_open 524 = .ok (.aload_n 0, 1) := by decide +kernel
theorem d_M_open_525 : decode b_M_open 525 = .ok (.getfield 10, 3) := by decide +kernel
theorem d_M_open_528 : decode b_M_open 528 = .ok (.iload 4, 2) := by decide +kernel
theorem d_M_open_530 : decode b_M_open 530 = .ok (.iload 8, 2) := by decide +kernel
theorem d_M_open_532 : decode b_M_open 532 = .ok (.iadd, 1) := by decide +kernel
theorem d_M_open_533 : decode b_M_open 533 = .ok (.iload 10, 2) := by decide +kernel
theorem d_M_open_535 : decode b_M_open 535 = .ok (.iadd, 1) := by decide +kernel
theorem d_M_open_536 : decode b_M_open 536 = .ok (.baload, 1) := by decide +kernel
theorem d_M_open_537 : decode b_M_open 537 = .ok (.if_icmp .eq 5, 3) := by decide +kernel
theorem d_M_open_540 : decode b_M_open 540 = .ok (.iconst (-1), 1) := by decide +kernel
theorem d_M_open_541 : decode b_M_open 541 = .ok (.ireturn, 1) := by decide +kernel
theorem d_M_open_542 : decode b_M_open 542 = .ok (.iinc 10 1, 3) := by decide +kernel
theorem d_M_open_545 : decode b_M_open 545 = .ok (.goto (-35), 3) := by decide +kernel
theorem d_M_open_548 : decode b_M_open 548 = .ok (.bipush 16, 2) := by decide +kernel
theorem d_M_open_550 : decode b_M_open 550 = .ok (.istore 10, 2) := by decide +kernel
theorem d_M_open_552 : decode b_M_open 552 = .ok (.iload 10, 2) := by decide +kernel
theorem d_M_open_554 : decode b_M_open 554 = .ok (.iload 8, 2) := by decide +kernel
theorem d_M_open_556 : decode b_M_open 556 = .ok (.if_icmp .ge 29, 3) := by decide +kernel
theorem d_M_open_559 : decode b_M_open 559 = .ok (.aload_n 0, 1) := by decide +kernel
theorem d_M_open_560 : decode b_M_open 560 = .ok (.getfield 10, 3) := by decide +kernel
theorem d_M_open_563 : decode b_M_open 563 = .ok (.iload 6, 2) := by decide +kernel
theorem d_M_open_565 : decode b_M_open 565 = .ok (.iload 10, 2) := by decide +kernel
theorem d_M_open_567 : decode b_M_open 567 = .ok (.iadd, 1) := by decide +kernel
theorem d_M_open_568 : decode b_M_open 568 = .ok (.bipush 16, 2) := by decide +kernel
theorem d_M_open_570 : decode b_M_open 570 = .ok (.isub, 1) := by decide +kernel
theorem d_M_open_571 : decode b_M_open 571 = .ok (.aload_n 0, 1) := by decide +kernel
theorem d_M_open_572 : decode b_M_open 572 = .ok (.getfield 89, 3) := by decide +kernel
theorem d_M_open_575 : decode b_M_open 575 = .ok (.iload 10, 2) := by decide +kernel
theorem d_M_open_577 : decode b_M_open 577 = .ok (.baload, 1) := by decide +kernel
theorem d_M_open_578 : decode b_M_open 578 = .ok (.bastore, 1) := by decide +kernel
theorem d_M_open_579 : decode b_M_open 579 = .ok (.iinc 10 1, 3) := by decide +kernel
theorem d_M_open_582 : decode b_M_open 582 = .ok (.goto (-30), 3) := by decide +kernel
theorem d_M_open_585 : decode b_M_open 585 = .ok (.iload 8, 2) := by decide +kernel
theorem d_M_open_587 : decode b_M_open 587 = .ok (.bipush 16, 2) := by decide +kernel
theorem d_M_open_589 : decode b_M_open 589 = .ok (.isub, 1) := by decide +kernel
theorem d_M_open_590 : decode b_M_open 590 = .ok (.ireturn, 1) := by decide +kernel
