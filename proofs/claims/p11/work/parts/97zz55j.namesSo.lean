abbrev b_So_init : ByteArray := prog_10_method_1_code
def y_So_init : MethodName := ⟨R_So, "<init>", "(LRealmHouse$Vault;)V"⟩
abbrev k_So_init : Cond := .code y_So_init b_So_init 2 none
theorem ki_So_init : k_So_init ∈ lw_tg := in_t 430 (by decide +kernel)
theorem ks_So_init : Cond.instanceMethod y_So_init ∈ lw_tg := in_t 429 (by decide +kernel)
theorem kl_H_So_init : Cond.methodLink R_H 60 y_So_init ∈ lw_tg := in_t 428 (by decide +kernel)
theorem hd_So_init : y_So_init.cls = R_So ∧ y_So_init.cls ≠ "java/lang/invoke/MethodHandle" ∧ y_So_init.cls ≠ "java/lang/invoke/VarHandle" ∧ (parseMethodDescriptor y_So_init.desc).map (fun d => d.parameters.length) = some 1 := by decide +kernel
theorem d_So_init_0 : decode b_So_init 0 = .ok (.aload_n 0, 1) := by decide +kernel
theorem d_So_init_1 : decode b_So_init 1 = .ok (.invokespecial 3, 3) := by decide +kernel
theorem d_So_init_4 : decode b_So_init 4 = .ok (.aload_n 0, 1) := by decide +kernel
theorem d_So_init_5 : decode b_So_init 5 = .ok (.iconst (-1), 1) := by decide +kernel
theorem d_So_init_6 : decode b_So_init 6 = .ok (.putfield 9, 3) := by decide +kernel
theorem d_So_init_9 : decode b_So_init 9 = .ok (.aload_n 0, 1) := by decide +kernel
theorem d_So_init_10 : decode b_So_init 10 = .ok (.getstatic 15, 3) := by decide +kernel
theorem d_So_init_13 : decode b_So_init 13 = .ok (.putfield 19, 3) := by decide +kernel
theorem d_So_init_16 : decode b_So_init 16 = .ok (.aload_n 0, 1) := by decide +kernel
theorem d_So_init_17 : decode b_So_init 17 = .ok (.getstatic 15, 3) := by decide +kernel
theorem d_So_init_20 : decode b_So_init 20 = .ok (.putfield 22, 3) := by decide +kernel
theorem d_So_init_23 : decode b_So_init 23 = .ok (.aload_n 0, 1) := by decide +kernel
theorem d_So_init_24 : decode b_So_init 24 = .ok (.iconst 2, 1) := by decide +kernel
theorem d_So_init_25 : decode b_So_init 25 = .ok (.newarray .int, 2) := by decide +kernel
theorem d_So_init_27 : decode b_So_init 27 = .ok (.putfield 25, 3) := by decide +kernel
theorem d_So_init_30 : decode b_So_init 30 = .ok (.aload_n 0, 1) := by decide +kernel
theorem d_So_init_31 : decode b_So_init 31 = .ok (.iconst 2, 1) := by decide +kernel
theorem d_So_init_32 : decode b_So_init 32 = .ok (.newarray .int, 2) := by decide +kernel
theorem d_So_init_34 : decode b_So_init 34 = .ok (.putfield 29, 3) := by decide +kernel
theorem d_So_init_37 : decode b_So_init 37 = .ok (.aload_n 0, 1) := by decide +kernel
theorem d_So_init_38 : decode b_So_init 38 = .ok (.iconst 4, 1) := by decide +kernel
theorem d_So_init_39 : decode b_So_init 39 = .ok (.newarray .byte, 2) := by decide +kernel
theorem d_So_init_41 : decode b_So_init 41 = .ok (.putfield 32, 3) := by decide +kernel
theorem d_So_init_44 : decode b_So_init 44 = .ok (.aload_n 0, 1) := by decide +kernel
theorem d_So_init_45 : decode b_So_init 45 = .ok (.aload_n 1, 1) := by decide +kernel
theorem d_So_init_46 : decode b_So_init 46 = .ok (.putfield 35, 3) := by decide +kernel
theorem d_So_init_49 : decode b_So_init 49 = .ok (.aload_n 0, 1) := by decide +kernel
theorem d_So_init_50 : decode b_So_init 50 = .ok (.getfield 32, 3) := by decide +kernel
theorem d_So_init_53 : decode b_So_init 53 = .ok (.iconst 0, 1) := by decide +kernel
theorem d_So_init_54 : decode b_So_init 54 = .ok (.bipush 10, 2) := by decide +kernel
theorem d_So_init_56 : decode b_So_init 56 = .ok (.bastore, 1) := by decide +kernel
theorem d_So_init_57 : decode b_So_init 57 = .ok (.return_, 1) := by decide +kernel
abbrev b_So_begin : ByteArray := prog_10_method_2_code
def y_So_begin : MethodName := ⟨R_So, "begin", "(LRealmHouse$Gate;ZLRealmHouse$Bytes;)V"⟩
abbrev k_So_begin : Cond := .code y_So_begin b_So_begin 7 none
theorem ki_So_begin : k_So_begin ∈ lw_tg := in_t 1582 (by decide +kernel)
theorem ks_So_begin : Cond.instanceMethod y_So_begin ∈ lw_tg := in_t 1580 (by decide +kernel)
theorem kx_So_begin : Cond.selects R_So y_So_begin y_So_begin ∈ lw_tg := in_t 1581 (by decide +kernel)
theorem kl_H_So_begin : Cond.methodLink R_H 256 y_So_begin ∈ lw_tg := in_t 1579 (by decide +kernel)
theorem hd_So_begin : y_So_begin.cls = R_So ∧ y_So_begin.cls ≠ "java/lang/invoke/MethodHandle" ∧ y_So_begin.cls ≠ "java/lang/invoke/VarHandle" ∧ (parseMethodDescriptor y_So_begin.desc).map (fun d => d.parameters.length) = some 3 := by decide +kernel
theorem d_So_begin_0 : decode b_So_begin 0 = .ok (.aload_n 1, 1) := by decide +kernel
theorem d_So_begin_1 : decode b_So_begin 1 = .ok (.getfield 39, 3) := by decide +kernel
theorem d_So_begin_4 : decode b_So_begin 4 = .ok (.astore 4, 2) := by decide +kernel
theorem d_So_begin_6 : decode b_So_begin 6 = .ok (.aload 4, 2) := by decide +kernel
theorem d_So_begin_8 : decode b_So_begin 8 = .ok (.iconst 0, 1) := by decide +kernel
theorem d_So_begin_9 : decode b_So_begin 9 = .ok (.bipush 7, 2) := by decide +kernel
theorem d_So_begin_11 : decode b_So_begin 11 = .ok (.invokevirtual 45, 3) := by decide +kernel
theorem d_So_begin_14 : decode b_So_begin 14 = .ok (.istore 5, 2) := by decide +kernel
theorem d_So_begin_16 : decode b_So_begin 16 = .ok (.aload 4, 2) := by decide +kernel
theorem d_So_begin_18 : decode b_So_begin 18 = .ok (.aload 4, 2) := by decide +kernel
theorem d_So_begin_20 : decode b_So_begin 20 = .ok (.iconst 0, 1) := by decide +kernel
theorem d_So_begin_21 : decode b_So_begin 21 = .ok (.bipush 6, 2) := by decide +kernel
theorem d_So_begin_23 : decode b_So_begin 23 = .ok (.invokevirtual 45, 3) := by decide +kernel
theorem d_So_begin_26 : decode b_So_begin 26 = .ok (.invokestatic 51, 3) := by decide +kernel
theorem d_So_begin_29 : decode b_So_begin 29 = .ok (.astore 6, 2) := by decide +kernel
theorem d_So_begin_31 : decode b_So_begin 31 = .ok (.aload_n 0, 1) := by decide +kernel
theorem d_So_begin_32 : decode b_So_begin 32 = .ok (.iconst 1, 1) := by decide +kernel
theorem d_So_begin_33 : decode b_So_begin 33 = .ok (.putfield 57, 3) := by decide +kernel
theorem d_So_begin_36 : decode b_So_begin 36 = .ok (.aload_n 0, 1) := by decide +kernel
theorem d_So_begin_37 : decode b_So_begin 37 = .ok (.iconst (-1), 1) := by decide +kernel
theorem d_So_begin_38 : decode b_So_begin 38 = .ok (.putfield 9, 3) := by decide +kernel
theorem d_So_begin_41 : decode b_So_begin 41 = .ok (.aload_n 0, 1) := by decide +kernel
theorem d_So_begin_42 : decode b_So_begin 42 = .ok (.aload_n 1, 1) := by decide +kernel
theorem d_So_begin_43 : decode b_So_begin 43 = .ok (.getfield 61, 3) := by decide +kernel
theorem d_So_begin_46 : decode b_So_begin 46 = .ok (.putfield 22, 3) := by decide +kernel
theorem d_So_begin_49 : decode b_So_begin 49 = .ok (.aload_n 0, 1) := by decide +kernel
theorem d_So_begin_50 : decode b_So_begin 50 = .ok (.aload 6, 2) := by decide +kernel
theorem d_So_begin_52 : decode b_So_begin 52 = .ok (.arraylength, 1) := by decide +kernel
theorem d_So_begin_53 : decode b_So_begin 53 = .ok (.ifCond .le 8, 3) := by decide +kernel
theorem d_So_begin_56 : decode b_So_begin 56 = .ok (.aload 6, 2) := by decide +kernel
theorem d_So_begin_58 : decode b_So_begin 58 = .ok (.goto 7, 3) := by decide +kernel
theorem d_So_begin_61 : decode b_So_begin 61 = .ok (.aload_n 1, 1) := by decide +kernel
theorem d_So_begin_62 : decode b_So_begin 62 = .ok (.getfield 61, 3) := by decide +kernel
theorem d_So_begin_65 : decode b_So_begin 65 = .ok (.putfield 19, 3) := by decide +kernel
theorem d_So_begin_68 : decode b_So_begin 68 = .ok (.aload_n 0, 1) := by decide +kernel
theorem d_So_begin_69 : decode b_So_begin 69 = .ok (.aload 4, 2) := by decide +kernel
theorem d_So_begin_71 : decode b_So_begin 71 = .ok (.aload 4, 2) := by decide +kernel
theorem d_So_begin_73 : decode b_So_begin 73 = .ok (.iconst 0, 1) := by decide +kernel
theorem d_So_begin_74 : decode b_So_begin 74 = .ok (.iconst 5, 1) := by decide +kernel
theorem d_So_begin_75 : decode b_So_begin 75 = .ok (.invokevirtual 45, 3) := by decide +kernel
theorem d_So_begin_78 : decode b_So_begin 78 = .ok (.invokevirtual 62, 3) := by decide +kernel
theorem d_So_begin_81 : decode b_So_begin 81 = .ok (.putfield 66, 3) := by decide +kernel
theorem d_So_begin_84 : decode b_So_begin 84 = .ok (.aload_n 0, 1) := by decide +kernel
theorem d_So_begin_85 : decode b_So_begin 85 = .ok (.aload 4, 2) := by decide +kernel
theorem d_So_begin_87 : decode b_So_begin 87 = .ok (.aload 4, 2) := by decide +kernel
theorem d_So_begin_89 : decode b_So_begin 89 = .ok (.iconst 0, 1) := by decide +kernel
theorem d_So_begin_90 : decode b_So_begin 90 = .ok (.iconst 4, 1) := by decide +kernel
theorem d_So_begin_91 : decode b_So_begin 91 = .ok (.invokevirtual 45, 3) := by decide +kernel
theorem d_So_begin_94 : decode b_So_begin 94 = .ok (.invokevirtual 69, 3) := by decide +kernel
theorem d_So_begin_97 : decode b_So_begin 97 = .ok (.l2i, 1) := by decide +kernel
theorem d_So_begin_98 : decode b_So_begin 98 = .ok (.putfield 73, 3) := by decide +kernel
theorem d_So_begin_101 : decode b_So_begin 101 = .ok (.aload_n 0, 1) := by decide +kernel
theorem d_So_begin_102 : decode b_So_begin 102 = .ok (.iload 5, 2) := by decide +kernel
theorem d_So_begin_104 : decode b_So_begin 104 = .ok (.ifCond .lt 13, 3) := by decide +kernel
theorem d_So_begin_107 : decode b_So_begin 107 = .ok (.aload 4, 2) := by decide +kernel
theorem d_So_begin_109 : decode b_So_begin 109 = .ok (.iload 5, 2) := by decide +kernel
theorem d_So_begin_111 : decode b_So_begin 111 = .ok (.invokevirtual 69, 3) := by decide +kernel
theorem d_So_begin_114 : decode b_So_begin 114 = .ok (.goto 6, 3) := by decide +kernel
theorem d_So_begin_117 : decode b_So_begin 117 = .ok (.ldc2_w 76, 3) := by decide +kernel
theorem d_So_begin_120 : decode b_So_begin 120 = .ok (.putfield 78, 3) := by decide +kernel
theorem d_So_begin_123 : decode b_So_begin 123 = .ok (.aload_n 0, 1) := by decide +kernel
theorem d_So_begin_124 : decode b_So_begin 124 = .ok (.getfield 29, 3) := by decide +kernel
theorem d_So_begin_127 : decode b_So_begin 127 = .ok (.iconst 1, 1) := by decide +kernel
theorem d_So_begin_128 : decode b_So_begin 128 = .ok (.iload 5, 2) := by decide +kernel
theorem d_So_begin_130 : decode b_So_begin 130 = .ok (.ifCond .lt 11, 3) := by decide +kernel
theorem d_So_begin_133 : decode b_So_begin 133 = .ok (.aload_n 0, 1) := by decide +kernel
theorem d_So_begin_134 : decode b_So_begin 134 = .ok (.getfield 78, 3) := by decide +kernel
theorem d_So_begin_137 : decode b_So_begin 137 = .ok (.l2i, 1) := by decide +kernel
theorem d_So_begin_138 : decode b_So_begin 138 = .ok (.goto 4, 3) := by decide +kernel
theorem d_So_begin_141 : decode b_So_begin 141 = .ok (.iconst 0, 1) := by decide +kernel
theorem d_So_begin_142 : decode b_So_begin 142 = .ok (.iastore, 1) := by decide +kernel
theorem d_So_begin_143 : decode b_So_begin 143 = .ok (.aload_n 0, 1) := by decide +kernel
theorem d_So_begin_144 : decode b_So_begin 144 = .ok (.getfield 25, 3) := by decide +kernel
theorem d_So_begin_147 : decode b_So_begin 147 = .ok (.iconst 1, 1) := by decide +kernel
theorem d_So_begin_148 : decode b_So_begin 148 = .ok (.iload_n 2, 1) := by decide +kernel
theorem d_So_begin_149 : decode b_So_begin 149 = .ok (.ifCond .eq 21, 3) := by decide +kernel
theorem d_So_begin_152 : decode b_So_begin 152 = .ok (.iload 5, 2) := by decide +kernel
theorem d_So_begin_154 : decode b_So_begin 154 = .ok (.ifCond .lt 16, 3) := by decide +kernel
theorem d_So_begin_157 : decode b_So_begin 157 = .ok (.aload_n 0, 1) := by decide +kernel
theorem d_So_begin_158 : decode b_So_begin 158 = .ok (.getfield 35, 3) := by decide +kernel
theorem d_So_begin_161 : decode b_So_begin 161 = .ok (.invokevirtual 82, 3) := by decide +kernel
theorem d_So_begin_164 : decode b_So_begin 164 = .ok (.ldc 86, 2) := by decide +kernel
theorem d_So_begin_166 : decode b_So_begin 166 = .ok (.iand, 1) := by decide +kernel
theorem d_So_begin_167 : decode b_So_begin 167 = .ok (.goto 4, 3) := by decide +kernel
theorem d_So_begin_170 : decode b_So_begin 170 = .ok (.iconst 0, 1) := by decide +kernel
theorem d_So_begin_171 : decode b_So_begin 171 = .ok (.iastore, 1) := by decide +kernel
theorem d_So_begin_172 : decode b_So_begin 172 = .ok (.iload_n 2, 1) := by decide +kernel
theorem d_So_begin_173 : decode b_So_begin 173 = .ok (.ifCond .eq 8, 3) := by decide +kernel
theorem d_So_begin_176 : decode b_So_begin 176 = .ok (.aload_n 0, 1) := by decide +kernel
theorem d_So_begin_177 : decode b_So_begin 177 = .ok (.aload_n 3, 1) := by decide +kernel
theorem d_So_begin_178 : decode b_So_begin 178 = .ok (.invokevirtual 87, 3) := by decide +kernel
theorem d_So_begin_181 : decode b_So_begin 181 = .ok (.return_, 1) := by decide +kernel
abbrev b_So_putApRep : ByteArray := prog_10_method_3_code
def y_So_putApRep : MethodName := ⟨R_So, "putApRep", "(LRealmHouse$Bytes;)V"⟩
abbrev k_So_putApRep : Cond := .code y_So_putApRep b_So_putApRep 8 none
theorem ki_So_putApRep : k_So_putApRep ∈ lw_tg := in_t 1593 (by decide +kernel)
theorem ks_So_putApRep : Cond.instanceMethod y_So_putApRep ∈ lw_tg := in_t 1592 (by decide +kernel)
theorem kx_So_putApRep : Cond.selects R_So y_So_putApRep y_So_putApRep ∈ lw_tg := List.mem_filter.mpr ⟨List.mem_append_left _ (List.mem_of_getElem? (i := 63) (by decide +kernel)), rfl⟩
theorem kl_So_So_putApRep : Cond.methodLink R_So 87 y_So_putApRep ∈ lw_tg := in_t 1590 (by decide +kernel)
theorem hd_So_putApRep : y_So_putApRep.cls = R_So ∧ y_So_putApRep.cls ≠ "java/lang/invoke/MethodHandle" ∧ y_So_putApRep.cls ≠ "java/lang/invoke/VarHandle" ∧ (parseMethodDescriptor y_So_putApRep.desc).map (fun d => d.parameters.length) = some 1 := by decide +kernel
theorem d_So_putApRep_0 : decode b_So_putApRep 0 = .ok (.aload_n 0, 1) := by decide +kernel
theorem d_So_putApRep_1 : decode b_So_putApRep 1 = .ok (.getfield 35, 3) := by decide +kernel
theorem d_So_putApRep_4 : decode b_So_putApRep 4 = .ok (.getfield 91, 3) := by decide +kernel
theorem d_So_putApRep_7 : decode b_So_putApRep 7 = .ok (.astore_n 2, 1) := by decide +kernel
theorem d_So_putApRep_8 : decode b_So_putApRep 8 = .ok (.aload_n 2, 1) := by decide +kernel
theorem d_So_putApRep_9 : decode b_So_putApRep 9 = .ok (.invokevirtual 94, 3) := by decide +kernel
theorem d_So_putApRep_12 : decode b_So_putApRep 12 = .ok (.aload_n 2, 1) := by decide +kernel
theorem d_So_putApRep_13 : decode b_So_putApRep 13 = .ok (.bipush 123, 2) := by decide +kernel
theorem d_So_putApRep_15 : decode b_So_putApRep 15 = .ok (.invokevirtual 97, 3) := by decide +kernel
theorem d_So_putApRep_18 : decode b_So_putApRep 18 = .ok (.istore_n 3, 1) := by decide +kernel
theorem d_So_putApRep_19 : decode b_So_putApRep 19 = .ok (.aload_n 2, 1) := by decide +kernel
theorem d_So_putApRep_20 : decode b_So_putApRep 20 = .ok (.bipush 48, 2) := by decide +kernel
theorem d_So_putApRep_22 : decode b_So_putApRep 22 = .ok (.invokevirtual 97, 3) := by decide +kernel
theorem d_So_putApRep_25 : decode b_So_putApRep 25 = .ok (.istore 4, 2) := by decide +kernel
theorem d_So_putApRep_27 : decode b_So_putApRep 27 = .ok (.aload_n 2, 1) := by decide +kernel
theorem d_So_putApRep_28 : decode b_So_putApRep 28 = .ok (.iconst 0, 1) := by decide +kernel
theorem d_So_putApRep_29 : decode b_So_putApRep 29 = .ok (.aload_n 0, 1) := by decide +kernel
theorem d_So_putApRep_30 : decode b_So_putApRep 30 = .ok (.getfield 66, 3) := by decide +kernel
theorem d_So_putApRep_33 : decode b_So_putApRep 33 = .ok (.invokevirtual 100, 3) := by decide +kernel
theorem d_So_putApRep_36 : decode b_So_putApRep 36 = .ok (.aload_n 2, 1) := by decide +kernel
theorem d_So_putApRep_37 : decode b_So_putApRep 37 = .ok (.iconst 1, 1) := by decide +kernel
theorem d_So_putApRep_38 : decode b_So_putApRep 38 = .ok (.aload_n 0, 1) := by decide +kernel
theorem d_So_putApRep_39 : decode b_So_putApRep 39 = .ok (.getfield 73, 3) := by decide +kernel
theorem d_So_putApRep_42 : decode b_So_putApRep 42 = .ok (.i2l, 1) := by decide +kernel
theorem d_So_putApRep_43 : decode b_So_putApRep 43 = .ok (.invokevirtual 104, 3) := by decide +kernel
theorem d_So_putApRep_46 : decode b_So_putApRep 46 = .ok (.aload_n 0, 1) := by decide +kernel
theorem d_So_putApRep_47 : decode b_So_putApRep 47 = .ok (.getfield 78, 3) := by decide +kernel
theorem d_So_putApRep_50 : decode b_So_putApRep 50 = .ok (.lconst 0, 1) := by decide +kernel
theorem d_So_putApRep_51 : decode b_So_putApRep 51 = .ok (.lcmp, 1) := by decide +kernel
theorem d_So_putApRep_52 : decode b_So_putApRep 52 = .ok (.ifCond .lt 15, 3) := by decide +kernel
theorem d_So_putApRep_55 : decode b_So_putApRep 55 = .ok (.aload_n 2, 1) := by decide +kernel
theorem d_So_putApRep_56 : decode b_So_putApRep 56 = .ok (.iconst 3, 1) := by decide +kernel
theorem d_So_putApRep_57 : decode b_So_putApRep 57 = .ok (.aload_n 0, 1) := by decide +kernel
theorem d_So_putApRep_58 : decode b_So_putApRep 58 = .ok (.getfield 25, 3) := by decide +kernel
theorem d_So_putApRep_61 : decode b_So_putApRep 61 = .ok (.iconst 1, 1) := by decide +kernel
theorem d_So_putApRep_62 : decode b_So_putApRep 62 = .ok (.iaload, 1) := by decide +kernel
theorem d_So_putApRep_63 : decode b_So_putApRep 63 = .ok (.i2l, 1) := by decide +kernel
theorem d_So_putApRep_64 : decode b_So_putApRep 64 = .ok (.invokevirtual 104, 3) := by decide +kernel
theorem d_So_putApRep_67 : decode b_So_putApRep 67 = .ok (.aload_n 2, 1) := by decide +kernel
theorem d_So_putApRep_68 : decode b_So_putApRep 68 = .ok (.iload 4, 2) := by decide +kernel
theorem d_So_putApRep_70 : decode b_So_putApRep 70 = .ok (.invokevirtual 108, 3) := by decide +kernel
theorem d_So_putApRep_73 : decode b_So_putApRep 73 = .ok (.aload_n 2, 1) := by decide +kernel
theorem d_So_putApRep_74 : decode b_So_putApRep 74 = .ok (.iload_n 3, 1) := by decide +kernel
theorem d_So_putApRep_75 : decode b_So_putApRep 75 = .ok (.invokevirtual 108, 3) := by decide +kernel
theorem d_So_putApRep_78 : decode b_So_putApRep 78 = .ok (.aload_n 1, 1) := by decide +kernel
theorem d_So_putApRep_79 : decode b_So_putApRep 79 = .ok (.bipush 111, 2) := by decide +kernel
theorem d_So_putApRep_81 : decode b_So_putApRep 81 = .ok (.invokevirtual 97, 3) := by decide +kernel
theorem d_So_putApRep_84 : decode b_So_putApRep 84 = .ok (.istore 5, 2) := by decide +kernel
theorem d_So_putApRep_86 : decode b_So_putApRep 86 = .ok (.aload_n 1, 1) := by decide +kernel
theorem d_So_putApRep_87 : decode b_So_putApRep 87 = .ok (.bipush 48, 2) := by decide +kernel
theorem d_So_putApRep_89 : decode b_So_putApRep 89 = .ok (.invokevirtual 97, 3) := by decide +kernel
theorem d_So_putApRep_92 : decode b_So_putApRep 92 = .ok (.istore 6, 2) := by decide +kernel
theorem d_So_putApRep_94 : decode b_So_putApRep 94 = .ok (.aload_n 1, 1) := by decide +kernel
theorem d_So_putApRep_95 : decode b_So_putApRep 95 = .ok (.iconst 0, 1) := by decide +kernel
theorem d_So_putApRep_96 : decode b_So_putApRep 96 = .ok (.ldc2_w 112, 3) := by decide +kernel
theorem d_So_putApRep_99 : decode b_So_putApRep 99 = .ok (.invokevirtual 104, 3) := by decide +kernel
theorem d_So_putApRep_102 : decode b_So_putApRep 102 = .ok (.aload_n 1, 1) := by decide +kernel
theorem d_So_putApRep_103 : decode b_So_putApRep 103 = .ok (.iconst 1, 1) := by decide +kernel
theorem d_So_putApRep_104 : decode b_So_putApRep 104 = .ok (.ldc2_w 114, 3) := by decide +kernel
theorem d_So_putApRep_107 : decode b_So_putApRep 107 = .ok (.invokevirtual 104, 3) := by decide +kernel
theorem d_So_putApRep_110 : decode b_So_putApRep 110 = .ok (.aload_n 1, 1) := by decide +kernel
theorem d_So_putApRep_111 : decode b_So_putApRep 111 = .ok (.iconst 2, 1) := by decide +kernel
theorem d_So_putApRep_112 : decode b_So_putApRep 112 = .ok (.invokevirtual 116, 3) := by decide +kernel
theorem d_So_putApRep_115 : decode b_So_putApRep 115 = .ok (.istore 7, 2) := by decide +kernel
theorem d_So_putApRep_117 : decode b_So_putApRep 117 = .ok (.aload_n 0, 1) := by decide +kernel
theorem d_So_putApRep_118 : decode b_So_putApRep 118 = .ok (.getfield 35, 3) := by decide +kernel
theorem d_So_putApRep_121 : decode b_So_putApRep 121 = .ok (.aload_n 1, 1) := by decide +kernel
theorem d_So_putApRep_122 : decode b_So_putApRep 122 = .ok (.aload_n 0, 1) := by decide +kernel
theorem d_So_putApRep_123 : decode b_So_putApRep 123 = .ok (.getfield 22, 3) := by decide +kernel
theorem d_So_putApRep_126 : decode b_So_putApRep 126 = .ok (.bipush 12, 2) := by decide +kernel
theorem d_So_putApRep_128 : decode b_So_putApRep 128 = .ok (.iconst 0, 1) := by decide +kernel
theorem d_So_putApRep_129 : decode b_So_putApRep 129 = .ok (.invokevirtual 119, 3) := by decide +kernel
theorem d_So_putApRep_132 : decode b_So_putApRep 132 = .ok (.aload_n 1, 1) := by decide +kernel
theorem d_So_putApRep_133 : decode b_So_putApRep 133 = .ok (.iload 7, 2) := by decide +kernel
theorem d_So_putApRep_135 : decode b_So_putApRep 135 = .ok (.invokevirtual 108, 3) := by decide +kernel
theorem d_So_putApRep_138 : decode b_So_putApRep 138 = .ok (.aload_n 1, 1) := by decide +kernel
theorem d_So_putApRep_139 : decode b_So_putApRep 139 = .ok (.iload 6, 2) := by decide +kernel
theorem d_So_putApRep_141 : decode b_So_putApRep 141 = .ok (.invokevirtual 108, 3) := by decide +kernel
theorem d_So_putApRep_144 : decode b_So_putApRep 144 = .ok (.aload_n 1, 1) := by decide +kernel
theorem d_So_putApRep_145 : decode b_So_putApRep 145 = .ok (.iload 5, 2) := by decide +kernel
theorem d_So_putApRep_147 : decode b_So_putApRep 147 = .ok (.invokevirtual 108, 3) := by decide +kernel
theorem d_So_putApRep_150 : decode b_So_putApRep 150 = .ok (.return_, 1) := by decide +kernel
abbrev b_So_leave : ByteArray := prog_10_method_4_code
def y_So_leave : MethodName := ⟨R_So, "leave", "(I)V"⟩
abbrev k_So_leave : Cond := .code y_So_leave b_So_leave 2 none
theorem ki_So_leave : k_So_leave ∈ lw_tg := in_t 1378 (by decide +kernel)
theorem ks_So_leave : Cond.instanceMethod y_So_leave ∈ lw_tg := in_t 1376 (by decide +kernel)
theorem kx_So_leave : Cond.selects R_So y_So_leave y_So_leave ∈ lw_tg := in_t 1377 (by decide +kernel)
theorem kl_H_So_leave : Cond.methodLink R_H 185 y_So_leave ∈ lw_tg := in_t 1375 (by decide +kernel)
theorem hd_So_leave : y_So_leave.cls = R_So ∧ y_So_leave.cls ≠ "java/lang/invoke/MethodHandle" ∧ y_So_leave.cls ≠ "java/lang/invoke/VarHandle" ∧ (parseMethodDescriptor y_So_leave.desc).map (fun d => d.parameters.length) = some 1 := by decide +kernel
theorem d_So_leave_0 : decode b_So_leave 0 = .ok (.aload_n 0, 1) := by decide +kernel
theorem d_So_leave_1 : decode b_So_leave 1 = .ok (.getfield 9, 3) := by decide +kernel
theorem d_So_leave_4 : decode b_So_leave 4 = .ok (.iload_n 1, 1) := by decide +kernel
theorem d_So_leave_5 : decode b_So_leave 5 = .ok (.if_icmp .ne 8, 3) := by decide +kernel
theorem d_So_leave_8 : decode b_So_leave 8 = .ok (.aload_n 0, 1) := by decide +kernel
theorem d_So_leave_9 : decode b_So_leave 9 = .ok (.iconst (-1), 1) := by decide +kernel
theorem d_So_leave_10 : decode b_So_leave 10 = .ok (.putfield 9, 3) := by decide +kernel
theorem d_So_leave_13 : decode b_So_leave 13 = .ok (.return_, 1) := by decide +kernel
abbrev b_So_join : ByteArray := prog_10_method_5_code
def y_So_join : MethodName := ⟨R_So, "join", "(ILRealmHouse$Agent;)Z"⟩
abbrev k_So_join : Cond := .code y_So_join b_So_join 3 (some .boolean)
theorem ki_So_join : k_So_join ∈ lw_tg := in_t 1623 (by decide +kernel)
theorem ks_So_join : Cond.instanceMethod y_So_join ∈ lw_tg := in_t 1621 (by decide +kernel)
theorem kx_So_join : Cond.selects R_So y_So_join y_So_join ∈ lw_tg := in_t 1622 (by decide +kernel)
theorem kl_H_So_join : Cond.methodLink R_H 265 y_So_join ∈ lw_tg := in_t 1620 (by decide +kernel)
theorem hd_So_join : y_So_join.cls = R_So ∧ y_So_join.cls ≠ "java/lang/invoke/MethodHandle" ∧ y_So_join.cls ≠ "java/lang/invoke/VarHandle" ∧ (parseMethodDescriptor y_So_join.desc).map (fun d => d.parameters.length) = some 2 := by decide +kernel
theorem d_So_join_0 : decode b_So_join 0 = .ok (.aload_n 2, 1) := by decide +kernel
theorem d_So_join_1 : decode b_So_join 1 = .ok (.getfield 123, 3) := by decide +kernel
theorem d_So_join_4 : decode b_So_join 4 = .ok (.lconst 0, 1) := by decide +kernel
theorem d_So_join_5 : decode b_So_join 5 = .ok (.lcmp, 1) := by decide +kernel
theorem d_So_join_6 : decode b_So_join 6 = .ok (.ifCond .lt 48, 3) := by decide +kernel
theorem d_So_join_9 : decode b_So_join 9 = .ok (.aload_n 2, 1) := by decide +kernel
theorem d_So_join_10 : decode b_So_join 10 = .ok (.getfield 123, 3) := by decide +kernel
theorem d_So_join_13 : decode b_So_join 13 = .ok (.aload_n 0, 1) := by decide +kernel
theorem d_So_join_14 : decode b_So_join 14 = .ok (.getfield 78, 3) := by decide +kernel
theorem d_So_join_17 : decode b_So_join 17 = .ok (.lcmp, 1) := by decide +kernel
theorem d_So_join_18 : decode b_So_join 18 = .ok (.ifCond .ne 36, 3) := by decide +kernel
theorem d_So_join_21 : decode b_So_join 21 = .ok (.aload_n 2, 1) := by decide +kernel
theorem d_So_join_22 : decode b_So_join 22 = .ok (.getfield 126, 3) := by decide +kernel
theorem d_So_join_25 : decode b_So_join 25 = .ok (.aload_n 0, 1) := by decide +kernel
theorem d_So_join_26 : decode b_So_join 26 = .ok (.getfield 66, 3) := by decide +kernel
theorem d_So_join_29 : decode b_So_join 29 = .ok (.if_icmp .ne 25, 3) := by decide +kernel
theorem d_So_join_32 : decode b_So_join 32 = .ok (.aload_n 2, 1) := by decide +kernel
theorem d_So_join_33 : decode b_So_join 33 = .ok (.getfield 127, 3) := by decide +kernel
theorem d_So_join_36 : decode b_So_join 36 = .ok (.aload_n 0, 1) := by decide +kernel
theorem d_So_join_37 : decode b_So_join 37 = .ok (.getfield 73, 3) := by decide +kernel
theorem d_So_join_40 : decode b_So_join 40 = .ok (.if_icmp .ne 14, 3) := by decide +kernel
theorem d_So_join_43 : decode b_So_join 43 = .ok (.aload_n 0, 1) := by decide +kernel
theorem d_So_join_44 : decode b_So_join 44 = .ok (.aload_n 2, 1) := by decide +kernel
theorem d_So_join_45 : decode b_So_join 45 = .ok (.getfield 128, 3) := by decide +kernel
theorem d_So_join_48 : decode b_So_join 48 = .ok (.invokevirtual 131, 3) := by decide +kernel
theorem d_So_join_51 : decode b_So_join 51 = .ok (.ifCond .ne 5, 3) := by decide +kernel
theorem d_So_join_54 : decode b_So_join 54 = .ok (.iconst 0, 1) := by decide +kernel
theorem d_So_join_55 : decode b_So_join 55 = .ok (.ireturn, 1) := by decide +kernel
theorem d_So_join_56 : decode b_So_join 56 = .ok (.aload_n 0, 1) := by decide +kernel
theorem d_So_join_57 : decode b_So_join 57 = .ok (.iload_n 1, 1) := by decide +kernel
theorem d_So_join_58 : decode b_So_join 58 = .ok (.putfield 9, 3) := by decide +kernel
theorem d_So_join_61 : decode b_So_join 61 = .ok (.aload_n 0, 1) := by decide +kernel
theorem d_So_join_62 : decode b_So_join 62 = .ok (.getfield 25, 3) := by decide +kernel
theorem d_So_join_65 : decode b_So_join 65 = .ok (.iconst 0, 1) := by decide +kernel
theorem d_So_join_66 : decode b_So_join 66 = .ok (.aload_n 2, 1) := by decide +kernel
theorem d_So_join_67 : decode b_So_join 67 = .ok (.getfield 123, 3) := by decide +kernel
theorem d_So_join_70 : decode b_So_join 70 = .ok (.l2i, 1) := by decide +kernel
theorem d_So_join_71 : decode b_So_join 71 = .ok (.iastore, 1) := by decide +kernel
theorem d_So_join_72 : decode b_So_join 72 = .ok (.aload_n 0, 1) := by decide +kernel
theorem d_So_join_73 : decode b_So_join 73 = .ok (.getfield 29, 3) := by decide +kernel
theorem d_So_join_76 : decode b_So_join 76 = .ok (.iconst 0, 1) := by decide +kernel
theorem d_So_join_77 : decode b_So_join 77 = .ok (.aload_n 2, 1) := by decide +kernel
theorem d_So_join_78 : decode b_So_join 78 = .ok (.getfield 135, 3) := by decide +kernel
theorem d_So_join_81 : decode b_So_join 81 = .ok (.l2i, 1) := by decide +kernel
theorem d_So_join_82 : decode b_So_join 82 = .ok (.iastore, 1) := by decide +kernel
theorem d_So_join_83 : decode b_So_join 83 = .ok (.iconst 1, 1) := by decide +kernel
theorem d_So_join_84 : decode b_So_join 84 = .ok (.ireturn, 1) := by decide +kernel
abbrev b_So_isTicketKey : ByteArray := prog_10_method_6_code
def y_So_isTicketKey : MethodName := ⟨R_So, "isTicketKey", "([B)Z"⟩
abbrev k_So_isTicketKey : Cond := .code y_So_isTicketKey b_So_isTicketKey 3 (some .boolean)
theorem ki_So_isTicketKey : k_So_isTicketKey ∈ lw_tg := in_t 1627 (by decide +kernel)
theorem ks_So_isTicketKey : Cond.instanceMethod y_So_isTicketKey ∈ lw_tg := in_t 1626 (by decide +kernel)
theorem kx_So_isTicketKey : Cond.selects R_So y_So_isTicketKey y_So_isTicketKey ∈ lw_tg := List.mem_filter.mpr ⟨List.mem_append_left _ (List.mem_of_getElem? (i := 65) (by decide +kernel)), rfl⟩
theorem kl_So_So_isTicketKey : Cond.methodLink R_So 131 y_So_isTicketKey ∈ lw_tg := in_t 1624 (by decide +kernel)
theorem hd_So_isTicketKey : y_So_isTicketKey.cls = R_So ∧ y_So_isTicketKey.cls ≠ "java/lang/invoke/MethodHandle" ∧ y_So_isTicketKey.cls ≠ "java/lang/invoke/VarHandle" ∧ (parseMethodDescriptor y_So_isTicketKey.desc).map (fun d => d.parameters.length) = some 1 := by decide +kernel
theorem d_So_isTicketKey_0 : decode b_So_isTicketKey 0 = .ok (.aload_n 1, 1) := by decide +kernel
theorem d_So_isTicketKey_1 : decode b_So_isTicketKey 1 = .ok (.arraylength, 1) := by decide +kernel
theorem d_So_isTicketKey_2 : decode b_So_isTicketKey 2 = .ok (.aload_n 0, 1) := by decide +kernel
theorem d_So_isTicketKey_3 : decode b_So_isTicketKey 3 = .ok (.getfield 22, 3) := by decide +kernel
theorem d_So_isTicketKey_6 : decode b_So_isTicketKey 6 = .ok (.arraylength, 1) := by decide +kernel
theorem d_So_isTicketKey_7 : decode b_So_isTicketKey 7 = .ok (.if_icmp .eq 5, 3) := by decide +kernel
theorem d_So_isTicketKey_10 : decode b_So_isTicketKey 10 = .ok (.iconst 0, 1) := by decide +kernel
theorem d_So_isTicketKey_11 : decode b_So_isTicketKey 11 = .ok (.ireturn, 1) := by decide +kernel
theorem d_So_isTicketKey_12 : decode b_So_isTicketKey 12 = .ok (.iconst 0, 1) := by decide +kernel
theorem d_So_isTicketKey_13 : decode b_So_isTicketKey 13 = .ok (.istore_n 2, 1) := by decide +kernel
theorem d_So_isTicketKey_14 : decode b_So_isTicketKey 14 = .ok (.iload_n 2, 1) := by decide +kernel
theorem d_So_isTicketKey_15 : decode b_So_isTicketKey 15 = .ok (.aload_n 1, 1) := by decide +kernel
theorem d_So_isTicketKey_16 : decode b_So_isTicketKey 16 = .ok (.arraylength, 1) := by decide +kernel
theorem d_So_isTicketKey_17 : decode b_So_isTicketKey 17 = .ok (.if_icmp .ge 23, 3) := by decide +kernel
theorem d_So_isTicketKey_20 : decode b_So_isTicketKey 20 = .ok (.aload_n 1, 1) := by decide +kernel
theorem d_So_isTicketKey_21 : decode b_So_isTicketKey 21 = .ok (.iload_n 2, 1) := by decide +kernel
theorem d_So_isTicketKey_22 : decode b_So_isTicketKey 22 = .ok (.baload, 1) := by decide +kernel
theorem d_So_isTicketKey_23 : decode b_So_isTicketKey 23 = .ok (.aload_n 0, 1) := by decide +kernel
theorem d_So_isTicketKey_24 : decode b_So_isTicketKey 24 = .ok (.getfield 22, 3) := by decide +kernel
theorem d_So_isTicketKey_27 : decode b_So_isTicketKey 27 = .ok (.iload_n 2, 1) := by decide +kernel
theorem d_So_isTicketKey_28 : decode b_So_isTicketKey 28 = .ok (.baload, 1) := by decide +kernel
theorem d_So_isTicketKey_29 : decode b_So_isTicketKey 29 = .ok (.if_icmp .eq 5, 3) := by decide +kernel
theorem d_So_isTicketKey_32 : decode b_So_isTicketKey 32 = .ok (.iconst 0, 1) := by decide +kernel
theorem d_So_isTicketKey_33 : decode b_So_isTicketKey 33 = .ok (.ireturn, 1) := by decide +kernel
theorem d_So_isTicketKey_34 : decode b_So_isTicketKey 34 = .ok (.iinc 2 1, 3) := by decide +kernel
theorem d_So_isTicketKey_37 : decode b_So_isTicketKey 37 = .ok (.goto (-23), 3) := by decide +kernel
theorem d_So_isTicketKey_40 : decode b_So_isTicketKey 40 = .ok (.iconst 1, 1) := by decide +kernel
theorem d_So_isTicketKey_41 : decode b_So_isTicketKey 41 = .ok (.ireturn, 1) := by decide +kernel
abbrev b_So_putData : ByteArray := prog_10_method_7_code
def y_So_putData : MethodName := ⟨R_So, "putData", "(IILRealmHouse$Bytes;LRealmHouse$Bytes;)V"⟩
abbrev k_So_putData : Cond := .code y_So_putData b_So_putData 6 none
theorem ki_So_putData : k_So_putData ∈ lw_tg := in_t 1648 (by decide +kernel)
theorem ks_So_putData : Cond.instanceMethod y_So_putData ∈ lw_tg := in_t 1647 (by decide +kernel)
theorem kx_So_putData : Cond.selects R_So y_So_putData y_So_putData ∈ lw_tg := List.mem_filter.mpr ⟨List.mem_append_left _ (List.mem_of_getElem? (i := 68) (by decide +kernel)), rfl⟩
theorem kl_So_So_putData : Cond.methodLink R_So 154 y_So_putData ∈ lw_tg := in_t 1645 (by decide +kernel)
theorem hd_So_putData : y_So_putData.cls = R_So ∧ y_So_putData.cls ≠ "java/lang/invoke/MethodHandle" ∧ y_So_putData.cls ≠ "java/lang/invoke/VarHandle" ∧ (parseMethodDescriptor y_So_putData.desc).map (fun d => d.parameters.length) = some 4 := by decide +kernel
theorem d_So_putData_0 : decode b_So_putData 0 = .ok (.aload 4, 2) := by decide +kernel
theorem d_So_putData_2 : decode b_So_putData 2 = .ok (.bipush 48, 2) := by decide +kernel
theorem d_So_putData_4 : decode b_So_putData 4 = .ok (.invokevirtual 97, 3) := by decide +kernel
theorem d_So_putData_7 : decode b_So_putData 7 = .ok (.istore 5, 2) := by decide +kernel
theorem d_So_putData_9 : decode b_So_putData 9 = .ok (.aload 4, 2) := by decide +kernel
theorem d_So_putData_11 : decode b_So_putData 11 = .ok (.iconst 0, 1) := by decide +kernel
theorem d_So_putData_12 : decode b_So_putData 12 = .ok (.aload_n 3, 1) := by decide +kernel
theorem d_So_putData_13 : decode b_So_putData 13 = .ok (.getfield 138, 3) := by decide +kernel
theorem d_So_putData_16 : decode b_So_putData 16 = .ok (.iconst 0, 1) := by decide +kernel
theorem d_So_putData_17 : decode b_So_putData 17 = .ok (.aload_n 3, 1) := by decide +kernel
theorem d_So_putData_18 : decode b_So_putData 18 = .ok (.getfield 141, 3) := by decide +kernel
theorem d_So_putData_21 : decode b_So_putData 21 = .ok (.invokevirtual 144, 3) := by decide +kernel
theorem d_So_putData_24 : decode b_So_putData 24 = .ok (.aload 4, 2) := by decide +kernel
theorem d_So_putData_26 : decode b_So_putData 26 = .ok (.iconst 1, 1) := by decide +kernel
theorem d_So_putData_27 : decode b_So_putData 27 = .ok (.iload_n 2, 1) := by decide +kernel
theorem d_So_putData_28 : decode b_So_putData 28 = .ok (.invokevirtual 100, 3) := by decide +kernel
theorem d_So_putData_31 : decode b_So_putData 31 = .ok (.aload 4, 2) := by decide +kernel
theorem d_So_putData_33 : decode b_So_putData 33 = .ok (.iconst 2, 1) := by decide +kernel
theorem d_So_putData_34 : decode b_So_putData 34 = .ok (.lconst 0, 1) := by decide +kernel
theorem d_So_putData_35 : decode b_So_putData 35 = .ok (.invokevirtual 104, 3) := by decide +kernel
theorem d_So_putData_38 : decode b_So_putData 38 = .ok (.aload 4, 2) := by decide +kernel
theorem d_So_putData_40 : decode b_So_putData 40 = .ok (.iconst 3, 1) := by decide +kernel
theorem d_So_putData_41 : decode b_So_putData 41 = .ok (.aload_n 0, 1) := by decide +kernel
theorem d_So_putData_42 : decode b_So_putData 42 = .ok (.getfield 25, 3) := by decide +kernel
theorem d_So_putData_45 : decode b_So_putData 45 = .ok (.iload_n 1, 1) := by decide +kernel
theorem d_So_putData_46 : decode b_So_putData 46 = .ok (.iaload, 1) := by decide +kernel
theorem d_So_putData_47 : decode b_So_putData 47 = .ok (.i2l, 1) := by decide +kernel
theorem d_So_putData_48 : decode b_So_putData 48 = .ok (.ldc2_w 148, 3) := by decide +kernel
theorem d_So_putData_51 : decode b_So_putData 51 = .ok (.land, 1) := by decide +kernel
theorem d_So_putData_52 : decode b_So_putData 52 = .ok (.invokevirtual 104, 3) := by decide +kernel
theorem d_So_putData_55 : decode b_So_putData 55 = .ok (.aload_n 0, 1) := by decide +kernel
theorem d_So_putData_56 : decode b_So_putData 56 = .ok (.getfield 32, 3) := by decide +kernel
theorem d_So_putData_59 : decode b_So_putData 59 = .ok (.iconst 3, 1) := by decide +kernel
theorem d_So_putData_60 : decode b_So_putData 60 = .ok (.iload_n 1, 1) := by decide +kernel
theorem d_So_putData_61 : decode b_So_putData 61 = .ok (.i2b, 1) := by decide +kernel
theorem d_So_putData_62 : decode b_So_putData 62 = .ok (.bastore, 1) := by decide +kernel
theorem d_So_putData_63 : decode b_So_putData 63 = .ok (.aload 4, 2) := by decide +kernel
theorem d_So_putData_65 : decode b_So_putData 65 = .ok (.iconst 4, 1) := by decide +kernel
theorem d_So_putData_66 : decode b_So_putData 66 = .ok (.iconst 2, 1) := by decide +kernel
theorem d_So_putData_67 : decode b_So_putData 67 = .ok (.aload_n 0, 1) := by decide +kernel
theorem d_So_putData_68 : decode b_So_putData 68 = .ok (.getfield 32, 3) := by decide +kernel
theorem d_So_putData_71 : decode b_So_putData 71 = .ok (.iconst 4, 1) := by decide +kernel
theorem d_So_putData_72 : decode b_So_putData 72 = .ok (.invokevirtual 150, 3) := by decide +kernel
theorem d_So_putData_75 : decode b_So_putData 75 = .ok (.aload 4, 2) := by decide +kernel
theorem d_So_putData_77 : decode b_So_putData 77 = .ok (.iload 5, 2) := by decide +kernel
theorem d_So_putData_79 : decode b_So_putData 79 = .ok (.invokevirtual 108, 3) := by decide +kernel
theorem d_So_putData_82 : decode b_So_putData 82 = .ok (.aload_n 0, 1) := by decide +kernel
theorem d_So_putData_83 : decode b_So_putData 83 = .ok (.getfield 25, 3) := by decide +kernel
theorem d_So_putData_86 : decode b_So_putData 86 = .ok (.iload_n 1, 1) := by decide +kernel
theorem d_So_putData_87 : decode b_So_putData 87 = .ok (.dup2, 1) := by decide +kernel
theorem d_So_putData_88 : decode b_So_putData 88 = .ok (.iaload, 1) := by decide +kernel
theorem d_So_putData_89 : decode b_So_putData 89 = .ok (.iconst 1, 1) := by decide +kernel
theorem d_So_putData_90 : decode b_So_putData 90 = .ok (.iadd, 1) := by decide +kernel
theorem d_So_putData_91 : decode b_So_putData 91 = .ok (.iastore, 1) := by decide +kernel
theorem d_So_putData_92 : decode b_So_putData 92 = .ok (.return_, 1) := by decide +kernel
abbrev b_So_putPrivate : ByteArray := prog_10_method_8_code
def y_So_putPrivate : MethodName := ⟨R_So, "putPrivate", "(IILRealmHouse$Bytes;LRealmHouse$Bytes;)V"⟩
abbrev k_So_putPrivate : Cond := .code y_So_putPrivate b_So_putPrivate 10 none
theorem ki_So_putPrivate : k_So_putPrivate ∈ lw_tg := in_t 1644 (by decide +kernel)
theorem ks_So_putPrivate : Cond.instanceMethod y_So_putPrivate ∈ lw_tg := in_t 1642 (by decide +kernel)
theorem kx_So_putPrivate : Cond.selects R_So y_So_putPrivate y_So_putPrivate ∈ lw_tg := in_t 1643 (by decide +kernel)
theorem kl_H_So_putPrivate : Cond.methodLink R_H 275 y_So_putPrivate ∈ lw_tg := in_t 1641 (by decide +kernel)
theorem hd_So_putPrivate : y_So_putPrivate.cls = R_So ∧ y_So_putPrivate.cls ≠ "java/lang/invoke/MethodHandle" ∧ y_So_putPrivate.cls ≠ "java/lang/invoke/VarHandle" ∧ (parseMethodDescriptor y_So_putPrivate.desc).map (fun d => d.parameters.length) = some 4 := by decide +kernel
theorem d_So_putPrivate_0 : decode b_So_putPrivate 0 = .ok (.aload_n 0, 1) := by decide +kernel
theorem d_So_putPrivate_1 : decode b_So_putPrivate 1 = .ok (.getfield 35, 3) := by decide +kernel
theorem d_So_putPrivate_4 : decode b_So_putPrivate 4 = .ok (.getfield 91, 3) := by decide +kernel
theorem d_So_putPrivate_7 : decode b_So_putPrivate 7 = .ok (.astore 5, 2) := by decide +kernel
theorem d_So_putPrivate_9 : decode b_So_putPrivate 9 = .ok (.aload 5, 2) := by decide +kernel
theorem d_So_putPrivate_11 : decode b_So_putPrivate 11 = .ok (.invokevirtual 94, 3) := by decide +kernel
theorem d_So_putPrivate_14 : decode b_So_putPrivate 14 = .ok (.aload 5, 2) := by decide +kernel
theorem d_So_putPrivate_16 : decode b_So_putPrivate 16 = .ok (.bipush 124, 2) := by decide +kernel
theorem d_So_putPrivate_18 : decode b_So_putPrivate 18 = .ok (.invokevirtual 97, 3) := by decide +kernel
theorem d_So_putPrivate_21 : decode b_So_putPrivate 21 = .ok (.istore 6, 2) := by decide +kernel
theorem d_So_putPrivate_23 : decode b_So_putPrivate 23 = .ok (.aload_n 0, 1) := by decide +kernel
theorem d_So_putPrivate_24 : decode b_So_putPrivate 24 = .ok (.iload_n 1, 1) := by decide +kernel
theorem d_So_putPrivate_25 : decode b_So_putPrivate 25 = .ok (.iload_n 2, 1) := by decide +kernel
theorem d_So_putPrivate_26 : decode b_So_putPrivate 26 = .ok (.aload_n 3, 1) := by decide +kernel
theorem d_So_putPrivate_27 : decode b_So_putPrivate 27 = .ok (.aload 5, 2) := by decide +kernel
theorem d_So_putPrivate_29 : decode b_So_putPrivate 29 = .ok (.invokevirtual 154, 3) := by decide +kernel
theorem d_So_putPrivate_32 : decode b_So_putPrivate 32 = .ok (.aload 5, 2) := by decide +kernel
theorem d_So_putPrivate_34 : decode b_So_putPrivate 34 = .ok (.iload 6, 2) := by decide +kernel
theorem d_So_putPrivate_36 : decode b_So_putPrivate 36 = .ok (.invokevirtual 108, 3) := by decide +kernel
theorem d_So_putPrivate_39 : decode b_So_putPrivate 39 = .ok (.aload 4, 2) := by decide +kernel
theorem d_So_putPrivate_41 : decode b_So_putPrivate 41 = .ok (.invokevirtual 94, 3) := by decide +kernel
theorem d_So_putPrivate_44 : decode b_So_putPrivate 44 = .ok (.aload 4, 2) := by decide +kernel
theorem d_So_putPrivate_46 : decode b_So_putPrivate 46 = .ok (.bipush 117, 2) := by decide +kernel
theorem d_So_putPrivate_48 : decode b_So_putPrivate 48 = .ok (.invokevirtual 97, 3) := by decide +kernel
theorem d_So_putPrivate_51 : decode b_So_putPrivate 51 = .ok (.istore 7, 2) := by decide +kernel
theorem d_So_putPrivate_53 : decode b_So_putPrivate 53 = .ok (.aload 4, 2) := by decide +kernel
theorem d_So_putPrivate_55 : decode b_So_putPrivate 55 = .ok (.bipush 48, 2) := by decide +kernel
theorem d_So_putPrivate_57 : decode b_So_putPrivate 57 = .ok (.invokevirtual 97, 3) := by decide +kernel
theorem d_So_putPrivate_60 : decode b_So_putPrivate 60 = .ok (.istore 8, 2) := by decide +kernel
theorem d_So_putPrivate_62 : decode b_So_putPrivate 62 = .ok (.aload 4, 2) := by decide +kernel
theorem d_So_putPrivate_64 : decode b_So_putPrivate 64 = .ok (.iconst 0, 1) := by decide +kernel
theorem d_So_putPrivate_65 : decode b_So_putPrivate 65 = .ok (.ldc2_w 112, 3) := by decide +kernel
theorem d_So_putPrivate_68 : decode b_So_putPrivate 68 = .ok (.invokevirtual 104, 3) := by decide +kernel
theorem d_So_putPrivate_71 : decode b_So_putPrivate 71 = .ok (.aload 4, 2) := by decide +kernel
theorem d_So_putPrivate_73 : decode b_So_putPrivate 73 = .ok (.iconst 1, 1) := by decide +kernel
theorem d_So_putPrivate_74 : decode b_So_putPrivate 74 = .ok (.ldc2_w 158, 3) := by decide +kernel
theorem d_So_putPrivate_77 : decode b_So_putPrivate 77 = .ok (.invokevirtual 104, 3) := by decide +kernel
theorem d_So_putPrivate_80 : decode b_So_putPrivate 80 = .ok (.aload 4, 2) := by decide +kernel
theorem d_So_putPrivate_82 : decode b_So_putPrivate 82 = .ok (.iconst 3, 1) := by decide +kernel
theorem d_So_putPrivate_83 : decode b_So_putPrivate 83 = .ok (.invokevirtual 116, 3) := by decide +kernel
theorem d_So_putPrivate_86 : decode b_So_putPrivate 86 = .ok (.istore 9, 2) := by decide +kernel
theorem d_So_putPrivate_88 : decode b_So_putPrivate 88 = .ok (.aload_n 0, 1) := by decide +kernel
theorem d_So_putPrivate_89 : decode b_So_putPrivate 89 = .ok (.getfield 35, 3) := by decide +kernel
theorem d_So_putPrivate_92 : decode b_So_putPrivate 92 = .ok (.aload 4, 2) := by decide +kernel
theorem d_So_putPrivate_94 : decode b_So_putPrivate 94 = .ok (.aload_n 0, 1) := by decide +kernel
theorem d_So_putPrivate_95 : decode b_So_putPrivate 95 = .ok (.getfield 19, 3) := by decide +kernel
theorem d_So_putPrivate_98 : decode b_So_putPrivate 98 = .ok (.bipush 13, 2) := by decide +kernel
theorem d_So_putPrivate_100 : decode b_So_putPrivate 100 = .ok (.iconst 0, 1) := by decide +kernel
theorem d_So_putPrivate_101 : decode b_So_putPrivate 101 = .ok (.invokevirtual 119, 3) := by decide +kernel
theorem d_So_putPrivate_104 : decode b_So_putPrivate 104 = .ok (.aload 4, 2) := by decide +kernel
theorem d_So_putPrivate_106 : decode b_So_putPrivate 106 = .ok (.iload 9, 2) := by decide +kernel
theorem d_So_putPrivate_108 : decode b_So_putPrivate 108 = .ok (.invokevirtual 108, 3) := by decide +kernel
theorem d_So_putPrivate_111 : decode b_So_putPrivate 111 = .ok (.aload 4, 2) := by decide +kernel
theorem d_So_putPrivate_113 : decode b_So_putPrivate 113 = .ok (.iload 8, 2) := by decide +kernel
theorem d_So_putPrivate_115 : decode b_So_putPrivate 115 = .ok (.invokevirtual 108, 3) := by decide +kernel
theorem d_So_putPrivate_118 : decode b_So_putPrivate 118 = .ok (.aload 4, 2) := by decide +kernel
theorem d_So_putPrivate_120 : decode b_So_putPrivate 120 = .ok (.iload 7, 2) := by decide +kernel
theorem d_So_putPrivate_122 : decode b_So_putPrivate 122 = .ok (.invokevirtual 108, 3) := by decide +kernel
theorem d_So_putPrivate_125 : decode b_So_putPrivate 125 = .ok (.return_, 1) := by decide +kernel
abbrev b_So_putSafe : ByteArray := prog_10_method_9_code
def y_So_putSafe : MethodName := ⟨R_So, "putSafe", "(IILRealmHouse$Bytes;LRealmHouse$Bytes;)V"⟩
abbrev k_So_putSafe : Cond := .code y_So_putSafe b_So_putSafe 8 none
theorem ki_So_putSafe : k_So_putSafe ∈ lw_tg := in_t 1690 (by decide +kernel)
theorem ks_So_putSafe : Cond.instanceMethod y_So_putSafe ∈ lw_tg := in_t 1688 (by decide +kernel)
theorem kx_So_putSafe : Cond.selects R_So y_So_putSafe y_So_putSafe ∈ lw_tg := in_t 1689 (by decide +kernel)
theorem kl_H_So_putSafe : Cond.methodLink R_H 283 y_So_putSafe ∈ lw_tg := in_t 1687 (by decide +kernel)
theorem hd_So_putSafe : y_So_putSafe.cls = R_So ∧ y_So_putSafe.cls ≠ "java/lang/invoke/MethodHandle" ∧ y_So_putSafe.cls ≠ "java/lang/invoke/VarHandle" ∧ (parseMethodDescriptor y_So_putSafe.desc).map (fun d => d.parameters.length) = some 4 := by decide +kernel
theorem d_So_putSafe_0 : decode b_So_putSafe 0 = .ok (.aload_n 0, 1) := by decide +kernel
theorem d_So_putSafe_1 : decode b_So_putSafe 1 = .ok (.getfield 35, 3) := by decide +kernel
theorem d_So_putSafe_4 : decode b_So_putSafe 4 = .ok (.getfield 91, 3) := by decide +kernel
theorem d_So_putSafe_7 : decode b_So_putSafe 7 = .ok (.astore 5, 2) := by decide +kernel
theorem d_So_putSafe_9 : decode b_So_putSafe 9 = .ok (.aload 5, 2) := by decide +kernel
theorem d_So_putSafe_11 : decode b_So_putSafe 11 = .ok (.invokevirtual 94, 3) := by decide +kernel
theorem d_So_putSafe_14 : decode b_So_putSafe 14 = .ok (.aload_n 0, 1) := by decide +kernel
theorem d_So_putSafe_15 : decode b_So_putSafe 15 = .ok (.iload_n 1, 1) := by decide +kernel
theorem d_So_putSafe_16 : decode b_So_putSafe 16 = .ok (.iload_n 2, 1) := by decide +kernel
theorem d_So_putSafe_17 : decode b_So_putSafe 17 = .ok (.aload_n 3, 1) := by decide +kernel
theorem d_So_putSafe_18 : decode b_So_putSafe 18 = .ok (.aload 5, 2) := by decide +kernel
theorem d_So_putSafe_20 : decode b_So_putSafe 20 = .ok (.invokevirtual 154, 3) := by decide +kernel
theorem d_So_putSafe_23 : decode b_So_putSafe 23 = .ok (.aload_n 0, 1) := by decide +kernel
theorem d_So_putSafe_24 : decode b_So_putSafe 24 = .ok (.getfield 35, 3) := by decide +kernel
theorem d_So_putSafe_27 : decode b_So_putSafe 27 = .ok (.aload_n 0, 1) := by decide +kernel
theorem d_So_putSafe_28 : decode b_So_putSafe 28 = .ok (.getfield 19, 3) := by decide +kernel
theorem d_So_putSafe_31 : decode b_So_putSafe 31 = .ok (.bipush 15, 2) := by decide +kernel
theorem d_So_putSafe_33 : decode b_So_putSafe 33 = .ok (.aload 5, 2) := by decide +kernel
theorem d_So_putSafe_35 : decode b_So_putSafe 35 = .ok (.iconst 0, 1) := by decide +kernel
theorem d_So_putSafe_36 : decode b_So_putSafe 36 = .ok (.aload 5, 2) := by decide +kernel
theorem d_So_putSafe_38 : decode b_So_putSafe 38 = .ok (.getfield 141, 3) := by decide +kernel
theorem d_So_putSafe_41 : decode b_So_putSafe 41 = .ok (.invokevirtual 160, 3) := by decide +kernel
theorem d_So_putSafe_44 : decode b_So_putSafe 44 = .ok (.aload 4, 2) := by decide +kernel
theorem d_So_putSafe_46 : decode b_So_putSafe 46 = .ok (.invokevirtual 94, 3) := by decide +kernel
theorem d_So_putSafe_49 : decode b_So_putSafe 49 = .ok (.aload 4, 2) := by decide +kernel
theorem d_So_putSafe_51 : decode b_So_putSafe 51 = .ok (.bipush 116, 2) := by decide +kernel
theorem d_So_putSafe_53 : decode b_So_putSafe 53 = .ok (.invokevirtual 97, 3) := by decide +kernel
theorem d_So_putSafe_56 : decode b_So_putSafe 56 = .ok (.istore 6, 2) := by decide +kernel
theorem d_So_putSafe_58 : decode b_So_putSafe 58 = .ok (.aload 4, 2) := by decide +kernel
theorem d_So_putSafe_60 : decode b_So_putSafe 60 = .ok (.bipush 48, 2) := by decide +kernel
theorem d_So_putSafe_62 : decode b_So_putSafe 62 = .ok (.invokevirtual 97, 3) := by decide +kernel
theorem d_So_putSafe_65 : decode b_So_putSafe 65 = .ok (.istore 7, 2) := by decide +kernel
theorem d_So_putSafe_67 : decode b_So_putSafe 67 = .ok (.aload 4, 2) := by decide +kernel
theorem d_So_putSafe_69 : decode b_So_putSafe 69 = .ok (.iconst 0, 1) := by decide +kernel
theorem d_So_putSafe_70 : decode b_So_putSafe 70 = .ok (.ldc2_w 112, 3) := by decide +kernel
theorem d_So_putSafe_73 : decode b_So_putSafe 73 = .ok (.invokevirtual 104, 3) := by decide +kernel
theorem d_So_putSafe_76 : decode b_So_putSafe 76 = .ok (.aload 4, 2) := by decide +kernel
theorem d_So_putSafe_78 : decode b_So_putSafe 78 = .ok (.iconst 1, 1) := by decide +kernel
theorem d_So_putSafe_79 : decode b_So_putSafe 79 = .ok (.ldc2_w 164, 3) := by decide +kernel
theorem d_So_putSafe_82 : decode b_So_putSafe 82 = .ok (.invokevirtual 104, 3) := by decide +kernel
theorem d_So_putSafe_85 : decode b_So_putSafe 85 = .ok (.aload 4, 2) := by decide +kernel
theorem d_So_putSafe_87 : decode b_So_putSafe 87 = .ok (.iconst 2, 1) := by decide +kernel
theorem d_So_putSafe_88 : decode b_So_putSafe 88 = .ok (.aload 5, 2) := by decide +kernel
theorem d_So_putSafe_90 : decode b_So_putSafe 90 = .ok (.iconst 0, 1) := by decide +kernel
theorem d_So_putSafe_91 : decode b_So_putSafe 91 = .ok (.invokevirtual 166, 3) := by decide +kernel
theorem d_So_putSafe_94 : decode b_So_putSafe 94 = .ok (.aload_n 0, 1) := by decide +kernel
theorem d_So_putSafe_95 : decode b_So_putSafe 95 = .ok (.getfield 35, 3) := by decide +kernel
theorem d_So_putSafe_98 : decode b_So_putSafe 98 = .ok (.aload 4, 2) := by decide +kernel
theorem d_So_putSafe_100 : decode b_So_putSafe 100 = .ok (.aload_n 0, 1) := by decide +kernel
theorem d_So_putSafe_101 : decode b_So_putSafe 101 = .ok (.getfield 19, 3) := by decide +kernel
theorem d_So_putSafe_104 : decode b_So_putSafe 104 = .ok (.invokevirtual 170, 3) := by decide +kernel
theorem d_So_putSafe_107 : decode b_So_putSafe 107 = .ok (.aload 4, 2) := by decide +kernel
theorem d_So_putSafe_109 : decode b_So_putSafe 109 = .ok (.iload 7, 2) := by decide +kernel
theorem d_So_putSafe_111 : decode b_So_putSafe 111 = .ok (.invokevirtual 108, 3) := by decide +kernel
theorem d_So_putSafe_114 : decode b_So_putSafe 114 = .ok (.aload 4, 2) := by decide +kernel
theorem d_So_putSafe_116 : decode b_So_putSafe 116 = .ok (.iload 6, 2) := by decide +kernel
theorem d_So_putSafe_118 : decode b_So_putSafe 118 = .ok (.invokevirtual 108, 3) := by decide +kernel
theorem d_So_putSafe_121 : decode b_So_putSafe 121 = .ok (.return_, 1) := by decide +kernel
abbrev b_So_judgeHead : ByteArray := prog_10_method_10_code
def y_So_judgeHead : MethodName := ⟨R_So, "judgeHead", "(LRealmHouse$Bytes;II)I"⟩
abbrev k_So_judgeHead : Cond := .code y_So_judgeHead b_So_judgeHead 3 (some .int)
theorem ki_So_judgeHead : k_So_judgeHead ∈ lw_tg := in_t 1663 (by decide +kernel)
theorem ks_So_judgeHead : Cond.static y_So_judgeHead ∈ lw_tg := in_t 1662 (by decide +kernel)
theorem kl_So_So_judgeHead : Cond.methodLink R_So 178 y_So_judgeHead ∈ lw_tg := in_t 1661 (by decide +kernel)
theorem hd_So_judgeHead : y_So_judgeHead.cls = R_So ∧ y_So_judgeHead.cls ≠ "java/lang/invoke/MethodHandle" ∧ y_So_judgeHead.cls ≠ "java/lang/invoke/VarHandle" ∧ (parseMethodDescriptor y_So_judgeHead.desc).map (fun d => d.parameters.length) = some 3 := by decide +kernel
theorem d_So_judgeHead_0 : decode b_So_judgeHead 0 = .ok (.aload_n 0, 1) := by decide +kernel
theorem d_So_judgeHead_1 : decode b_So_judgeHead 1 = .ok (.iload_n 1, 1) := by decide +kernel
theorem d_So_judgeHead_2 : decode b_So_judgeHead 2 = .ok (.iconst 0, 1) := by decide +kernel
theorem d_So_judgeHead_3 : decode b_So_judgeHead 3 = .ok (.aload_n 0, 1) := by decide +kernel
theorem d_So_judgeHead_4 : decode b_So_judgeHead 4 = .ok (.getfield 141, 3) := by decide +kernel
theorem d_So_judgeHead_7 : decode b_So_judgeHead 7 = .ok (.invokevirtual 174, 3) := by decide +kernel
theorem d_So_judgeHead_10 : decode b_So_judgeHead 10 = .ok (.ifCond .ne 6, 3) := by decide +kernel
theorem d_So_judgeHead_13 : decode b_So_judgeHead 13 = .ok (.bipush (-60), 2) := by decide +kernel
theorem d_So_judgeHead_15 : decode b_So_judgeHead 15 = .ok (.ireturn, 1) := by decide +kernel
theorem d_So_judgeHead_16 : decode b_So_judgeHead 16 = .ok (.aload_n 0, 1) := by decide +kernel
theorem d_So_judgeHead_17 : decode b_So_judgeHead 17 = .ok (.aload_n 0, 1) := by decide +kernel
theorem d_So_judgeHead_18 : decode b_So_judgeHead 18 = .ok (.iconst 0, 1) := by decide +kernel
theorem d_So_judgeHead_19 : decode b_So_judgeHead 19 = .ok (.iconst 0, 1) := by decide +kernel
theorem d_So_judgeHead_20 : decode b_So_judgeHead 20 = .ok (.invokevirtual 45, 3) := by decide +kernel
theorem d_So_judgeHead_23 : decode b_So_judgeHead 23 = .ok (.invokevirtual 69, 3) := by decide +kernel
theorem d_So_judgeHead_26 : decode b_So_judgeHead 26 = .ok (.ldc2_w 112, 3) := by decide +kernel
theorem d_So_judgeHead_29 : decode b_So_judgeHead 29 = .ok (.lcmp, 1) := by decide +kernel
theorem d_So_judgeHead_30 : decode b_So_judgeHead 30 = .ok (.ifCond .eq 6, 3) := by decide +kernel
theorem d_So_judgeHead_33 : decode b_So_judgeHead 33 = .ok (.bipush (-3), 2) := by decide +kernel
theorem d_So_judgeHead_35 : decode b_So_judgeHead 35 = .ok (.ireturn, 1) := by decide +kernel
theorem d_So_judgeHead_36 : decode b_So_judgeHead 36 = .ok (.aload_n 0, 1) := by decide +kernel
theorem d_So_judgeHead_37 : decode b_So_judgeHead 37 = .ok (.aload_n 0, 1) := by decide +kernel
theorem d_So_judgeHead_38 : decode b_So_judgeHead 38 = .ok (.iconst 0, 1) := by decide +kernel
theorem d_So_judgeHead_39 : decode b_So_judgeHead 39 = .ok (.iconst 1, 1) := by decide +kernel
theorem d_So_judgeHead_40 : decode b_So_judgeHead 40 = .ok (.invokevirtual 45, 3) := by decide +kernel
theorem d_So_judgeHead_43 : decode b_So_judgeHead 43 = .ok (.invokevirtual 69, 3) := by decide +kernel
theorem d_So_judgeHead_46 : decode b_So_judgeHead 46 = .ok (.iload_n 2, 1) := by decide +kernel
theorem d_So_judgeHead_47 : decode b_So_judgeHead 47 = .ok (.i2l, 1) := by decide +kernel
theorem d_So_judgeHead_48 : decode b_So_judgeHead 48 = .ok (.lcmp, 1) := by decide +kernel
theorem d_So_judgeHead_49 : decode b_So_judgeHead 49 = .ok (.ifCond .eq 8, 3) := by decide +kernel
theorem d_So_judgeHead_52 : decode b_So_judgeHead 52 = .ok (.bipush (-40), 2) := by decide +kernel
theorem d_So_judgeHead_54 : decode b_So_judgeHead 54 = .ok (.goto 4, 3) := by decide +kernel
theorem d_So_judgeHead_57 : decode b_So_judgeHead 57 = .ok (.iconst 0, 1) := by decide +kernel
theorem d_So_judgeHead_58 : decode b_So_judgeHead 58 = .ok (.ireturn, 1) := by decide +kernel
abbrev b_So_hearPrivate : ByteArray := prog_10_method_11_code
def y_So_hearPrivate : MethodName := ⟨R_So, "hearPrivate", "(IILRealmHouse$Bytes;LRealmHouse$Bytes;)I"⟩
abbrev k_So_hearPrivate : Cond := .code y_So_hearPrivate b_So_hearPrivate 7 (some .int)
theorem ki_So_hearPrivate : k_So_hearPrivate ∈ lw_tg := in_t 1660 (by decide +kernel)
theorem ks_So_hearPrivate : Cond.instanceMethod y_So_hearPrivate ∈ lw_tg := in_t 1658 (by decide +kernel)
theorem kx_So_hearPrivate : Cond.selects R_So y_So_hearPrivate y_So_hearPrivate ∈ lw_tg := in_t 1659 (by decide +kernel)
theorem kl_H_So_hearPrivate : Cond.methodLink R_H 279 y_So_hearPrivate ∈ lw_tg := in_t 1657 (by decide +kernel)
theorem hd_So_hearPrivate : y_So_hearPrivate.cls = R_So ∧ y_So_hearPrivate.cls ≠ "java/lang/invoke/MethodHandle" ∧ y_So_hearPrivate.cls ≠ "java/lang/invoke/VarHandle" ∧ (parseMethodDescriptor y_So_hearPrivate.desc).map (fun d => d.parameters.length) = some 4 := by decide +kernel
theorem d_So_hearPrivate_0 : decode b_So_hearPrivate 0 = .ok (.aload_n 3, 1) := by decide +kernel
theorem d_So_hearPrivate_1 : decode b_So_hearPrivate 1 = .ok (.sipush 373, 3) := by decide +kernel
theorem d_So_hearPrivate_4 : decode b_So_hearPrivate 4 = .ok (.bipush 21, 2) := by decide +kernel
theorem d_So_hearPrivate_6 : decode b_So_hearPrivate 6 = .ok (.invokestatic 178, 3) := by decide +kernel
theorem d_So_hearPrivate_9 : decode b_So_hearPrivate 9 = .ok (.istore 5, 2) := by decide +kernel
theorem d_So_hearPrivate_11 : decode b_So_hearPrivate 11 = .ok (.iload 5, 2) := by decide +kernel
theorem d_So_hearPrivate_13 : decode b_So_hearPrivate 13 = .ok (.ifCond .ge 6, 3) := by decide +kernel
theorem d_So_hearPrivate_16 : decode b_So_hearPrivate 16 = .ok (.iload 5, 2) := by decide +kernel
theorem d_So_hearPrivate_18 : decode b_So_hearPrivate 18 = .ok (.ireturn, 1) := by decide +kernel
theorem d_So_hearPrivate_19 : decode b_So_hearPrivate 19 = .ok (.aload_n 0, 1) := by decide +kernel
theorem d_So_hearPrivate_20 : decode b_So_hearPrivate 20 = .ok (.getfield 35, 3) := by decide +kernel
theorem d_So_hearPrivate_23 : decode b_So_hearPrivate 23 = .ok (.getfield 91, 3) := by decide +kernel
theorem d_So_hearPrivate_26 : decode b_So_hearPrivate 26 = .ok (.astore 6, 2) := by decide +kernel
theorem d_So_hearPrivate_28 : decode b_So_hearPrivate 28 = .ok (.aload_n 0, 1) := by decide +kernel
theorem d_So_hearPrivate_29 : decode b_So_hearPrivate 29 = .ok (.getfield 35, 3) := by decide +kernel
theorem d_So_hearPrivate_32 : decode b_So_hearPrivate 32 = .ok (.aload_n 3, 1) := by decide +kernel
theorem d_So_hearPrivate_33 : decode b_So_hearPrivate 33 = .ok (.aload_n 3, 1) := by decide +kernel
theorem d_So_hearPrivate_34 : decode b_So_hearPrivate 34 = .ok (.iconst 0, 1) := by decide +kernel
theorem d_So_hearPrivate_35 : decode b_So_hearPrivate 35 = .ok (.iconst 3, 1) := by decide +kernel
theorem d_So_hearPrivate_36 : decode b_So_hearPrivate 36 = .ok (.invokevirtual 45, 3) := by decide +kernel
theorem d_So_hearPrivate_39 : decode b_So_hearPrivate 39 = .ok (.aload_n 0, 1) := by decide +kernel
theorem d_So_hearPrivate_40 : decode b_So_hearPrivate 40 = .ok (.getfield 19, 3) := by decide +kernel
theorem d_So_hearPrivate_43 : decode b_So_hearPrivate 43 = .ok (.bipush 13, 2) := by decide +kernel
theorem d_So_hearPrivate_45 : decode b_So_hearPrivate 45 = .ok (.aload 6, 2) := by decide +kernel
theorem d_So_hearPrivate_47 : decode b_So_hearPrivate 47 = .ok (.invokevirtual 182, 3) := by decide +kernel
theorem d_So_hearPrivate_50 : decode b_So_hearPrivate 50 = .ok (.ifCond .ne 6, 3) := by decide +kernel
theorem d_So_hearPrivate_53 : decode b_So_hearPrivate 53 = .ok (.bipush (-31), 2) := by decide +kernel
theorem d_So_hearPrivate_55 : decode b_So_hearPrivate 55 = .ok (.ireturn, 1) := by decide +kernel
theorem d_So_hearPrivate_56 : decode b_So_hearPrivate 56 = .ok (.aload 6, 2) := by decide +kernel
theorem d_So_hearPrivate_58 : decode b_So_hearPrivate 58 = .ok (.sipush 380, 3) := by decide +kernel
theorem d_So_hearPrivate_61 : decode b_So_hearPrivate 61 = .ok (.iconst 0, 1) := by decide +kernel
theorem d_So_hearPrivate_62 : decode b_So_hearPrivate 62 = .ok (.aload 6, 2) := by decide +kernel
theorem d_So_hearPrivate_64 : decode b_So_hearPrivate 64 = .ok (.getfield 141, 3) := by decide +kernel
theorem d_So_hearPrivate_67 : decode b_So_hearPrivate 67 = .ok (.invokevirtual 174, 3) := by decide +kernel
theorem d_So_hearPrivate_70 : decode b_So_hearPrivate 70 = .ok (.ifCond .ne 6, 3) := by decide +kernel
theorem d_So_hearPrivate_73 : decode b_So_hearPrivate 73 = .ok (.bipush (-60), 2) := by decide +kernel
theorem d_So_hearPrivate_75 : decode b_So_hearPrivate 75 = .ok (.ireturn, 1) := by decide +kernel
theorem d_So_hearPrivate_76 : decode b_So_hearPrivate 76 = .ok (.aload_n 0, 1) := by decide +kernel
theorem d_So_hearPrivate_77 : decode b_So_hearPrivate 77 = .ok (.iload_n 1, 1) := by decide +kernel
theorem d_So_hearPrivate_78 : decode b_So_hearPrivate 78 = .ok (.iload_n 2, 1) := by decide +kernel
theorem d_So_hearPrivate_79 : decode b_So_hearPrivate 79 = .ok (.aload 6, 2) := by decide +kernel
theorem d_So_hearPrivate_81 : decode b_So_hearPrivate 81 = .ok (.aload 6, 2) := by decide +kernel
theorem d_So_hearPrivate_83 : decode b_So_hearPrivate 83 = .ok (.iconst 0, 1) := by decide +kernel
theorem d_So_hearPrivate_84 : decode b_So_hearPrivate 84 = .ok (.invokevirtual 186, 3) := by decide +kernel
theorem d_So_hearPrivate_87 : decode b_So_hearPrivate 87 = .ok (.aload 4, 2) := by decide +kernel
theorem d_So_hearPrivate_89 : decode b_So_hearPrivate 89 = .ok (.invokevirtual 189, 3) := by decide +kernel
theorem d_So_hearPrivate_92 : decode b_So_hearPrivate 92 = .ok (.ireturn, 1) := by decide +kernel
abbrev b_So_hearSafe : ByteArray := prog_10_method_12_code
def y_So_hearSafe : MethodName := ⟨R_So, "hearSafe", "(IILRealmHouse$Bytes;LRealmHouse$Bytes;)I"⟩
abbrev k_So_hearSafe : Cond := .code y_So_hearSafe b_So_hearSafe 8 (some .int)
theorem ki_So_hearSafe : k_So_hearSafe ∈ lw_tg := in_t 1702 (by decide +kernel)
theorem ks_So_hearSafe : Cond.instanceMethod y_So_hearSafe ∈ lw_tg := in_t 1700 (by decide +kernel)
theorem kx_So_hearSafe : Cond.selects R_So y_So_hearSafe y_So_hearSafe ∈ lw_tg := in_t 1701 (by decide +kernel)
theorem kl_H_So_hearSafe : Cond.methodLink R_H 286 y_So_hearSafe ∈ lw_tg := in_t 1699 (by decide +kernel)
theorem hd_So_hearSafe : y_So_hearSafe.cls = R_So ∧ y_So_hearSafe.cls ≠ "java/lang/invoke/MethodHandle" ∧ y_So_hearSafe.cls ≠ "java/lang/invoke/VarHandle" ∧ (parseMethodDescriptor y_So_hearSafe.desc).map (fun d => d.parameters.length) = some 4 := by decide +kernel
theorem d_So_hearSafe_0 : decode b_So_hearSafe 0 = .ok (.aload_n 3, 1) := by decide +kernel
theorem d_So_hearSafe_1 : decode b_So_hearSafe 1 = .ok (.sipush 372, 3) := by decide +kernel
theorem d_So_hearSafe_4 : decode b_So_hearSafe 4 = .ok (.bipush 20, 2) := by decide +kernel
theorem d_So_hearSafe_6 : decode b_So_hearSafe 6 = .ok (.invokestatic 178, 3) := by decide +kernel
theorem d_So_hearSafe_9 : decode b_So_hearSafe 9 = .ok (.istore 5, 2) := by decide +kernel
theorem d_So_hearSafe_11 : decode b_So_hearSafe 11 = .ok (.iload 5, 2) := by decide +kernel
theorem d_So_hearSafe_13 : decode b_So_hearSafe 13 = .ok (.ifCond .ge 6, 3) := by decide +kernel
theorem d_So_hearSafe_16 : decode b_So_hearSafe 16 = .ok (.iload 5, 2) := by decide +kernel
theorem d_So_hearSafe_18 : decode b_So_hearSafe 18 = .ok (.ireturn, 1) := by decide +kernel
theorem d_So_hearSafe_19 : decode b_So_hearSafe 19 = .ok (.aload_n 3, 1) := by decide +kernel
theorem d_So_hearSafe_20 : decode b_So_hearSafe 20 = .ok (.iconst 0, 1) := by decide +kernel
theorem d_So_hearSafe_21 : decode b_So_hearSafe 21 = .ok (.iconst 2, 1) := by decide +kernel
theorem d_So_hearSafe_22 : decode b_So_hearSafe 22 = .ok (.invokevirtual 45, 3) := by decide +kernel
theorem d_So_hearSafe_25 : decode b_So_hearSafe 25 = .ok (.istore 6, 2) := by decide +kernel
theorem d_So_hearSafe_27 : decode b_So_hearSafe 27 = .ok (.aload_n 3, 1) := by decide +kernel
theorem d_So_hearSafe_28 : decode b_So_hearSafe 28 = .ok (.iconst 0, 1) := by decide +kernel
theorem d_So_hearSafe_29 : decode b_So_hearSafe 29 = .ok (.iconst 3, 1) := by decide +kernel
theorem d_So_hearSafe_30 : decode b_So_hearSafe 30 = .ok (.invokevirtual 45, 3) := by decide +kernel
theorem d_So_hearSafe_33 : decode b_So_hearSafe 33 = .ok (.istore 7, 2) := by decide +kernel
theorem d_So_hearSafe_35 : decode b_So_hearSafe 35 = .ok (.aload_n 0, 1) := by decide +kernel
theorem d_So_hearSafe_36 : decode b_So_hearSafe 36 = .ok (.getfield 19, 3) := by decide +kernel
theorem d_So_hearSafe_39 : decode b_So_hearSafe 39 = .ok (.aload_n 3, 1) := by decide +kernel
theorem d_So_hearSafe_40 : decode b_So_hearSafe 40 = .ok (.iload 7, 2) := by decide +kernel
theorem d_So_hearSafe_42 : decode b_So_hearSafe 42 = .ok (.invokestatic 193, 3) := by decide +kernel
theorem d_So_hearSafe_45 : decode b_So_hearSafe 45 = .ok (.ifCond .ne 6, 3) := by decide +kernel
theorem d_So_hearSafe_48 : decode b_So_hearSafe 48 = .ok (.bipush (-50), 2) := by decide +kernel
theorem d_So_hearSafe_50 : decode b_So_hearSafe 50 = .ok (.ireturn, 1) := by decide +kernel
theorem d_So_hearSafe_51 : decode b_So_hearSafe 51 = .ok (.aload_n 0, 1) := by decide +kernel
theorem d_So_hearSafe_52 : decode b_So_hearSafe 52 = .ok (.getfield 35, 3) := by decide +kernel
theorem d_So_hearSafe_55 : decode b_So_hearSafe 55 = .ok (.aload_n 0, 1) := by decide +kernel
theorem d_So_hearSafe_56 : decode b_So_hearSafe 56 = .ok (.getfield 19, 3) := by decide +kernel
theorem d_So_hearSafe_59 : decode b_So_hearSafe 59 = .ok (.bipush 15, 2) := by decide +kernel
theorem d_So_hearSafe_61 : decode b_So_hearSafe 61 = .ok (.aload_n 3, 1) := by decide +kernel
theorem d_So_hearSafe_62 : decode b_So_hearSafe 62 = .ok (.iload 6, 2) := by decide +kernel
theorem d_So_hearSafe_64 : decode b_So_hearSafe 64 = .ok (.aload_n 3, 1) := by decide +kernel
theorem d_So_hearSafe_65 : decode b_So_hearSafe 65 = .ok (.iload 6, 2) := by decide +kernel
theorem d_So_hearSafe_67 : decode b_So_hearSafe 67 = .ok (.aload_n 3, 1) := by decide +kernel
theorem d_So_hearSafe_68 : decode b_So_hearSafe 68 = .ok (.getfield 141, 3) := by decide +kernel
theorem d_So_hearSafe_71 : decode b_So_hearSafe 71 = .ok (.invokevirtual 197, 3) := by decide +kernel
theorem d_So_hearSafe_74 : decode b_So_hearSafe 74 = .ok (.invokevirtual 160, 3) := by decide +kernel
theorem d_So_hearSafe_77 : decode b_So_hearSafe 77 = .ok (.aload_n 0, 1) := by decide +kernel
theorem d_So_hearSafe_78 : decode b_So_hearSafe 78 = .ok (.getfield 35, 3) := by decide +kernel
theorem d_So_hearSafe_81 : decode b_So_hearSafe 81 = .ok (.aload_n 3, 1) := by decide +kernel
theorem d_So_hearSafe_82 : decode b_So_hearSafe 82 = .ok (.iload 7, 2) := by decide +kernel
theorem d_So_hearSafe_84 : decode b_So_hearSafe 84 = .ok (.invokevirtual 200, 3) := by decide +kernel
theorem d_So_hearSafe_87 : decode b_So_hearSafe 87 = .ok (.ifCond .ne 6, 3) := by decide +kernel
theorem d_So_hearSafe_90 : decode b_So_hearSafe 90 = .ok (.bipush (-41), 2) := by decide +kernel
theorem d_So_hearSafe_92 : decode b_So_hearSafe 92 = .ok (.ireturn, 1) := by decide +kernel
theorem d_So_hearSafe_93 : decode b_So_hearSafe 93 = .ok (.aload_n 0, 1) := by decide +kernel
theorem d_So_hearSafe_94 : decode b_So_hearSafe 94 = .ok (.iload_n 1, 1) := by decide +kernel
theorem d_So_hearSafe_95 : decode b_So_hearSafe 95 = .ok (.iload_n 2, 1) := by decide +kernel
theorem d_So_hearSafe_96 : decode b_So_hearSafe 96 = .ok (.aload_n 3, 1) := by decide +kernel
theorem d_So_hearSafe_97 : decode b_So_hearSafe 97 = .ok (.iload 6, 2) := by decide +kernel
theorem d_So_hearSafe_99 : decode b_So_hearSafe 99 = .ok (.aload 4, 2) := by decide +kernel
theorem d_So_hearSafe_101 : decode b_So_hearSafe 101 = .ok (.invokevirtual 189, 3) := by decide +kernel
theorem d_So_hearSafe_104 : decode b_So_hearSafe 104 = .ok (.ireturn, 1) := by decide +kernel
abbrev b_So_hearData : ByteArray := prog_10_method_13_code
def y_So_hearData : MethodName := ⟨R_So, "hearData", "(IILRealmHouse$Bytes;ILRealmHouse$Bytes;)I"⟩
abbrev k_So_hearData : Cond := .code y_So_hearData b_So_hearData 10 (some .int)
theorem ki_So_hearData : k_So_hearData ∈ lw_tg := in_t 1670 (by decide +kernel)
theorem ks_So_hearData : Cond.instanceMethod y_So_hearData ∈ lw_tg := in_t 1669 (by decide +kernel)
theorem kx_So_hearData : Cond.selects R_So y_So_hearData y_So_hearData ∈ lw_tg := List.mem_filter.mpr ⟨List.mem_append_left _ (List.mem_of_getElem? (i := 69) (by decide +kernel)), rfl⟩
theorem kl_So_So_hearData : Cond.methodLink R_So 189 y_So_hearData ∈ lw_tg := in_t 1667 (by decide +kernel)
theorem hd_So_hearData : y_So_hearData.cls = R_So ∧ y_So_hearData.cls ≠ "java/lang/invoke/MethodHandle" ∧ y_So_hearData.cls ≠ "java/lang/invoke/VarHandle" ∧ (parseMethodDescriptor y_So_hearData.desc).map (fun d => d.parameters.length) = some 5 := by decide +kernel
theorem d_So_hearData_0 : decode b_So_hearData 0 = .ok (.aload_n 3, 1) := by decide +kernel
theorem d_So_hearData_1 : decode b_So_hearData 1 = .ok (.aload_n 3, 1) := by decide +kernel
theorem d_So_hearData_2 : decode b_So_hearData 2 = .ok (.iload 4, 2) := by decide +kernel
theorem d_So_hearData_4 : decode b_So_hearData 4 = .ok (.iconst 1, 1) := by decide +kernel
theorem d_So_hearData_5 : decode b_So_hearData 5 = .ok (.invokevirtual 45, 3) := by decide +kernel
theorem d_So_hearData_8 : decode b_So_hearData 8 = .ok (.invokevirtual 62, 3) := by decide +kernel
theorem d_So_hearData_11 : decode b_So_hearData 11 = .ok (.istore 6, 2) := by decide +kernel
theorem d_So_hearData_13 : decode b_So_hearData 13 = .ok (.iload 6, 2) := by decide +kernel
theorem d_So_hearData_15 : decode b_So_hearData 15 = .ok (.ifCond .lt 16, 3) := by decide +kernel
theorem d_So_hearData_18 : decode b_So_hearData 18 = .ok (.iload 6, 2) := by decide +kernel
theorem d_So_hearData_20 : decode b_So_hearData 20 = .ok (.iload_n 2, 1) := by decide +kernel
theorem d_So_hearData_21 : decode b_So_hearData 21 = .ok (.isub, 1) := by decide +kernel
theorem d_So_hearData_22 : decode b_So_hearData 22 = .ok (.invokestatic 204, 3) := by decide +kernel
theorem d_So_hearData_25 : decode b_So_hearData 25 = .ok (.sipush 300, 3) := by decide +kernel
theorem d_So_hearData_28 : decode b_So_hearData 28 = .ok (.if_icmp .le 6, 3) := by decide +kernel
theorem d_So_hearData_31 : decode b_So_hearData 31 = .ok (.bipush (-37), 2) := by decide +kernel
theorem d_So_hearData_33 : decode b_So_hearData 33 = .ok (.ireturn, 1) := by decide +kernel
theorem d_So_hearData_34 : decode b_So_hearData 34 = .ok (.aload_n 3, 1) := by decide +kernel
theorem d_So_hearData_35 : decode b_So_hearData 35 = .ok (.aload_n 3, 1) := by decide +kernel
theorem d_So_hearData_36 : decode b_So_hearData 36 = .ok (.iload 4, 2) := by decide +kernel
theorem d_So_hearData_38 : decode b_So_hearData 38 = .ok (.iconst 4, 1) := by decide +kernel
theorem d_So_hearData_39 : decode b_So_hearData 39 = .ok (.invokevirtual 45, 3) := by decide +kernel
theorem d_So_hearData_42 : decode b_So_hearData 42 = .ok (.iconst 1, 1) := by decide +kernel
theorem d_So_hearData_43 : decode b_So_hearData 43 = .ok (.iload_n 1, 1) := by decide +kernel
theorem d_So_hearData_44 : decode b_So_hearData 44 = .ok (.isub, 1) := by decide +kernel
theorem d_So_hearData_45 : decode b_So_hearData 45 = .ok (.invokestatic 209, 3) := by decide +kernel
theorem d_So_hearData_48 : decode b_So_hearData 48 = .ok (.ifCond .ne 6, 3) := by decide +kernel
theorem d_So_hearData_51 : decode b_So_hearData 51 = .ok (.bipush (-38), 2) := by decide +kernel
theorem d_So_hearData_53 : decode b_So_hearData 53 = .ok (.ireturn, 1) := by decide +kernel
theorem d_So_hearData_54 : decode b_So_hearData 54 = .ok (.aload_n 3, 1) := by decide +kernel
theorem d_So_hearData_55 : decode b_So_hearData 55 = .ok (.iload 4, 2) := by decide +kernel
theorem d_So_hearData_57 : decode b_So_hearData 57 = .ok (.iconst 3, 1) := by decide +kernel
theorem d_So_hearData_58 : decode b_So_hearData 58 = .ok (.invokevirtual 45, 3) := by decide +kernel
theorem d_So_hearData_61 : decode b_So_hearData 61 = .ok (.istore 7, 2) := by decide +kernel
theorem d_So_hearData_63 : decode b_So_hearData 63 = .ok (.iload 7, 2) := by decide +kernel
theorem d_So_hearData_65 : decode b_So_hearData 65 = .ok (.ifCond .lt 24, 3) := by decide +kernel
theorem d_So_hearData_68 : decode b_So_hearData 68 = .ok (.aload_n 3, 1) := by decide +kernel
theorem d_So_hearData_69 : decode b_So_hearData 69 = .ok (.iload 7, 2) := by decide +kernel
theorem d_So_hearData_71 : decode b_So_hearData 71 = .ok (.invokevirtual 69, 3) := by decide +kernel
theorem d_So_hearData_74 : decode b_So_hearData 74 = .ok (.aload_n 0, 1) := by decide +kernel
theorem d_So_hearData_75 : decode b_So_hearData 75 = .ok (.getfield 29, 3) := by decide +kernel
theorem d_So_hearData_78 : decode b_So_hearData 78 = .ok (.iload_n 1, 1) := by decide +kernel
theorem d_So_hearData_79 : decode b_So_hearData 79 = .ok (.iaload, 1) := by decide +kernel
theorem d_So_hearData_80 : decode b_So_hearData 80 = .ok (.i2l, 1) := by decide +kernel
theorem d_So_hearData_81 : decode b_So_hearData 81 = .ok (.ldc2_w 148, 3) := by decide +kernel
theorem d_So_hearData_84 : decode b_So_hearData 84 = .ok (.land, 1) := by decide +kernel
theorem d_So_hearData_85 : decode b_So_hearData 85 = .ok (.lcmp, 1) := by decide +kernel
theorem d_So_hearData_86 : decode b_So_hearData 86 = .ok (.ifCond .eq 6, 3) := by decide +kernel
theorem d_So_hearData_89 : decode b_So_hearData 89 = .ok (.bipush (-42), 2) := by decide +kernel
theorem d_So_hearData_91 : decode b_So_hearData 91 = .ok (.ireturn, 1) := by decide +kernel
theorem d_So_hearData_92 : decode b_So_hearData 92 = .ok (.aload_n 0, 1) := by decide +kernel
theorem d_So_hearData_93 : decode b_So_hearData 93 = .ok (.getfield 29, 3) := by decide +kernel
theorem d_So_hearData_96 : decode b_So_hearData 96 = .ok (.iload_n 1, 1) := by decide +kernel
theorem d_So_hearData_97 : decode b_So_hearData 97 = .ok (.dup2, 1) := by decide +kernel
theorem d_So_hearData_98 : decode b_So_hearData 98 = .ok (.iaload, 1) := by decide +kernel
theorem d_So_hearData_99 : decode b_So_hearData 99 = .ok (.iconst 1, 1) := by decide +kernel
theorem d_So_hearData_100 : decode b_So_hearData 100 = .ok (.iadd, 1) := by decide +kernel
theorem d_So_hearData_101 : decode b_So_hearData 101 = .ok (.iastore, 1) := by decide +kernel
theorem d_So_hearData_102 : decode b_So_hearData 102 = .ok (.aload_n 3, 1) := by decide +kernel
theorem d_So_hearData_103 : decode b_So_hearData 103 = .ok (.iload 4, 2) := by decide +kernel
theorem d_So_hearData_105 : decode b_So_hearData 105 = .ok (.iconst 0, 1) := by decide +kernel
theorem d_So_hearData_106 : decode b_So_hearData 106 = .ok (.invokevirtual 45, 3) := by decide +kernel
theorem d_So_hearData_109 : decode b_So_hearData 109 = .ok (.istore 8, 2) := by decide +kernel
theorem d_So_hearData_111 : decode b_So_hearData 111 = .ok (.aload_n 3, 1) := by decide +kernel
theorem d_So_hearData_112 : decode b_So_hearData 112 = .ok (.iload 8, 2) := by decide +kernel
theorem d_So_hearData_114 : decode b_So_hearData 114 = .ok (.invokevirtual 186, 3) := by decide +kernel
theorem d_So_hearData_117 : decode b_So_hearData 117 = .ok (.istore 9, 2) := by decide +kernel
theorem d_So_hearData_119 : decode b_So_hearData 119 = .ok (.aload 5, 2) := by decide +kernel
theorem d_So_hearData_121 : decode b_So_hearData 121 = .ok (.invokevirtual 94, 3) := by decide +kernel
theorem d_So_hearData_124 : decode b_So_hearData 124 = .ok (.aload 5, 2) := by decide +kernel
theorem d_So_hearData_126 : decode b_So_hearData 126 = .ok (.aload_n 3, 1) := by decide +kernel
theorem d_So_hearData_127 : decode b_So_hearData 127 = .ok (.getfield 138, 3) := by decide +kernel
theorem d_So_hearData_130 : decode b_So_hearData 130 = .ok (.iload 9, 2) := by decide +kernel
theorem d_So_hearData_132 : decode b_So_hearData 132 = .ok (.aload_n 3, 1) := by decide +kernel
theorem d_So_hearData_133 : decode b_So_hearData 133 = .ok (.iload 8, 2) := by decide +kernel
theorem d_So_hearData_135 : decode b_So_hearData 135 = .ok (.aload_n 3, 1) := by decide +kernel
theorem d_So_hearData_136 : decode b_So_hearData 136 = .ok (.getfield 141, 3) := by decide +kernel
theorem d_So_hearData_139 : decode b_So_hearData 139 = .ok (.invokevirtual 197, 3) := by decide +kernel
theorem d_So_hearData_142 : decode b_So_hearData 142 = .ok (.iload 9, 2) := by decide +kernel
theorem d_So_hearData_144 : decode b_So_hearData 144 = .ok (.isub, 1) := by decide +kernel
theorem d_So_hearData_145 : decode b_So_hearData 145 = .ok (.invokevirtual 213, 3) := by decide +kernel
theorem d_So_hearData_148 : decode b_So_hearData 148 = .ok (.aload 5, 2) := by decide +kernel
theorem d_So_hearData_150 : decode b_So_hearData 150 = .ok (.getfield 141, 3) := by decide +kernel
theorem d_So_hearData_153 : decode b_So_hearData 153 = .ok (.ireturn, 1) := by decide +kernel
abbrev b_So_isAddress : ByteArray := prog_10_method_14_code
def y_So_isAddress : MethodName := ⟨R_So, "isAddress", "(LRealmHouse$Bytes;II)Z"⟩
abbrev k_So_isAddress : Cond := .code y_So_isAddress b_So_isAddress 5 (some .boolean)
theorem ki_So_isAddress : k_So_isAddress ∈ lw_tg := in_t 1674 (by decide +kernel)
theorem ks_So_isAddress : Cond.static y_So_isAddress ∈ lw_tg := in_t 1673 (by decide +kernel)
theorem kl_So_So_isAddress : Cond.methodLink R_So 209 y_So_isAddress ∈ lw_tg := in_t 1672 (by decide +kernel)
theorem hd_So_isAddress : y_So_isAddress.cls = R_So ∧ y_So_isAddress.cls ≠ "java/lang/invoke/MethodHandle" ∧ y_So_isAddress.cls ≠ "java/lang/invoke/VarHandle" ∧ (parseMethodDescriptor y_So_isAddress.desc).map (fun d => d.parameters.length) = some 3 := by decide +kernel
theorem d_So_isAddress_0 : decode b_So_isAddress 0 = .ok (.aload_n 0, 1) := by decide +kernel
theorem d_So_isAddress_1 : decode b_So_isAddress 1 = .ok (.iload_n 1, 1) := by decide +kernel
theorem d_So_isAddress_2 : decode b_So_isAddress 2 = .ok (.iconst 1, 1) := by decide +kernel
theorem d_So_isAddress_3 : decode b_So_isAddress 3 = .ok (.invokevirtual 45, 3) := by decide +kernel
theorem d_So_isAddress_6 : decode b_So_isAddress 6 = .ok (.istore_n 3, 1) := by decide +kernel
theorem d_So_isAddress_7 : decode b_So_isAddress 7 = .ok (.aload_n 0, 1) := by decide +kernel
theorem d_So_isAddress_8 : decode b_So_isAddress 8 = .ok (.iload_n 3, 1) := by decide +kernel
theorem d_So_isAddress_9 : decode b_So_isAddress 9 = .ok (.invokevirtual 186, 3) := by decide +kernel
theorem d_So_isAddress_12 : decode b_So_isAddress 12 = .ok (.istore 4, 2) := by decide +kernel
theorem d_So_isAddress_14 : decode b_So_isAddress 14 = .ok (.aload_n 0, 1) := by decide +kernel
theorem d_So_isAddress_15 : decode b_So_isAddress 15 = .ok (.aload_n 0, 1) := by decide +kernel
theorem d_So_isAddress_16 : decode b_So_isAddress 16 = .ok (.iload_n 1, 1) := by decide +kernel
theorem d_So_isAddress_17 : decode b_So_isAddress 17 = .ok (.iconst 0, 1) := by decide +kernel
theorem d_So_isAddress_18 : decode b_So_isAddress 18 = .ok (.invokevirtual 45, 3) := by decide +kernel
theorem d_So_isAddress_21 : decode b_So_isAddress 21 = .ok (.invokevirtual 69, 3) := by decide +kernel
theorem d_So_isAddress_24 : decode b_So_isAddress 24 = .ok (.ldc2_w 217, 3) := by decide +kernel
theorem d_So_isAddress_27 : decode b_So_isAddress 27 = .ok (.lcmp, 1) := by decide +kernel
theorem d_So_isAddress_28 : decode b_So_isAddress 28 = .ok (.ifCond .ne 68, 3) := by decide +kernel
theorem d_So_isAddress_31 : decode b_So_isAddress 31 = .ok (.aload_n 0, 1) := by decide +kernel
theorem d_So_isAddress_32 : decode b_So_isAddress 32 = .ok (.iload_n 3, 1) := by decide +kernel
theorem d_So_isAddress_33 : decode b_So_isAddress 33 = .ok (.aload_n 0, 1) := by decide +kernel
theorem d_So_isAddress_34 : decode b_So_isAddress 34 = .ok (.getfield 141, 3) := by decide +kernel
theorem d_So_isAddress_37 : decode b_So_isAddress 37 = .ok (.invokevirtual 197, 3) := by decide +kernel
theorem d_So_isAddress_40 : decode b_So_isAddress 40 = .ok (.iload 4, 2) := by decide +kernel
theorem d_So_isAddress_42 : decode b_So_isAddress 42 = .ok (.isub, 1) := by decide +kernel
theorem d_So_isAddress_43 : decode b_So_isAddress 43 = .ok (.iconst 4, 1) := by decide +kernel
theorem d_So_isAddress_44 : decode b_So_isAddress 44 = .ok (.if_icmp .ne 52, 3) := by decide +kernel
theorem d_So_isAddress_47 : decode b_So_isAddress 47 = .ok (.aload_n 0, 1) := by decide +kernel
theorem d_So_isAddress_48 : decode b_So_isAddress 48 = .ok (.iload 4, 2) := by decide +kernel
theorem d_So_isAddress_50 : decode b_So_isAddress 50 = .ok (.invokevirtual 219, 3) := by decide +kernel
theorem d_So_isAddress_53 : decode b_So_isAddress 53 = .ok (.bipush 10, 2) := by decide +kernel
theorem d_So_isAddress_55 : decode b_So_isAddress 55 = .ok (.if_icmp .ne 41, 3) := by decide +kernel
theorem d_So_isAddress_58 : decode b_So_isAddress 58 = .ok (.aload_n 0, 1) := by decide +kernel
theorem d_So_isAddress_59 : decode b_So_isAddress 59 = .ok (.iload 4, 2) := by decide +kernel
theorem d_So_isAddress_61 : decode b_So_isAddress 61 = .ok (.iconst 1, 1) := by decide +kernel
theorem d_So_isAddress_62 : decode b_So_isAddress 62 = .ok (.iadd, 1) := by decide +kernel
theorem d_So_isAddress_63 : decode b_So_isAddress 63 = .ok (.invokevirtual 219, 3) := by decide +kernel
theorem d_So_isAddress_66 : decode b_So_isAddress 66 = .ok (.ifCond .ne 30, 3) := by decide +kernel
theorem d_So_isAddress_69 : decode b_So_isAddress 69 = .ok (.aload_n 0, 1) := by decide +kernel
theorem d_So_isAddress_70 : decode b_So_isAddress 70 = .ok (.iload 4, 2) := by decide +kernel
theorem d_So_isAddress_72 : decode b_So_isAddress 72 = .ok (.iconst 2, 1) := by decide +kernel
theorem d_So_isAddress_73 : decode b_So_isAddress 73 = .ok (.iadd, 1) := by decide +kernel
theorem d_So_isAddress_74 : decode b_So_isAddress 74 = .ok (.invokevirtual 219, 3) := by decide +kernel
theorem d_So_isAddress_77 : decode b_So_isAddress 77 = .ok (.ifCond .ne 19, 3) := by decide +kernel
theorem d_So_isAddress_80 : decode b_So_isAddress 80 = .ok (.aload_n 0, 1) := by decide +kernel
theorem d_So_isAddress_81 : decode b_So_isAddress 81 = .ok (.iload 4, 2) := by decide +kernel
theorem d_So_isAddress_83 : decode b_So_isAddress 83 = .ok (.iconst 3, 1) := by decide +kernel
theorem d_So_isAddress_84 : decode b_So_isAddress 84 = .ok (.iadd, 1) := by decide +kernel
theorem d_So_isAddress_85 : decode b_So_isAddress 85 = .ok (.invokevirtual 219, 3) := by decide +kernel
theorem d_So_isAddress_88 : decode b_So_isAddress 88 = .ok (.iload_n 2, 1) := by decide +kernel
theorem d_So_isAddress_89 : decode b_So_isAddress 89 = .ok (.if_icmp .ne 7, 3) := by decide +kernel
theorem d_So_isAddress_92 : decode b_So_isAddress 92 = .ok (.iconst 1, 1) := by decide +kernel
theorem d_So_isAddress_93 : decode b_So_isAddress 93 = .ok (.goto 4, 3) := by decide +kernel
theorem d_So_isAddress_96 : decode b_So_isAddress 96 = .ok (.iconst 0, 1) := by decide +kernel
theorem d_So_isAddress_97 : decode b_So_isAddress 97 = .ok (.ireturn, 1) := by decide +kernel
abbrev b_So_putCred : ByteArray := prog_10_method_15_code
def y_So_putCred : MethodName := ⟨R_So, "putCred", "(LRealmHouse$Ticket;ILRealmHouse$Bytes;)V"⟩
abbrev k_So_putCred : Cond := .code y_So_putCred b_So_putCred 13 none
theorem ki_So_putCred : k_So_putCred ∈ lw_tg := in_t 1712 (by decide +kernel)
theorem ks_So_putCred : Cond.instanceMethod y_So_putCred ∈ lw_tg := in_t 1710 (by decide +kernel)
theorem kx_So_putCred : Cond.selects R_So y_So_putCred y_So_putCred ∈ lw_tg := in_t 1711 (by decide +kernel)
theorem kl_H_So_putCred : Cond.methodLink R_H 295 y_So_putCred ∈ lw_tg := in_t 1709 (by decide +kernel)
theorem hd_So_putCred : y_So_putCred.cls = R_So ∧ y_So_putCred.cls ≠ "java/lang/invoke/MethodHandle" ∧ y_So_putCred.cls ≠ "java/lang/invoke/VarHandle" ∧ (parseMethodDescriptor y_So_putCred.desc).map (fun d => d.parameters.length) = some 3 := by decide +kernel
theorem d_So_putCred_0 : decode b_So_putCred 0 = .ok (.aload_n 0, 1) := by decide +kernel
theorem d_So_putCred_1 : decode b_So_putCred 1 = .ok (.getfield 35, 3) := by decide +kernel
theorem d_So_putCred_4 : decode b_So_putCred 4 = .ok (.getfield 91, 3) := by decide +kernel
theorem d_So_putCred_7 : decode b_So_putCred 7 = .ok (.astore 4, 2) := by decide +kernel
theorem d_So_putCred_9 : decode b_So_putCred 9 = .ok (.aload 4, 2) := by decide +kernel
theorem d_So_putCred_11 : decode b_So_putCred 11 = .ok (.invokevirtual 94, 3) := by decide +kernel
theorem d_So_putCred_14 : decode b_So_putCred 14 = .ok (.aload 4, 2) := by decide +kernel
theorem d_So_putCred_16 : decode b_So_putCred 16 = .ok (.bipush 125, 2) := by decide +kernel
theorem d_So_putCred_18 : decode b_So_putCred 18 = .ok (.invokevirtual 97, 3) := by decide +kernel
theorem d_So_putCred_21 : decode b_So_putCred 21 = .ok (.istore 5, 2) := by decide +kernel
theorem d_So_putCred_23 : decode b_So_putCred 23 = .ok (.aload 4, 2) := by decide +kernel
theorem d_So_putCred_25 : decode b_So_putCred 25 = .ok (.bipush 48, 2) := by decide +kernel
theorem d_So_putCred_27 : decode b_So_putCred 27 = .ok (.invokevirtual 97, 3) := by decide +kernel
theorem d_So_putCred_30 : decode b_So_putCred 30 = .ok (.istore 6, 2) := by decide +kernel
theorem d_So_putCred_32 : decode b_So_putCred 32 = .ok (.aload 4, 2) := by decide +kernel
theorem d_So_putCred_34 : decode b_So_putCred 34 = .ok (.iconst 0, 1) := by decide +kernel
theorem d_So_putCred_35 : decode b_So_putCred 35 = .ok (.invokevirtual 116, 3) := by decide +kernel
theorem d_So_putCred_38 : decode b_So_putCred 38 = .ok (.istore 7, 2) := by decide +kernel
theorem d_So_putCred_40 : decode b_So_putCred 40 = .ok (.aload 4, 2) := by decide +kernel
theorem d_So_putCred_42 : decode b_So_putCred 42 = .ok (.bipush 48, 2) := by decide +kernel
theorem d_So_putCred_44 : decode b_So_putCred 44 = .ok (.invokevirtual 97, 3) := by decide +kernel
theorem d_So_putCred_47 : decode b_So_putCred 47 = .ok (.istore 8, 2) := by decide +kernel
theorem d_So_putCred_49 : decode b_So_putCred 49 = .ok (.aload_n 1, 1) := by decide +kernel
theorem d_So_putCred_50 : decode b_So_putCred 50 = .ok (.aload 4, 2) := by decide +kernel
theorem d_So_putCred_52 : decode b_So_putCred 52 = .ok (.invokevirtual 222, 3) := by decide +kernel
theorem d_So_putCred_55 : decode b_So_putCred 55 = .ok (.aload 4, 2) := by decide +kernel
theorem d_So_putCred_57 : decode b_So_putCred 57 = .ok (.iload 8, 2) := by decide +kernel
theorem d_So_putCred_59 : decode b_So_putCred 59 = .ok (.invokevirtual 108, 3) := by decide +kernel
theorem d_So_putCred_62 : decode b_So_putCred 62 = .ok (.aload 4, 2) := by decide +kernel
theorem d_So_putCred_64 : decode b_So_putCred 64 = .ok (.iload 7, 2) := by decide +kernel
theorem d_So_putCred_66 : decode b_So_putCred 66 = .ok (.invokevirtual 108, 3) := by decide +kernel
theorem d_So_putCred_69 : decode b_So_putCred 69 = .ok (.aload 4, 2) := by decide +kernel
theorem d_So_putCred_71 : decode b_So_putCred 71 = .ok (.iconst 2, 1) := by decide +kernel
theorem d_So_putCred_72 : decode b_So_putCred 72 = .ok (.iload_n 2, 1) := by decide +kernel
theorem d_So_putCred_73 : decode b_So_putCred 73 = .ok (.invokevirtual 100, 3) := by decide +kernel
theorem d_So_putCred_76 : decode b_So_putCred 76 = .ok (.aload 4, 2) := by decide +kernel
theorem d_So_putCred_78 : decode b_So_putCred 78 = .ok (.iconst 3, 1) := by decide +kernel
theorem d_So_putCred_79 : decode b_So_putCred 79 = .ok (.lconst 0, 1) := by decide +kernel
theorem d_So_putCred_80 : decode b_So_putCred 80 = .ok (.invokevirtual 104, 3) := by decide +kernel
theorem d_So_putCred_83 : decode b_So_putCred 83 = .ok (.aload 4, 2) := by decide +kernel
theorem d_So_putCred_85 : decode b_So_putCred 85 = .ok (.iload 6, 2) := by decide +kernel
theorem d_So_putCred_87 : decode b_So_putCred 87 = .ok (.invokevirtual 108, 3) := by decide +kernel
theorem d_So_putCred_90 : decode b_So_putCred 90 = .ok (.aload 4, 2) := by decide +kernel
theorem d_So_putCred_92 : decode b_So_putCred 92 = .ok (.iload 5, 2) := by decide +kernel
theorem d_So_putCred_94 : decode b_So_putCred 94 = .ok (.invokevirtual 108, 3) := by decide +kernel
theorem d_So_putCred_97 : decode b_So_putCred 97 = .ok (.aload_n 3, 1) := by decide +kernel
theorem d_So_putCred_98 : decode b_So_putCred 98 = .ok (.invokevirtual 94, 3) := by decide +kernel
theorem d_So_putCred_101 : decode b_So_putCred 101 = .ok (.aload_n 3, 1) := by decide +kernel
theorem d_So_putCred_102 : decode b_So_putCred 102 = .ok (.bipush 118, 2) := by decide +kernel
theorem d_So_putCred_104 : decode b_So_putCred 104 = .ok (.invokevirtual 97, 3) := by decide +kernel
theorem d_So_putCred_107 : decode b_So_putCred 107 = .ok (.istore 9, 2) := by decide +kernel
theorem d_So_putCred_109 : decode b_So_putCred 109 = .ok (.aload_n 3, 1) := by decide +kernel
theorem d_So_putCred_110 : decode b_So_putCred 110 = .ok (.bipush 48, 2) := by decide +kernel
theorem d_So_putCred_112 : decode b_So_putCred 112 = .ok (.invokevirtual 97, 3) := by decide +kernel
theorem d_So_putCred_115 : decode b_So_putCred 115 = .ok (.istore 10, 2) := by decide +kernel
theorem d_So_putCred_117 : decode b_So_putCred 117 = .ok (.aload_n 3, 1) := by decide +kernel
theorem d_So_putCred_118 : decode b_So_putCred 118 = .ok (.iconst 0, 1) := by decide +kernel
theorem d_So_putCred_119 : decode b_So_putCred 119 = .ok (.ldc2_w 112, 3) := by decide +kernel
theorem d_So_putCred_122 : decode b_So_putCred 122 = .ok (.invokevirtual 104, 3) := by decide +kernel
theorem d_So_putCred_125 : decode b_So_putCred 125 = .ok (.aload_n 3, 1) := by decide +kernel
theorem d_So_putCred_126 : decode b_So_putCred 126 = .ok (.iconst 1, 1) := by decide +kernel
theorem d_So_putCred_127 : decode b_So_putCred 127 = .ok (.ldc2_w 227, 3) := by decide +kernel
theorem d_So_putCred_130 : decode b_So_putCred 130 = .ok (.invokevirtual 104, 3) := by decide +kernel
theorem d_So_putCred_133 : decode b_So_putCred 133 = .ok (.aload_n 3, 1) := by decide +kernel
theorem d_So_putCred_134 : decode b_So_putCred 134 = .ok (.iconst 2, 1) := by decide +kernel
theorem d_So_putCred_135 : decode b_So_putCred 135 = .ok (.invokevirtual 116, 3) := by decide +kernel
theorem d_So_putCred_138 : decode b_So_putCred 138 = .ok (.istore 11, 2) := by decide +kernel
theorem d_So_putCred_140 : decode b_So_putCred 140 = .ok (.aload_n 3, 1) := by decide +kernel
theorem d_So_putCred_141 : decode b_So_putCred 141 = .ok (.bipush 48, 2) := by decide +kernel
theorem d_So_putCred_143 : decode b_So_putCred 143 = .ok (.aload_n 1, 1) := by decide +kernel
theorem d_So_putCred_144 : decode b_So_putCred 144 = .ok (.getfield 229, 3) := by decide +kernel
theorem d_So_putCred_147 : decode b_So_putCred 147 = .ok (.getfield 138, 3) := by decide +kernel
theorem d_So_putCred_150 : decode b_So_putCred 150 = .ok (.iconst 0, 1) := by decide +kernel
theorem d_So_putCred_151 : decode b_So_putCred 151 = .ok (.aload_n 1, 1) := by decide +kernel
theorem d_So_putCred_152 : decode b_So_putCred 152 = .ok (.getfield 229, 3) := by decide +kernel
theorem d_So_putCred_155 : decode b_So_putCred 155 = .ok (.getfield 141, 3) := by decide +kernel
theorem d_So_putCred_158 : decode b_So_putCred 158 = .ok (.invokevirtual 232, 3) := by decide +kernel
theorem d_So_putCred_161 : decode b_So_putCred 161 = .ok (.aload_n 3, 1) := by decide +kernel
theorem d_So_putCred_162 : decode b_So_putCred 162 = .ok (.iload 11, 2) := by decide +kernel
theorem d_So_putCred_164 : decode b_So_putCred 164 = .ok (.invokevirtual 108, 3) := by decide +kernel
theorem d_So_putCred_167 : decode b_So_putCred 167 = .ok (.aload_n 3, 1) := by decide +kernel
theorem d_So_putCred_168 : decode b_So_putCred 168 = .ok (.iconst 3, 1) := by decide +kernel
theorem d_So_putCred_169 : decode b_So_putCred 169 = .ok (.invokevirtual 116, 3) := by decide +kernel
theorem d_So_putCred_172 : decode b_So_putCred 172 = .ok (.istore 12, 2) := by decide +kernel
theorem d_So_putCred_174 : decode b_So_putCred 174 = .ok (.aload_n 0, 1) := by decide +kernel
theorem d_So_putCred_175 : decode b_So_putCred 175 = .ok (.getfield 35, 3) := by decide +kernel
theorem d_So_putCred_178 : decode b_So_putCred 178 = .ok (.aload_n 3, 1) := by decide +kernel
theorem d_So_putCred_179 : decode b_So_putCred 179 = .ok (.aload_n 0, 1) := by decide +kernel
theorem d_So_putCred_180 : decode b_So_putCred 180 = .ok (.getfield 19, 3) := by decide +kernel
theorem d_So_putCred_183 : decode b_So_putCred 183 = .ok (.bipush 14, 2) := by decide +kernel
theorem d_So_putCred_185 : decode b_So_putCred 185 = .ok (.iconst 0, 1) := by decide +kernel
theorem d_So_putCred_186 : decode b_So_putCred 186 = .ok (.invokevirtual 119, 3) := by decide +kernel
theorem d_So_putCred_189 : decode b_So_putCred 189 = .ok (.aload_n 3, 1) := by decide +kernel
theorem d_So_putCred_190 : decode b_So_putCred 190 = .ok (.iload 12, 2) := by decide +kernel
theorem d_So_putCred_192 : decode b_So_putCred 192 = .ok (.invokevirtual 108, 3) := by decide +kernel
theorem d_So_putCred_195 : decode b_So_putCred 195 = .ok (.aload_n 3, 1) := by decide +kernel
theorem d_So_putCred_196 : decode b_So_putCred 196 = .ok (.iload 10, 2) := by decide +kernel
theorem d_So_putCred_198 : decode b_So_putCred 198 = .ok (.invokevirtual 108, 3) := by decide +kernel
theorem d_So_putCred_201 : decode b_So_putCred 201 = .ok (.aload_n 3, 1) := by decide +kernel
theorem d_So_putCred_202 : decode b_So_putCred 202 = .ok (.iload 9, 2) := by decide +kernel
theorem d_So_putCred_204 : decode b_So_putCred 204 = .ok (.invokevirtual 108, 3) := by decide +kernel
theorem d_So_putCred_207 : decode b_So_putCred 207 = .ok (.return_, 1) := by decide +kernel
abbrev b_So_judgeCred : ByteArray := prog_10_method_16_code
def y_So_judgeCred : MethodName := ⟨R_So, "judgeCred", "(LRealmHouse$Bytes;)I"⟩
abbrev k_So_judgeCred : Cond := .code y_So_judgeCred b_So_judgeCred 7 (some .int)
theorem ki_So_judgeCred : k_So_judgeCred ∈ lw_tg := in_t 1734 (by decide +kernel)
theorem ks_So_judgeCred : Cond.instanceMethod y_So_judgeCred ∈ lw_tg := in_t 1732 (by decide +kernel)
theorem kx_So_judgeCred : Cond.selects R_So y_So_judgeCred y_So_judgeCred ∈ lw_tg := in_t 1733 (by decide +kernel)
theorem kl_H_So_judgeCred : Cond.methodLink R_H 298 y_So_judgeCred ∈ lw_tg := in_t 1731 (by decide +kernel)
theorem hd_So_judgeCred : y_So_judgeCred.cls = R_So ∧ y_So_judgeCred.cls ≠ "java/lang/invoke/MethodHandle" ∧ y_So_judgeCred.cls ≠ "java/lang/invoke/VarHandle" ∧ (parseMethodDescriptor y_So_judgeCred.desc).map (fun d => d.parameters.length) = some 1 := by decide +kernel
theorem d_So_judgeCred_0 : decode b_So_judgeCred 0 = .ok (.aload_n 1, 1) := by decide +kernel
theorem d_So_judgeCred_1 : decode b_So_judgeCred 1 = .ok (.sipush 374, 3) := by decide +kernel
theorem d_So_judgeCred_4 : decode b_So_judgeCred 4 = .ok (.iconst 0, 1) := by decide +kernel
theorem d_So_judgeCred_5 : decode b_So_judgeCred 5 = .ok (.aload_n 1, 1) := by decide +kernel
theorem d_So_judgeCred_6 : decode b_So_judgeCred 6 = .ok (.getfield 141, 3) := by decide +kernel
theorem d_So_judgeCred_9 : decode b_So_judgeCred 9 = .ok (.invokevirtual 174, 3) := by decide +kernel
theorem d_So_judgeCred_12 : decode b_So_judgeCred 12 = .ok (.istore_n 2, 1) := by decide +kernel
theorem d_So_judgeCred_13 : decode b_So_judgeCred 13 = .ok (.aload_n 1, 1) := by decide +kernel
theorem d_So_judgeCred_14 : decode b_So_judgeCred 14 = .ok (.iconst 0, 1) := by decide +kernel
theorem d_So_judgeCred_15 : decode b_So_judgeCred 15 = .ok (.iconst 2, 1) := by decide +kernel
theorem d_So_judgeCred_16 : decode b_So_judgeCred 16 = .ok (.invokevirtual 45, 3) := by decide +kernel
theorem d_So_judgeCred_19 : decode b_So_judgeCred 19 = .ok (.istore_n 3, 1) := by decide +kernel
theorem d_So_judgeCred_20 : decode b_So_judgeCred 20 = .ok (.iload_n 2, 1) := by decide +kernel
theorem d_So_judgeCred_21 : decode b_So_judgeCred 21 = .ok (.ifCond .eq 21, 3) := by decide +kernel
theorem d_So_judgeCred_24 : decode b_So_judgeCred 24 = .ok (.aload_n 1, 1) := by decide +kernel
theorem d_So_judgeCred_25 : decode b_So_judgeCred 25 = .ok (.iload_n 3, 1) := by decide +kernel
theorem d_So_judgeCred_26 : decode b_So_judgeCred 26 = .ok (.iconst 0, 1) := by decide +kernel
theorem d_So_judgeCred_27 : decode b_So_judgeCred 27 = .ok (.invokevirtual 235, 3) := by decide +kernel
theorem d_So_judgeCred_30 : decode b_So_judgeCred 30 = .ok (.ifCond .lt 12, 3) := by decide +kernel
theorem d_So_judgeCred_33 : decode b_So_judgeCred 33 = .ok (.aload_n 1, 1) := by decide +kernel
theorem d_So_judgeCred_34 : decode b_So_judgeCred 34 = .ok (.iload_n 3, 1) := by decide +kernel
theorem d_So_judgeCred_35 : decode b_So_judgeCred 35 = .ok (.iconst 1, 1) := by decide +kernel
theorem d_So_judgeCred_36 : decode b_So_judgeCred 36 = .ok (.invokevirtual 235, 3) := by decide +kernel
theorem d_So_judgeCred_39 : decode b_So_judgeCred 39 = .ok (.ifCond .lt 6, 3) := by decide +kernel
theorem d_So_judgeCred_42 : decode b_So_judgeCred 42 = .ok (.bipush (-60), 2) := by decide +kernel
theorem d_So_judgeCred_44 : decode b_So_judgeCred 44 = .ok (.ireturn, 1) := by decide +kernel
theorem d_So_judgeCred_45 : decode b_So_judgeCred 45 = .ok (.aload_n 1, 1) := by decide +kernel
theorem d_So_judgeCred_46 : decode b_So_judgeCred 46 = .ok (.sipush 374, 3) := by decide +kernel
theorem d_So_judgeCred_49 : decode b_So_judgeCred 49 = .ok (.bipush 22, 2) := by decide +kernel
theorem d_So_judgeCred_51 : decode b_So_judgeCred 51 = .ok (.invokestatic 178, 3) := by decide +kernel
theorem d_So_judgeCred_54 : decode b_So_judgeCred 54 = .ok (.istore 4, 2) := by decide +kernel
theorem d_So_judgeCred_56 : decode b_So_judgeCred 56 = .ok (.iload 4, 2) := by decide +kernel
theorem d_So_judgeCred_58 : decode b_So_judgeCred 58 = .ok (.ifCond .ge 6, 3) := by decide +kernel
theorem d_So_judgeCred_61 : decode b_So_judgeCred 61 = .ok (.iload 4, 2) := by decide +kernel
theorem d_So_judgeCred_63 : decode b_So_judgeCred 63 = .ok (.ireturn, 1) := by decide +kernel
theorem d_So_judgeCred_64 : decode b_So_judgeCred 64 = .ok (.aload_n 0, 1) := by decide +kernel
theorem d_So_judgeCred_65 : decode b_So_judgeCred 65 = .ok (.getfield 35, 3) := by decide +kernel
theorem d_So_judgeCred_68 : decode b_So_judgeCred 68 = .ok (.getfield 91, 3) := by decide +kernel
theorem d_So_judgeCred_71 : decode b_So_judgeCred 71 = .ok (.astore 5, 2) := by decide +kernel
theorem d_So_judgeCred_73 : decode b_So_judgeCred 73 = .ok (.aload_n 0, 1) := by decide +kernel
theorem d_So_judgeCred_74 : decode b_So_judgeCred 74 = .ok (.getfield 35, 3) := by decide +kernel
theorem d_So_judgeCred_77 : decode b_So_judgeCred 77 = .ok (.aload_n 1, 1) := by decide +kernel
theorem d_So_judgeCred_78 : decode b_So_judgeCred 78 = .ok (.aload_n 1, 1) := by decide +kernel
theorem d_So_judgeCred_79 : decode b_So_judgeCred 79 = .ok (.iconst 0, 1) := by decide +kernel
theorem d_So_judgeCred_80 : decode b_So_judgeCred 80 = .ok (.iconst 3, 1) := by decide +kernel
theorem d_So_judgeCred_81 : decode b_So_judgeCred 81 = .ok (.invokevirtual 45, 3) := by decide +kernel
theorem d_So_judgeCred_84 : decode b_So_judgeCred 84 = .ok (.aload_n 0, 1) := by decide +kernel
theorem d_So_judgeCred_85 : decode b_So_judgeCred 85 = .ok (.getfield 19, 3) := by decide +kernel
theorem d_So_judgeCred_88 : decode b_So_judgeCred 88 = .ok (.bipush 14, 2) := by decide +kernel
theorem d_So_judgeCred_90 : decode b_So_judgeCred 90 = .ok (.aload 5, 2) := by decide +kernel
theorem d_So_judgeCred_92 : decode b_So_judgeCred 92 = .ok (.invokevirtual 182, 3) := by decide +kernel
theorem d_So_judgeCred_95 : decode b_So_judgeCred 95 = .ok (.ifCond .ne 6, 3) := by decide +kernel
theorem d_So_judgeCred_98 : decode b_So_judgeCred 98 = .ok (.bipush (-31), 2) := by decide +kernel
theorem d_So_judgeCred_100 : decode b_So_judgeCred 100 = .ok (.ireturn, 1) := by decide +kernel
theorem d_So_judgeCred_101 : decode b_So_judgeCred 101 = .ok (.aload 5, 2) := by decide +kernel
theorem d_So_judgeCred_103 : decode b_So_judgeCred 103 = .ok (.sipush 381, 3) := by decide +kernel
theorem d_So_judgeCred_106 : decode b_So_judgeCred 106 = .ok (.iconst 0, 1) := by decide +kernel
theorem d_So_judgeCred_107 : decode b_So_judgeCred 107 = .ok (.aload 5, 2) := by decide +kernel
theorem d_So_judgeCred_109 : decode b_So_judgeCred 109 = .ok (.getfield 141, 3) := by decide +kernel
theorem d_So_judgeCred_112 : decode b_So_judgeCred 112 = .ok (.invokevirtual 174, 3) := by decide +kernel
theorem d_So_judgeCred_115 : decode b_So_judgeCred 115 = .ok (.ifCond .eq 18, 3) := by decide +kernel
theorem d_So_judgeCred_118 : decode b_So_judgeCred 118 = .ok (.aload 5, 2) := by decide +kernel
theorem d_So_judgeCred_120 : decode b_So_judgeCred 120 = .ok (.aload 5, 2) := by decide +kernel
theorem d_So_judgeCred_122 : decode b_So_judgeCred 122 = .ok (.iconst 0, 1) := by decide +kernel
theorem d_So_judgeCred_123 : decode b_So_judgeCred 123 = .ok (.iconst 0, 1) := by decide +kernel
theorem d_So_judgeCred_124 : decode b_So_judgeCred 124 = .ok (.invokevirtual 45, 3) := by decide +kernel
theorem d_So_judgeCred_127 : decode b_So_judgeCred 127 = .ok (.invokestatic 238, 3) := by decide +kernel
theorem d_So_judgeCred_130 : decode b_So_judgeCred 130 = .ok (.ifCond .ne 6, 3) := by decide +kernel
theorem d_So_judgeCred_133 : decode b_So_judgeCred 133 = .ok (.bipush (-60), 2) := by decide +kernel
theorem d_So_judgeCred_135 : decode b_So_judgeCred 135 = .ok (.ireturn, 1) := by decide +kernel
theorem d_So_judgeCred_136 : decode b_So_judgeCred 136 = .ok (.aload 5, 2) := by decide +kernel
theorem d_So_judgeCred_138 : decode b_So_judgeCred 138 = .ok (.aload 5, 2) := by decide +kernel
theorem d_So_judgeCred_140 : decode b_So_judgeCred 140 = .ok (.iconst 0, 1) := by decide +kernel
theorem d_So_judgeCred_141 : decode b_So_judgeCred 141 = .ok (.iconst 2, 1) := by decide +kernel
theorem d_So_judgeCred_142 : decode b_So_judgeCred 142 = .ok (.invokevirtual 45, 3) := by decide +kernel
theorem d_So_judgeCred_145 : decode b_So_judgeCred 145 = .ok (.invokevirtual 62, 3) := by decide +kernel
theorem d_So_judgeCred_148 : decode b_So_judgeCred 148 = .ok (.istore 6, 2) := by decide +kernel
theorem d_So_judgeCred_150 : decode b_So_judgeCred 150 = .ok (.iload 6, 2) := by decide +kernel
theorem d_So_judgeCred_152 : decode b_So_judgeCred 152 = .ok (.ifCond .lt 22, 3) := by decide +kernel
theorem d_So_judgeCred_155 : decode b_So_judgeCred 155 = .ok (.iload 6, 2) := by decide +kernel
theorem d_So_judgeCred_157 : decode b_So_judgeCred 157 = .ok (.aload_n 0, 1) := by decide +kernel
theorem d_So_judgeCred_158 : decode b_So_judgeCred 158 = .ok (.getfield 35, 3) := by decide +kernel
theorem d_So_judgeCred_161 : decode b_So_judgeCred 161 = .ok (.getfield 241, 3) := by decide +kernel
theorem d_So_judgeCred_164 : decode b_So_judgeCred 164 = .ok (.isub, 1) := by decide +kernel
theorem d_So_judgeCred_165 : decode b_So_judgeCred 165 = .ok (.invokestatic 204, 3) := by decide +kernel
theorem d_So_judgeCred_168 : decode b_So_judgeCred 168 = .ok (.sipush 300, 3) := by decide +kernel
theorem d_So_judgeCred_171 : decode b_So_judgeCred 171 = .ok (.if_icmp .le 8, 3) := by decide +kernel
theorem d_So_judgeCred_174 : decode b_So_judgeCred 174 = .ok (.bipush (-37), 2) := by decide +kernel
theorem d_So_judgeCred_176 : decode b_So_judgeCred 176 = .ok (.goto 4, 3) := by decide +kernel
theorem d_So_judgeCred_179 : decode b_So_judgeCred 179 = .ok (.iconst 0, 1) := by decide +kernel
theorem d_So_judgeCred_180 : decode b_So_judgeCred 180 = .ok (.ireturn, 1) := by decide +kernel
abbrev b_So_isWholeInfo : ByteArray := prog_10_method_17_code
def y_So_isWholeInfo : MethodName := ⟨R_So, "isWholeInfo", "(LRealmHouse$Bytes;I)Z"⟩
abbrev k_So_isWholeInfo : Cond := .code y_So_isWholeInfo b_So_isWholeInfo 3 (some .boolean)
theorem ki_So_isWholeInfo : k_So_isWholeInfo ∈ lw_tg := in_t 1738 (by decide +kernel)
theorem ks_So_isWholeInfo : Cond.static y_So_isWholeInfo ∈ lw_tg := in_t 1737 (by decide +kernel)
theorem kl_So_So_isWholeInfo : Cond.methodLink R_So 238 y_So_isWholeInfo ∈ lw_tg := in_t 1736 (by decide +kernel)
theorem hd_So_isWholeInfo : y_So_isWholeInfo.cls = R_So ∧ y_So_isWholeInfo.cls ≠ "java/lang/invoke/MethodHandle" ∧ y_So_isWholeInfo.cls ≠ "java/lang/invoke/VarHandle" ∧ (parseMethodDescriptor y_So_isWholeInfo.desc).map (fun d => d.parameters.length) = some 2 := by decide +kernel
theorem d_So_isWholeInfo_0 : decode b_So_isWholeInfo 0 = .ok (.aload_n 0, 1) := by decide +kernel
theorem d_So_isWholeInfo_1 : decode b_So_isWholeInfo 1 = .ok (.iload_n 1, 1) := by decide +kernel
theorem d_So_isWholeInfo_2 : decode b_So_isWholeInfo 2 = .ok (.iconst 0, 1) := by decide +kernel
theorem d_So_isWholeInfo_3 : decode b_So_isWholeInfo 3 = .ok (.invokevirtual 235, 3) := by decide +kernel
theorem d_So_isWholeInfo_6 : decode b_So_isWholeInfo 6 = .ok (.istore_n 2, 1) := by decide +kernel
theorem d_So_isWholeInfo_7 : decode b_So_isWholeInfo 7 = .ok (.iload_n 2, 1) := by decide +kernel
theorem d_So_isWholeInfo_8 : decode b_So_isWholeInfo 8 = .ok (.ifCond .lt 53, 3) := by decide +kernel
theorem d_So_isWholeInfo_11 : decode b_So_isWholeInfo 11 = .ok (.aload_n 0, 1) := by decide +kernel
theorem d_So_isWholeInfo_12 : decode b_So_isWholeInfo 12 = .ok (.iload_n 1, 1) := by decide +kernel
theorem d_So_isWholeInfo_13 : decode b_So_isWholeInfo 13 = .ok (.iconst 1, 1) := by decide +kernel
theorem d_So_isWholeInfo_14 : decode b_So_isWholeInfo 14 = .ok (.invokevirtual 235, 3) := by decide +kernel
theorem d_So_isWholeInfo_17 : decode b_So_isWholeInfo 17 = .ok (.ifCond .ge 44, 3) := by decide +kernel
theorem d_So_isWholeInfo_20 : decode b_So_isWholeInfo 20 = .ok (.aload_n 0, 1) := by decide +kernel
theorem d_So_isWholeInfo_21 : decode b_So_isWholeInfo 21 = .ok (.iload_n 2, 1) := by decide +kernel
theorem d_So_isWholeInfo_22 : decode b_So_isWholeInfo 22 = .ok (.iconst 2, 1) := by decide +kernel
theorem d_So_isWholeInfo_23 : decode b_So_isWholeInfo 23 = .ok (.invokevirtual 45, 3) := by decide +kernel
theorem d_So_isWholeInfo_26 : decode b_So_isWholeInfo 26 = .ok (.ifCond .lt 35, 3) := by decide +kernel
theorem d_So_isWholeInfo_29 : decode b_So_isWholeInfo 29 = .ok (.aload_n 0, 1) := by decide +kernel
theorem d_So_isWholeInfo_30 : decode b_So_isWholeInfo 30 = .ok (.iload_n 2, 1) := by decide +kernel
theorem d_So_isWholeInfo_31 : decode b_So_isWholeInfo 31 = .ok (.iconst 3, 1) := by decide +kernel
theorem d_So_isWholeInfo_32 : decode b_So_isWholeInfo 32 = .ok (.invokevirtual 45, 3) := by decide +kernel
theorem d_So_isWholeInfo_35 : decode b_So_isWholeInfo 35 = .ok (.ifCond .lt 26, 3) := by decide +kernel
theorem d_So_isWholeInfo_38 : decode b_So_isWholeInfo 38 = .ok (.aload_n 0, 1) := by decide +kernel
theorem d_So_isWholeInfo_39 : decode b_So_isWholeInfo 39 = .ok (.iload_n 2, 1) := by decide +kernel
theorem d_So_isWholeInfo_40 : decode b_So_isWholeInfo 40 = .ok (.iconst 4, 1) := by decide +kernel
theorem d_So_isWholeInfo_41 : decode b_So_isWholeInfo 41 = .ok (.invokevirtual 45, 3) := by decide +kernel
theorem d_So_isWholeInfo_44 : decode b_So_isWholeInfo 44 = .ok (.ifCond .lt 17, 3) := by decide +kernel
theorem d_So_isWholeInfo_47 : decode b_So_isWholeInfo 47 = .ok (.aload_n 0, 1) := by decide +kernel
theorem d_So_isWholeInfo_48 : decode b_So_isWholeInfo 48 = .ok (.iload_n 2, 1) := by decide +kernel
theorem d_So_isWholeInfo_49 : decode b_So_isWholeInfo 49 = .ok (.bipush 6, 2) := by decide +kernel
theorem d_So_isWholeInfo_51 : decode b_So_isWholeInfo 51 = .ok (.invokevirtual 45, 3) := by decide +kernel
theorem d_So_isWholeInfo_54 : decode b_So_isWholeInfo 54 = .ok (.ifCond .lt 7, 3) := by decide +kernel
theorem d_So_isWholeInfo_57 : decode b_So_isWholeInfo 57 = .ok (.iconst 1, 1) := by decide +kernel
theorem d_So_isWholeInfo_58 : decode b_So_isWholeInfo 58 = .ok (.goto 4, 3) := by decide +kernel
theorem d_So_isWholeInfo_61 : decode b_So_isWholeInfo 61 = .ok (.iconst 0, 1) := by decide +kernel
theorem d_So_isWholeInfo_62 : decode b_So_isWholeInfo 62 = .ok (.ireturn, 1) := by decide +kernel
