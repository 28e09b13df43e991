abbrev b_Ce_init : ByteArray := prog_5_method_1_code
def y_Ce_init : MethodName := ⟨R_Ce, "<init>", "(LRealmHouse$Vault;LRealmHouse$Gate;[LRealmHouse$Principal;LRealmHouse$Bytes;LRealmHouse$Bytes;)V"⟩
abbrev k_Ce_init : Cond := .code y_Ce_init b_Ce_init 6 none
theorem ki_Ce_init : k_Ce_init ∈ lw_tg := in_t 656 (by decide +kernel)
theorem ks_Ce_init : Cond.instanceMethod y_Ce_init ∈ lw_tg := in_t 655 (by decide +kernel)
theorem kl_H_Ce_init : Cond.methodLink R_H 74 y_Ce_init ∈ lw_tg := in_t 654 (by decide +kernel)
theorem hd_Ce_init : y_Ce_init.cls = R_Ce ∧ y_Ce_init.cls ≠ "java/lang/invoke/MethodHandle" ∧ y_Ce_init.cls ≠ "java/lang/invoke/VarHandle" ∧ (parseMethodDescriptor y_Ce_init.desc).map (fun d => d.parameters.length) = some 5 := by decide +kernel
theorem d_Ce_init_0 : decode b_Ce_init 0 = .ok (.aload_n 0, 1) := by decide +kernel
theorem d_Ce_init_1 : decode b_Ce_init 1 = .ok (.invokespecial 3, 3) := by decide +kernel
theorem d_Ce_init_4 : decode b_Ce_init 4 = .ok (.aload_n 0, 1) := by decide +kernel
theorem d_Ce_init_5 : decode b_Ce_init 5 = .ok (.new 9, 3) := by decide +kernel
theorem d_Ce_init_8 : decode b_Ce_init 8 = .ok (.dup, 1) := by decide +kernel
theorem d_Ce_init_9 : decode b_Ce_init 9 = .ok (.invokespecial 11, 3) := by decide +kernel
theorem d_Ce_init_12 : decode b_Ce_init 12 = .ok (.putfield 12, 3) := by decide +kernel
theorem d_Ce_init_15 : decode b_Ce_init 15 = .ok (.aload_n 0, 1) := by decide +kernel
theorem d_Ce_init_16 : decode b_Ce_init 16 = .ok (.aload_n 1, 1) := by decide +kernel
theorem d_Ce_init_17 : decode b_Ce_init 17 = .ok (.putfield 18, 3) := by decide +kernel
theorem d_Ce_init_20 : decode b_Ce_init 20 = .ok (.aload_n 0, 1) := by decide +kernel
theorem d_Ce_init_21 : decode b_Ce_init 21 = .ok (.aload_n 2, 1) := by decide +kernel
theorem d_Ce_init_22 : decode b_Ce_init 22 = .ok (.putfield 22, 3) := by decide +kernel
theorem d_Ce_init_25 : decode b_Ce_init 25 = .ok (.aload_n 0, 1) := by decide +kernel
theorem d_Ce_init_26 : decode b_Ce_init 26 = .ok (.aload_n 3, 1) := by decide +kernel
theorem d_Ce_init_27 : decode b_Ce_init 27 = .ok (.putfield 26, 3) := by decide +kernel
theorem d_Ce_init_30 : decode b_Ce_init 30 = .ok (.aload_n 0, 1) := by decide +kernel
theorem d_Ce_init_31 : decode b_Ce_init 31 = .ok (.aload 4, 2) := by decide +kernel
theorem d_Ce_init_33 : decode b_Ce_init 33 = .ok (.putfield 30, 3) := by decide +kernel
theorem d_Ce_init_36 : decode b_Ce_init 36 = .ok (.aload_n 0, 1) := by decide +kernel
theorem d_Ce_init_37 : decode b_Ce_init 37 = .ok (.aload 5, 2) := by decide +kernel
theorem d_Ce_init_39 : decode b_Ce_init 39 = .ok (.putfield 34, 3) := by decide +kernel
theorem d_Ce_init_42 : decode b_Ce_init 42 = .ok (.aload_n 0, 1) := by decide +kernel
theorem d_Ce_init_43 : decode b_Ce_init 43 = .ok (.aload_n 3, 1) := by decide +kernel
theorem d_Ce_init_44 : decode b_Ce_init 44 = .ok (.iconst 0, 1) := by decide +kernel
theorem d_Ce_init_45 : decode b_Ce_init 45 = .ok (.aaload, 1) := by decide +kernel
theorem d_Ce_init_46 : decode b_Ce_init 46 = .ok (.putfield 37, 3) := by decide +kernel
theorem d_Ce_init_49 : decode b_Ce_init 49 = .ok (.aload_n 0, 1) := by decide +kernel
theorem d_Ce_init_50 : decode b_Ce_init 50 = .ok (.aload_n 3, 1) := by decide +kernel
theorem d_Ce_init_51 : decode b_Ce_init 51 = .ok (.iconst 0, 1) := by decide +kernel
theorem d_Ce_init_52 : decode b_Ce_init 52 = .ok (.aaload, 1) := by decide +kernel
theorem d_Ce_init_53 : decode b_Ce_init 53 = .ok (.putfield 41, 3) := by decide +kernel
theorem d_Ce_init_56 : decode b_Ce_init 56 = .ok (.return_, 1) := by decide +kernel
abbrev b_Ce_asks : ByteArray := prog_5_method_2_code
def y_Ce_asks : MethodName := ⟨R_Ce, "asks", "(I)Z"⟩
abbrev k_Ce_asks : Cond := .code y_Ce_asks b_Ce_asks 2 (some .boolean)
theorem ki_Ce_asks : k_Ce_asks ∈ lw_tg := in_t 1125 (by decide +kernel)
theorem ks_Ce_asks : Cond.instanceMethod y_Ce_asks ∈ lw_tg := in_t 1124 (by decide +kernel)
theorem kx_Ce_asks : Cond.selects R_Ce y_Ce_asks y_Ce_asks ∈ lw_tg := List.mem_filter.mpr ⟨List.mem_append_left _ (List.mem_of_getElem? (i := 29) (by decide +kernel)), rfl⟩
theorem kl_Ce_Ce_asks : Cond.methodLink R_Ce 103 y_Ce_asks ∈ lw_tg := in_t 1122 (by decide +kernel)
theorem hd_Ce_asks : y_Ce_asks.cls = R_Ce ∧ y_Ce_asks.cls ≠ "java/lang/invoke/MethodHandle" ∧ y_Ce_asks.cls ≠ "java/lang/invoke/VarHandle" ∧ (parseMethodDescriptor y_Ce_asks.desc).map (fun d => d.parameters.length) = some 1 := by decide +kernel
theorem d_Ce_asks_0 : decode b_Ce_asks 0 = .ok (.aload_n 0, 1) := by decide +kernel
theorem d_Ce_asks_1 : decode b_Ce_asks 1 = .ok (.getfield 44, 3) := by decide +kernel
theorem d_Ce_asks_4 : decode b_Ce_asks 4 = .ok (.iload_n 1, 1) := by decide +kernel
theorem d_Ce_asks_5 : decode b_Ce_asks 5 = .ok (.iand, 1) := by decide +kernel
theorem d_Ce_asks_6 : decode b_Ce_asks 6 = .ok (.ifCond .eq 7, 3) := by decide +kernel
theorem d_Ce_asks_9 : decode b_Ce_asks 9 = .ok (.iconst 1, 1) := by decide +kernel
theorem d_Ce_asks_10 : decode b_Ce_asks 10 = .ok (.goto 4, 3) := by decide +kernel
theorem d_Ce_asks_13 : decode b_Ce_asks 13 = .ok (.iconst 0, 1) := by decide +kernel
theorem d_Ce_asks_14 : decode b_Ce_asks 14 = .ok (.ireturn, 1) := by decide +kernel
abbrev b_Ce_shown : ByteArray := prog_5_method_3_code
def y_Ce_shown : MethodName := ⟨R_Ce, "shown", "(I)I"⟩
abbrev k_Ce_shown : Cond := .code y_Ce_shown b_Ce_shown 5 (some .int)
theorem ki_Ce_shown : k_Ce_shown ∈ lw_tg := in_t 950 (by decide +kernel)
theorem ks_Ce_shown : Cond.instanceMethod y_Ce_shown ∈ lw_tg := in_t 948 (by decide +kernel)
theorem kx_Ce_shown : Cond.selects R_Ce y_Ce_shown y_Ce_shown ∈ lw_tg := in_t 949 (by decide +kernel)
theorem kl_Ce_Ce_shown : Cond.methodLink R_Ce 91 y_Ce_shown ∈ lw_tg := in_t 947 (by decide +kernel)
theorem kl_H_Ce_shown : Cond.methodLink R_H 154 y_Ce_shown ∈ lw_tg := in_t 955 (by decide +kernel)
theorem hd_Ce_shown : y_Ce_shown.cls = R_Ce ∧ y_Ce_shown.cls ≠ "java/lang/invoke/MethodHandle" ∧ y_Ce_shown.cls ≠ "java/lang/invoke/VarHandle" ∧ (parseMethodDescriptor y_Ce_shown.desc).map (fun d => d.parameters.length) = some 1 := by decide +kernel
theorem d_Ce_shown_0 : decode b_Ce_shown 0 = .ok (.aload_n 0, 1) := by decide +kernel
theorem d_Ce_shown_1 : decode b_Ce_shown 1 = .ok (.getfield 30, 3) := by decide +kernel
theorem d_Ce_shown_4 : decode b_Ce_shown 4 = .ok (.iconst 0, 1) := by decide +kernel
theorem d_Ce_shown_5 : decode b_Ce_shown 5 = .ok (.iconst 3, 1) := by decide +kernel
theorem d_Ce_shown_6 : decode b_Ce_shown 6 = .ok (.invokevirtual 48, 3) := by decide +kernel
theorem d_Ce_shown_9 : decode b_Ce_shown 9 = .ok (.istore_n 2, 1) := by decide +kernel
theorem d_Ce_shown_10 : decode b_Ce_shown 10 = .ok (.iconst 0, 1) := by decide +kernel
theorem d_Ce_shown_11 : decode b_Ce_shown 11 = .ok (.istore_n 3, 1) := by decide +kernel
theorem d_Ce_shown_12 : decode b_Ce_shown 12 = .ok (.iload_n 3, 1) := by decide +kernel
theorem d_Ce_shown_13 : decode b_Ce_shown 13 = .ok (.bipush 16, 2) := by decide +kernel
theorem d_Ce_shown_15 : decode b_Ce_shown 15 = .ok (.if_icmp .ge 59, 3) := by decide +kernel
theorem d_Ce_shown_18 : decode b_Ce_shown 18 = .ok (.aload_n 0, 1) := by decide +kernel
theorem d_Ce_shown_19 : decode b_Ce_shown 19 = .ok (.getfield 30, 3) := by decide +kernel
theorem d_Ce_shown_22 : decode b_Ce_shown 22 = .ok (.iload_n 2, 1) := by decide +kernel
theorem d_Ce_shown_23 : decode b_Ce_shown 23 = .ok (.iload_n 3, 1) := by decide +kernel
theorem d_Ce_shown_24 : decode b_Ce_shown 24 = .ok (.invokevirtual 54, 3) := by decide +kernel
theorem d_Ce_shown_27 : decode b_Ce_shown 27 = .ok (.istore 4, 2) := by decide +kernel
theorem d_Ce_shown_29 : decode b_Ce_shown 29 = .ok (.iload 4, 2) := by decide +kernel
theorem d_Ce_shown_31 : decode b_Ce_shown 31 = .ok (.ifCond .lt 37, 3) := by decide +kernel
theorem d_Ce_shown_34 : decode b_Ce_shown 34 = .ok (.aload_n 0, 1) := by decide +kernel
theorem d_Ce_shown_35 : decode b_Ce_shown 35 = .ok (.getfield 30, 3) := by decide +kernel
theorem d_Ce_shown_38 : decode b_Ce_shown 38 = .ok (.aload_n 0, 1) := by decide +kernel
theorem d_Ce_shown_39 : decode b_Ce_shown 39 = .ok (.getfield 30, 3) := by decide +kernel
theorem d_Ce_shown_42 : decode b_Ce_shown 42 = .ok (.iload 4, 2) := by decide +kernel
theorem d_Ce_shown_44 : decode b_Ce_shown 44 = .ok (.iconst 1, 1) := by decide +kernel
theorem d_Ce_shown_45 : decode b_Ce_shown 45 = .ok (.invokevirtual 48, 3) := by decide +kernel
theorem d_Ce_shown_48 : decode b_Ce_shown 48 = .ok (.invokevirtual 57, 3) := by decide +kernel
theorem d_Ce_shown_51 : decode b_Ce_shown 51 = .ok (.iload_n 1, 1) := by decide +kernel
theorem d_Ce_shown_52 : decode b_Ce_shown 52 = .ok (.i2l, 1) := by decide +kernel
theorem d_Ce_shown_53 : decode b_Ce_shown 53 = .ok (.lcmp, 1) := by decide +kernel
theorem d_Ce_shown_54 : decode b_Ce_shown 54 = .ok (.ifCond .ne 14, 3) := by decide +kernel
theorem d_Ce_shown_57 : decode b_Ce_shown 57 = .ok (.aload_n 0, 1) := by decide +kernel
theorem d_Ce_shown_58 : decode b_Ce_shown 58 = .ok (.getfield 30, 3) := by decide +kernel
theorem d_Ce_shown_61 : decode b_Ce_shown 61 = .ok (.iload 4, 2) := by decide +kernel
theorem d_Ce_shown_63 : decode b_Ce_shown 63 = .ok (.iconst 2, 1) := by decide +kernel
theorem d_Ce_shown_64 : decode b_Ce_shown 64 = .ok (.invokevirtual 48, 3) := by decide +kernel
theorem d_Ce_shown_67 : decode b_Ce_shown 67 = .ok (.ireturn, 1) := by decide +kernel
theorem d_Ce_shown_68 : decode b_Ce_shown 68 = .ok (.iinc 3 1, 3) := by decide +kernel
theorem d_Ce_shown_71 : decode b_Ce_shown 71 = .ok (.goto (-59), 3) := by decide +kernel
theorem d_Ce_shown_74 : decode b_Ce_shown 74 = .ok (.iconst (-1), 1) := by decide +kernel
theorem d_Ce_shown_75 : decode b_Ce_shown 75 = .ok (.ireturn, 1) := by decide +kernel
abbrev b_Ce_judge : ByteArray := prog_5_method_4_code
def y_Ce_judge : MethodName := ⟨R_Ce, "judge", "()I"⟩
abbrev k_Ce_judge : Cond := .code y_Ce_judge b_Ce_judge 2 (some .int)
theorem ki_Ce_judge : k_Ce_judge ∈ lw_tg := in_t 841 (by decide +kernel)
theorem ks_Ce_judge : Cond.instanceMethod y_Ce_judge ∈ lw_tg := in_t 839 (by decide +kernel)
theorem kx_Ce_judge : Cond.selects R_Ce y_Ce_judge y_Ce_judge ∈ lw_tg := in_t 840 (by decide +kernel)
theorem kl_H_Ce_judge : Cond.methodLink R_H 148 y_Ce_judge ∈ lw_tg := in_t 838 (by decide +kernel)
theorem hd_Ce_judge : y_Ce_judge.cls = R_Ce ∧ y_Ce_judge.cls ≠ "java/lang/invoke/MethodHandle" ∧ y_Ce_judge.cls ≠ "java/lang/invoke/VarHandle" ∧ (parseMethodDescriptor y_Ce_judge.desc).map (fun d => d.parameters.length) = some 0 := by decide +kernel
theorem d_Ce_judge_0 : decode b_Ce_judge 0 = .ok (.aload_n 0, 1) := by decide +kernel
theorem d_Ce_judge_1 : decode b_Ce_judge 1 = .ok (.getfield 30, 3) := by decide +kernel
theorem d_Ce_judge_4 : decode b_Ce_judge 4 = .ok (.iconst 0, 1) := by decide +kernel
theorem d_Ce_judge_5 : decode b_Ce_judge 5 = .ok (.invokevirtual 61, 3) := by decide +kernel
theorem d_Ce_judge_8 : decode b_Ce_judge 8 = .ok (.istore_n 1, 1) := by decide +kernel
theorem d_Ce_judge_9 : decode b_Ce_judge 9 = .ok (.aload_n 0, 1) := by decide +kernel
theorem d_Ce_judge_10 : decode b_Ce_judge 10 = .ok (.iload_n 1, 1) := by decide +kernel
theorem d_Ce_judge_11 : decode b_Ce_judge 11 = .ok (.bipush 106, 2) := by decide +kernel
theorem d_Ce_judge_13 : decode b_Ce_judge 13 = .ok (.if_icmp .ne 7, 3) := by decide +kernel
theorem d_Ce_judge_16 : decode b_Ce_judge 16 = .ok (.iconst 1, 1) := by decide +kernel
theorem d_Ce_judge_17 : decode b_Ce_judge 17 = .ok (.goto 4, 3) := by decide +kernel
theorem d_Ce_judge_20 : decode b_Ce_judge 20 = .ok (.iconst 0, 1) := by decide +kernel
theorem d_Ce_judge_21 : decode b_Ce_judge 21 = .ok (.putfield 65, 3) := by decide +kernel
theorem d_Ce_judge_24 : decode b_Ce_judge 24 = .ok (.aload_n 0, 1) := by decide +kernel
theorem d_Ce_judge_25 : decode b_Ce_judge 25 = .ok (.aload_n 0, 1) := by decide +kernel
theorem d_Ce_judge_26 : decode b_Ce_judge 26 = .ok (.getfield 65, 3) := by decide +kernel
theorem d_Ce_judge_29 : decode b_Ce_judge 29 = .ok (.ifCond .ne 9, 3) := by decide +kernel
theorem d_Ce_judge_32 : decode b_Ce_judge 32 = .ok (.iload_n 1, 1) := by decide +kernel
theorem d_Ce_judge_33 : decode b_Ce_judge 33 = .ok (.bipush 108, 2) := by decide +kernel
theorem d_Ce_judge_35 : decode b_Ce_judge 35 = .ok (.if_icmp .ne 30, 3) := by decide +kernel
theorem d_Ce_judge_38 : decode b_Ce_judge 38 = .ok (.aload_n 0, 1) := by decide +kernel
theorem d_Ce_judge_39 : decode b_Ce_judge 39 = .ok (.getfield 30, 3) := by decide +kernel
theorem d_Ce_judge_42 : decode b_Ce_judge 42 = .ok (.sipush 256, 3) := by decide +kernel
theorem d_Ce_judge_45 : decode b_Ce_judge 45 = .ok (.iload_n 1, 1) := by decide +kernel
theorem d_Ce_judge_46 : decode b_Ce_judge 46 = .ok (.iadd, 1) := by decide +kernel
theorem d_Ce_judge_47 : decode b_Ce_judge 47 = .ok (.iconst 0, 1) := by decide +kernel
theorem d_Ce_judge_48 : decode b_Ce_judge 48 = .ok (.aload_n 0, 1) := by decide +kernel
theorem d_Ce_judge_49 : decode b_Ce_judge 49 = .ok (.getfield 30, 3) := by decide +kernel
theorem d_Ce_judge_52 : decode b_Ce_judge 52 = .ok (.getfield 69, 3) := by decide +kernel
theorem d_Ce_judge_55 : decode b_Ce_judge 55 = .ok (.invokevirtual 72, 3) := by decide +kernel
theorem d_Ce_judge_58 : decode b_Ce_judge 58 = .ok (.ifCond .eq 7, 3) := by decide +kernel
theorem d_Ce_judge_61 : decode b_Ce_judge 61 = .ok (.iconst 1, 1) := by decide +kernel
theorem d_Ce_judge_62 : decode b_Ce_judge 62 = .ok (.goto 4, 3) := by decide +kernel
theorem d_Ce_judge_65 : decode b_Ce_judge 65 = .ok (.iconst 0, 1) := by decide +kernel
theorem d_Ce_judge_66 : decode b_Ce_judge 66 = .ok (.putfield 76, 3) := by decide +kernel
theorem d_Ce_judge_69 : decode b_Ce_judge 69 = .ok (.aload_n 0, 1) := by decide +kernel
theorem d_Ce_judge_70 : decode b_Ce_judge 70 = .ok (.getfield 76, 3) := by decide +kernel
theorem d_Ce_judge_73 : decode b_Ce_judge 73 = .ok (.ifCond .ne 6, 3) := by decide +kernel
theorem d_Ce_judge_76 : decode b_Ce_judge 76 = .ok (.bipush 60, 2) := by decide +kernel
theorem d_Ce_judge_78 : decode b_Ce_judge 78 = .ok (.ireturn, 1) := by decide +kernel
theorem d_Ce_judge_79 : decode b_Ce_judge 79 = .ok (.aload_n 0, 1) := by decide +kernel
theorem d_Ce_judge_80 : decode b_Ce_judge 80 = .ok (.getfield 30, 3) := by decide +kernel
theorem d_Ce_judge_83 : decode b_Ce_judge 83 = .ok (.aload_n 0, 1) := by decide +kernel
theorem d_Ce_judge_84 : decode b_Ce_judge 84 = .ok (.getfield 30, 3) := by decide +kernel
theorem d_Ce_judge_87 : decode b_Ce_judge 87 = .ok (.iconst 0, 1) := by decide +kernel
theorem d_Ce_judge_88 : decode b_Ce_judge 88 = .ok (.iconst 1, 1) := by decide +kernel
theorem d_Ce_judge_89 : decode b_Ce_judge 89 = .ok (.invokevirtual 48, 3) := by decide +kernel
theorem d_Ce_judge_92 : decode b_Ce_judge 92 = .ok (.invokevirtual 57, 3) := by decide +kernel
theorem d_Ce_judge_95 : decode b_Ce_judge 95 = .ok (.ldc2_w 79, 3) := by decide +kernel
theorem d_Ce_judge_98 : decode b_Ce_judge 98 = .ok (.lcmp, 1) := by decide +kernel
theorem d_Ce_judge_99 : decode b_Ce_judge 99 = .ok (.ifCond .eq 5, 3) := by decide +kernel
theorem d_Ce_judge_102 : decode b_Ce_judge 102 = .ok (.iconst 3, 1) := by decide +kernel
theorem d_Ce_judge_103 : decode b_Ce_judge 103 = .ok (.ireturn, 1) := by decide +kernel
theorem d_Ce_judge_104 : decode b_Ce_judge 104 = .ok (.aload_n 0, 1) := by decide +kernel
theorem d_Ce_judge_105 : decode b_Ce_judge 105 = .ok (.getfield 30, 3) := by decide +kernel
theorem d_Ce_judge_108 : decode b_Ce_judge 108 = .ok (.aload_n 0, 1) := by decide +kernel
theorem d_Ce_judge_109 : decode b_Ce_judge 109 = .ok (.getfield 30, 3) := by decide +kernel
theorem d_Ce_judge_112 : decode b_Ce_judge 112 = .ok (.iconst 0, 1) := by decide +kernel
theorem d_Ce_judge_113 : decode b_Ce_judge 113 = .ok (.iconst 2, 1) := by decide +kernel
theorem d_Ce_judge_114 : decode b_Ce_judge 114 = .ok (.invokevirtual 48, 3) := by decide +kernel
theorem d_Ce_judge_117 : decode b_Ce_judge 117 = .ok (.invokevirtual 57, 3) := by decide +kernel
theorem d_Ce_judge_120 : decode b_Ce_judge 120 = .ok (.aload_n 0, 1) := by decide +kernel
theorem d_Ce_judge_121 : decode b_Ce_judge 121 = .ok (.getfield 65, 3) := by decide +kernel
theorem d_Ce_judge_124 : decode b_Ce_judge 124 = .ok (.ifCond .eq 8, 3) := by decide +kernel
theorem d_Ce_judge_127 : decode b_Ce_judge 127 = .ok (.bipush 10, 2) := by decide +kernel
theorem d_Ce_judge_129 : decode b_Ce_judge 129 = .ok (.goto 5, 3) := by decide +kernel
theorem d_Ce_judge_132 : decode b_Ce_judge 132 = .ok (.bipush 12, 2) := by decide +kernel
theorem d_Ce_judge_134 : decode b_Ce_judge 134 = .ok (.i2l, 1) := by decide +kernel
theorem d_Ce_judge_135 : decode b_Ce_judge 135 = .ok (.lcmp, 1) := by decide +kernel
theorem d_Ce_judge_136 : decode b_Ce_judge 136 = .ok (.ifCond .eq 6, 3) := by decide +kernel
theorem d_Ce_judge_139 : decode b_Ce_judge 139 = .ok (.bipush 40, 2) := by decide +kernel
theorem d_Ce_judge_141 : decode b_Ce_judge 141 = .ok (.ireturn, 1) := by decide +kernel
theorem d_Ce_judge_142 : decode b_Ce_judge 142 = .ok (.aload_n 0, 1) := by decide +kernel
theorem d_Ce_judge_143 : decode b_Ce_judge 143 = .ok (.aload_n 0, 1) := by decide +kernel
theorem d_Ce_judge_144 : decode b_Ce_judge 144 = .ok (.getfield 30, 3) := by decide +kernel
theorem d_Ce_judge_147 : decode b_Ce_judge 147 = .ok (.iconst 0, 1) := by decide +kernel
theorem d_Ce_judge_148 : decode b_Ce_judge 148 = .ok (.iconst 4, 1) := by decide +kernel
theorem d_Ce_judge_149 : decode b_Ce_judge 149 = .ok (.invokevirtual 48, 3) := by decide +kernel
theorem d_Ce_judge_152 : decode b_Ce_judge 152 = .ok (.putfield 81, 3) := by decide +kernel
theorem d_Ce_judge_155 : decode b_Ce_judge 155 = .ok (.aload_n 0, 1) := by decide +kernel
theorem d_Ce_judge_156 : decode b_Ce_judge 156 = .ok (.aload_n 0, 1) := by decide +kernel
theorem d_Ce_judge_157 : decode b_Ce_judge 157 = .ok (.getfield 30, 3) := by decide +kernel
theorem d_Ce_judge_160 : decode b_Ce_judge 160 = .ok (.aload_n 0, 1) := by decide +kernel
theorem d_Ce_judge_161 : decode b_Ce_judge 161 = .ok (.getfield 30, 3) := by decide +kernel
theorem d_Ce_judge_164 : decode b_Ce_judge 164 = .ok (.aload_n 0, 1) := by decide +kernel
theorem d_Ce_judge_165 : decode b_Ce_judge 165 = .ok (.getfield 81, 3) := by decide +kernel
theorem d_Ce_judge_168 : decode b_Ce_judge 168 = .ok (.iconst 0, 1) := by decide +kernel
theorem d_Ce_judge_169 : decode b_Ce_judge 169 = .ok (.invokevirtual 48, 3) := by decide +kernel
theorem d_Ce_judge_172 : decode b_Ce_judge 172 = .ok (.invokevirtual 84, 3) := by decide +kernel
theorem d_Ce_judge_175 : decode b_Ce_judge 175 = .ok (.putfield 44, 3) := by decide +kernel
theorem d_Ce_judge_178 : decode b_Ce_judge 178 = .ok (.aload_n 0, 1) := by decide +kernel
theorem d_Ce_judge_179 : decode b_Ce_judge 179 = .ok (.getfield 30, 3) := by decide +kernel
theorem d_Ce_judge_182 : decode b_Ce_judge 182 = .ok (.aload_n 0, 1) := by decide +kernel
theorem d_Ce_judge_183 : decode b_Ce_judge 183 = .ok (.getfield 81, 3) := by decide +kernel
theorem d_Ce_judge_186 : decode b_Ce_judge 186 = .ok (.iconst 3, 1) := by decide +kernel
theorem d_Ce_judge_187 : decode b_Ce_judge 187 = .ok (.invokevirtual 48, 3) := by decide +kernel
theorem d_Ce_judge_190 : decode b_Ce_judge 190 = .ok (.ifCond .ge 6, 3) := by decide +kernel
theorem d_Ce_judge_193 : decode b_Ce_judge 193 = .ok (.bipush 7, 2) := by decide +kernel
theorem d_Ce_judge_195 : decode b_Ce_judge 195 = .ok (.ireturn, 1) := by decide +kernel
theorem d_Ce_judge_196 : decode b_Ce_judge 196 = .ok (.aload_n 0, 1) := by decide +kernel
theorem d_Ce_judge_197 : decode b_Ce_judge 197 = .ok (.getfield 30, 3) := by decide +kernel
theorem d_Ce_judge_200 : decode b_Ce_judge 200 = .ok (.aload_n 0, 1) := by decide +kernel
theorem d_Ce_judge_201 : decode b_Ce_judge 201 = .ok (.getfield 30, 3) := by decide +kernel
theorem d_Ce_judge_204 : decode b_Ce_judge 204 = .ok (.aload_n 0, 1) := by decide +kernel
theorem d_Ce_judge_205 : decode b_Ce_judge 205 = .ok (.getfield 81, 3) := by decide +kernel
theorem d_Ce_judge_208 : decode b_Ce_judge 208 = .ok (.iconst 2, 1) := by decide +kernel
theorem d_Ce_judge_209 : decode b_Ce_judge 209 = .ok (.invokevirtual 48, 3) := by decide +kernel
theorem d_Ce_judge_212 : decode b_Ce_judge 212 = .ok (.invokevirtual 87, 3) := by decide +kernel
theorem d_Ce_judge_215 : decode b_Ce_judge 215 = .ok (.ifCond .ne 6, 3) := by decide +kernel
theorem d_Ce_judge_218 : decode b_Ce_judge 218 = .ok (.bipush 68, 2) := by decide +kernel
theorem d_Ce_judge_220 : decode b_Ce_judge 220 = .ok (.ireturn, 1) := by decide +kernel
theorem d_Ce_judge_221 : decode b_Ce_judge 221 = .ok (.aload_n 0, 1) := by decide +kernel
theorem d_Ce_judge_222 : decode b_Ce_judge 222 = .ok (.getfield 65, 3) := by decide +kernel
theorem d_Ce_judge_225 : decode b_Ce_judge 225 = .ok (.ifCond .ne 16, 3) := by decide +kernel
theorem d_Ce_judge_228 : decode b_Ce_judge 228 = .ok (.aload_n 0, 1) := by decide +kernel
theorem d_Ce_judge_229 : decode b_Ce_judge 229 = .ok (.iconst 1, 1) := by decide +kernel
theorem d_Ce_judge_230 : decode b_Ce_judge 230 = .ok (.invokevirtual 91, 3) := by decide +kernel
theorem d_Ce_judge_233 : decode b_Ce_judge 233 = .ok (.ifCond .ge 8, 3) := by decide +kernel
theorem d_Ce_judge_236 : decode b_Ce_judge 236 = .ok (.bipush 25, 2) := by decide +kernel
theorem d_Ce_judge_238 : decode b_Ce_judge 238 = .ok (.goto 4, 3) := by decide +kernel
theorem d_Ce_judge_241 : decode b_Ce_judge 241 = .ok (.iconst 0, 1) := by decide +kernel
theorem d_Ce_judge_242 : decode b_Ce_judge 242 = .ok (.ireturn, 1) := by decide +kernel
abbrev b_Ce_judgeAs : ByteArray := prog_5_method_5_code
def y_Ce_judgeAs : MethodName := ⟨R_Ce, "judgeAs", "()I"⟩
abbrev k_Ce_judgeAs : Cond := .code y_Ce_judgeAs b_Ce_judgeAs 2 (some .int)
theorem ki_Ce_judgeAs : k_Ce_judgeAs ∈ lw_tg := in_t 1100 (by decide +kernel)
theorem ks_Ce_judgeAs : Cond.instanceMethod y_Ce_judgeAs ∈ lw_tg := in_t 1098 (by decide +kernel)
theorem kx_Ce_judgeAs : Cond.selects R_Ce y_Ce_judgeAs y_Ce_judgeAs ∈ lw_tg := in_t 1099 (by decide +kernel)
theorem kl_H_Ce_judgeAs : Cond.methodLink R_H 170 y_Ce_judgeAs ∈ lw_tg := in_t 1097 (by decide +kernel)
theorem hd_Ce_judgeAs : y_Ce_judgeAs.cls = R_Ce ∧ y_Ce_judgeAs.cls ≠ "java/lang/invoke/MethodHandle" ∧ y_Ce_judgeAs.cls ≠ "java/lang/invoke/VarHandle" ∧ (parseMethodDescriptor y_Ce_judgeAs.desc).map (fun d => d.parameters.length) = some 0 := by decide +kernel
theorem d_Ce_judgeAs_0 : decode b_Ce_judgeAs 0 = .ok (.aload_n 0, 1) := by decide +kernel
theorem d_Ce_judgeAs_1 : decode b_Ce_judgeAs 1 = .ok (.aload_n 0, 1) := by decide +kernel
theorem d_Ce_judgeAs_2 : decode b_Ce_judgeAs 2 = .ok (.getfield 30, 3) := by decide +kernel
theorem d_Ce_judgeAs_5 : decode b_Ce_judgeAs 5 = .ok (.aload_n 0, 1) := by decide +kernel
theorem d_Ce_judgeAs_6 : decode b_Ce_judgeAs 6 = .ok (.getfield 30, 3) := by decide +kernel
theorem d_Ce_judgeAs_9 : decode b_Ce_judgeAs 9 = .ok (.aload_n 0, 1) := by decide +kernel
theorem d_Ce_judgeAs_10 : decode b_Ce_judgeAs 10 = .ok (.getfield 81, 3) := by decide +kernel
theorem d_Ce_judgeAs_13 : decode b_Ce_judgeAs 13 = .ok (.iconst 1, 1) := by decide +kernel
theorem d_Ce_judgeAs_14 : decode b_Ce_judgeAs 14 = .ok (.invokevirtual 48, 3) := by decide +kernel
theorem d_Ce_judgeAs_17 : decode b_Ce_judgeAs 17 = .ok (.invokevirtual 94, 3) := by decide +kernel
theorem d_Ce_judgeAs_20 : decode b_Ce_judgeAs 20 = .ok (.istore_n 1, 1) := by decide +kernel
theorem d_Ce_judgeAs_21 : decode b_Ce_judgeAs 21 = .ok (.iload_n 1, 1) := by decide +kernel
theorem d_Ce_judgeAs_22 : decode b_Ce_judgeAs 22 = .ok (.ifCond .ne 8, 3) := by decide +kernel
theorem d_Ce_judgeAs_25 : decode b_Ce_judgeAs 25 = .ok (.aload_n 0, 1) := by decide +kernel
theorem d_Ce_judgeAs_26 : decode b_Ce_judgeAs 26 = .ok (.invokevirtual 98, 3) := by decide +kernel
theorem d_Ce_judgeAs_29 : decode b_Ce_judgeAs 29 = .ok (.istore_n 1, 1) := by decide +kernel
theorem d_Ce_judgeAs_30 : decode b_Ce_judgeAs 30 = .ok (.iload_n 1, 1) := by decide +kernel
theorem d_Ce_judgeAs_31 : decode b_Ce_judgeAs 31 = .ok (.ifCond .eq 5, 3) := by decide +kernel
theorem d_Ce_judgeAs_34 : decode b_Ce_judgeAs 34 = .ok (.iload_n 1, 1) := by decide +kernel
theorem d_Ce_judgeAs_35 : decode b_Ce_judgeAs 35 = .ok (.ireturn, 1) := by decide +kernel
theorem d_Ce_judgeAs_36 : decode b_Ce_judgeAs 36 = .ok (.aload_n 0, 1) := by decide +kernel
theorem d_Ce_judgeAs_37 : decode b_Ce_judgeAs 37 = .ok (.ldc 102, 2) := by decide +kernel
theorem d_Ce_judgeAs_39 : decode b_Ce_judgeAs 39 = .ok (.invokevirtual 103, 3) := by decide +kernel
theorem d_Ce_judgeAs_42 : decode b_Ce_judgeAs 42 = .ok (.ifCond .ne 25, 3) := by decide +kernel
theorem d_Ce_judgeAs_45 : decode b_Ce_judgeAs 45 = .ok (.aload_n 0, 1) := by decide +kernel
theorem d_Ce_judgeAs_46 : decode b_Ce_judgeAs 46 = .ok (.getfield 30, 3) := by decide +kernel
theorem d_Ce_judgeAs_49 : decode b_Ce_judgeAs 49 = .ok (.aload_n 0, 1) := by decide +kernel
theorem d_Ce_judgeAs_50 : decode b_Ce_judgeAs 50 = .ok (.getfield 30, 3) := by decide +kernel
theorem d_Ce_judgeAs_53 : decode b_Ce_judgeAs 53 = .ok (.aload_n 0, 1) := by decide +kernel
theorem d_Ce_judgeAs_54 : decode b_Ce_judgeAs 54 = .ok (.getfield 81, 3) := by decide +kernel
theorem d_Ce_judgeAs_57 : decode b_Ce_judgeAs 57 = .ok (.iconst 0, 1) := by decide +kernel
theorem d_Ce_judgeAs_58 : decode b_Ce_judgeAs 58 = .ok (.invokevirtual 48, 3) := by decide +kernel
theorem d_Ce_judgeAs_61 : decode b_Ce_judgeAs 61 = .ok (.invokevirtual 106, 3) := by decide +kernel
theorem d_Ce_judgeAs_64 : decode b_Ce_judgeAs 64 = .ok (.ifCond .eq 6, 3) := by decide +kernel
theorem d_Ce_judgeAs_67 : decode b_Ce_judgeAs 67 = .ok (.bipush 13, 2) := by decide +kernel
theorem d_Ce_judgeAs_69 : decode b_Ce_judgeAs 69 = .ok (.ireturn, 1) := by decide +kernel
theorem d_Ce_judgeAs_70 : decode b_Ce_judgeAs 70 = .ok (.aload_n 0, 1) := by decide +kernel
theorem d_Ce_judgeAs_71 : decode b_Ce_judgeAs 71 = .ok (.getfield 30, 3) := by decide +kernel
theorem d_Ce_judgeAs_74 : decode b_Ce_judgeAs 74 = .ok (.aload_n 0, 1) := by decide +kernel
theorem d_Ce_judgeAs_75 : decode b_Ce_judgeAs 75 = .ok (.getfield 30, 3) := by decide +kernel
theorem d_Ce_judgeAs_78 : decode b_Ce_judgeAs 78 = .ok (.aload_n 0, 1) := by decide +kernel
theorem d_Ce_judgeAs_79 : decode b_Ce_judgeAs 79 = .ok (.getfield 81, 3) := by decide +kernel
theorem d_Ce_judgeAs_82 : decode b_Ce_judgeAs 82 = .ok (.iconst 4, 1) := by decide +kernel
theorem d_Ce_judgeAs_83 : decode b_Ce_judgeAs 83 = .ok (.invokevirtual 48, 3) := by decide +kernel
theorem d_Ce_judgeAs_86 : decode b_Ce_judgeAs 86 = .ok (.invokevirtual 109, 3) := by decide +kernel
theorem d_Ce_judgeAs_89 : decode b_Ce_judgeAs 89 = .ok (.aload_n 0, 1) := by decide +kernel
theorem d_Ce_judgeAs_90 : decode b_Ce_judgeAs 90 = .ok (.getfield 18, 3) := by decide +kernel
theorem d_Ce_judgeAs_93 : decode b_Ce_judgeAs 93 = .ok (.getfield 112, 3) := by decide +kernel
theorem d_Ce_judgeAs_96 : decode b_Ce_judgeAs 96 = .ok (.isub, 1) := by decide +kernel
theorem d_Ce_judgeAs_97 : decode b_Ce_judgeAs 97 = .ok (.sipush 300, 3) := by decide +kernel
theorem d_Ce_judgeAs_100 : decode b_Ce_judgeAs 100 = .ok (.if_icmp .le 6, 3) := by decide +kernel
theorem d_Ce_judgeAs_103 : decode b_Ce_judgeAs 103 = .ok (.bipush 10, 2) := by decide +kernel
theorem d_Ce_judgeAs_105 : decode b_Ce_judgeAs 105 = .ok (.ireturn, 1) := by decide +kernel
theorem d_Ce_judgeAs_106 : decode b_Ce_judgeAs 106 = .ok (.aload_n 0, 1) := by decide +kernel
theorem d_Ce_judgeAs_107 : decode b_Ce_judgeAs 107 = .ok (.invokevirtual 117, 3) := by decide +kernel
theorem d_Ce_judgeAs_110 : decode b_Ce_judgeAs 110 = .ok (.ifCond .ne 6, 3) := by decide +kernel
theorem d_Ce_judgeAs_113 : decode b_Ce_judgeAs 113 = .ok (.bipush 14, 2) := by decide +kernel
theorem d_Ce_judgeAs_115 : decode b_Ce_judgeAs 115 = .ok (.ireturn, 1) := by decide +kernel
theorem d_Ce_judgeAs_116 : decode b_Ce_judgeAs 116 = .ok (.aload_n 0, 1) := by decide +kernel
theorem d_Ce_judgeAs_117 : decode b_Ce_judgeAs 117 = .ok (.getfield 37, 3) := by decide +kernel
theorem d_Ce_judgeAs_120 : decode b_Ce_judgeAs 120 = .ok (.iconst 1, 1) := by decide +kernel
theorem d_Ce_judgeAs_121 : decode b_Ce_judgeAs 121 = .ok (.invokevirtual 121, 3) := by decide +kernel
theorem d_Ce_judgeAs_124 : decode b_Ce_judgeAs 124 = .ok (.ifCond .eq 8, 3) := by decide +kernel
theorem d_Ce_judgeAs_127 : decode b_Ce_judgeAs 127 = .ok (.aload_n 0, 1) := by decide +kernel
theorem d_Ce_judgeAs_128 : decode b_Ce_judgeAs 128 = .ok (.invokevirtual 126, 3) := by decide +kernel
theorem d_Ce_judgeAs_131 : decode b_Ce_judgeAs 131 = .ok (.istore_n 1, 1) := by decide +kernel
theorem d_Ce_judgeAs_132 : decode b_Ce_judgeAs 132 = .ok (.iload_n 1, 1) := by decide +kernel
theorem d_Ce_judgeAs_133 : decode b_Ce_judgeAs 133 = .ok (.ifCond .ne 10, 3) := by decide +kernel
theorem d_Ce_judgeAs_136 : decode b_Ce_judgeAs 136 = .ok (.aload_n 0, 1) := by decide +kernel
theorem d_Ce_judgeAs_137 : decode b_Ce_judgeAs 137 = .ok (.invokevirtual 129, 3) := by decide +kernel
theorem d_Ce_judgeAs_140 : decode b_Ce_judgeAs 140 = .ok (.goto 4, 3) := by decide +kernel
theorem d_Ce_judgeAs_143 : decode b_Ce_judgeAs 143 = .ok (.iload_n 1, 1) := by decide +kernel
theorem d_Ce_judgeAs_144 : decode b_Ce_judgeAs 144 = .ok (.ireturn, 1) := by decide +kernel
abbrev b_Ce_judgeTgs : ByteArray := prog_5_method_6_code
def y_Ce_judgeTgs : MethodName := ⟨R_Ce, "judgeTgs", "()I"⟩
abbrev k_Ce_judgeTgs : Cond := .code y_Ce_judgeTgs b_Ce_judgeTgs 2 (some .int)
theorem ki_Ce_judgeTgs : k_Ce_judgeTgs ∈ lw_tg := in_t 1193 (by decide +kernel)
theorem ks_Ce_judgeTgs : Cond.instanceMethod y_Ce_judgeTgs ∈ lw_tg := in_t 1191 (by decide +kernel)
theorem kx_Ce_judgeTgs : Cond.selects R_Ce y_Ce_judgeTgs y_Ce_judgeTgs ∈ lw_tg := in_t 1192 (by decide +kernel)
theorem kl_H_Ce_judgeTgs : Cond.methodLink R_H 173 y_Ce_judgeTgs ∈ lw_tg := in_t 1190 (by decide +kernel)
theorem hd_Ce_judgeTgs : y_Ce_judgeTgs.cls = R_Ce ∧ y_Ce_judgeTgs.cls ≠ "java/lang/invoke/MethodHandle" ∧ y_Ce_judgeTgs.cls ≠ "java/lang/invoke/VarHandle" ∧ (parseMethodDescriptor y_Ce_judgeTgs.desc).map (fun d => d.parameters.length) = some 0 := by decide +kernel
theorem d_Ce_judgeTgs_0 : decode b_Ce_judgeTgs 0 = .ok (.aload_n 0, 1) := by decide +kernel
theorem d_Ce_judgeTgs_1 : decode b_Ce_judgeTgs 1 = .ok (.invokevirtual 132, 3) := by decide +kernel
theorem d_Ce_judgeTgs_4 : decode b_Ce_judgeTgs 4 = .ok (.istore_n 1, 1) := by decide +kernel
theorem d_Ce_judgeTgs_5 : decode b_Ce_judgeTgs 5 = .ok (.iload_n 1, 1) := by decide +kernel
theorem d_Ce_judgeTgs_6 : decode b_Ce_judgeTgs 6 = .ok (.ifCond .ne 11, 3) := by decide +kernel
theorem d_Ce_judgeTgs_9 : decode b_Ce_judgeTgs 9 = .ok (.aload_n 0, 1) := by decide +kernel
theorem d_Ce_judgeTgs_10 : decode b_Ce_judgeTgs 10 = .ok (.getfield 22, 3) := by decide +kernel
theorem d_Ce_judgeTgs_13 : decode b_Ce_judgeTgs 13 = .ok (.invokevirtual 135, 3) := by decide +kernel
theorem d_Ce_judgeTgs_16 : decode b_Ce_judgeTgs 16 = .ok (.istore_n 1, 1) := by decide +kernel
theorem d_Ce_judgeTgs_17 : decode b_Ce_judgeTgs 17 = .ok (.iload_n 1, 1) := by decide +kernel
theorem d_Ce_judgeTgs_18 : decode b_Ce_judgeTgs 18 = .ok (.ifCond .ne 27, 3) := by decide +kernel
theorem d_Ce_judgeTgs_21 : decode b_Ce_judgeTgs 21 = .ok (.aload_n 0, 1) := by decide +kernel
theorem d_Ce_judgeTgs_22 : decode b_Ce_judgeTgs 22 = .ok (.aload_n 0, 1) := by decide +kernel
theorem d_Ce_judgeTgs_23 : decode b_Ce_judgeTgs 23 = .ok (.getfield 22, 3) := by decide +kernel
theorem d_Ce_judgeTgs_26 : decode b_Ce_judgeTgs 26 = .ok (.getfield 140, 3) := by decide +kernel
theorem d_Ce_judgeTgs_29 : decode b_Ce_judgeTgs 29 = .ok (.aload_n 0, 1) := by decide +kernel
theorem d_Ce_judgeTgs_30 : decode b_Ce_judgeTgs 30 = .ok (.getfield 22, 3) := by decide +kernel
theorem d_Ce_judgeTgs_33 : decode b_Ce_judgeTgs 33 = .ok (.getfield 140, 3) := by decide +kernel
theorem d_Ce_judgeTgs_36 : decode b_Ce_judgeTgs 36 = .ok (.iconst 0, 1) := by decide +kernel
theorem d_Ce_judgeTgs_37 : decode b_Ce_judgeTgs 37 = .ok (.iconst 3, 1) := by decide +kernel
theorem d_Ce_judgeTgs_38 : decode b_Ce_judgeTgs 38 = .ok (.invokevirtual 48, 3) := by decide +kernel
theorem d_Ce_judgeTgs_41 : decode b_Ce_judgeTgs 41 = .ok (.invokevirtual 94, 3) := by decide +kernel
theorem d_Ce_judgeTgs_44 : decode b_Ce_judgeTgs 44 = .ok (.istore_n 1, 1) := by decide +kernel
theorem d_Ce_judgeTgs_45 : decode b_Ce_judgeTgs 45 = .ok (.iload_n 1, 1) := by decide +kernel
theorem d_Ce_judgeTgs_46 : decode b_Ce_judgeTgs 46 = .ok (.ifCond .ne 8, 3) := by decide +kernel
theorem d_Ce_judgeTgs_49 : decode b_Ce_judgeTgs 49 = .ok (.aload_n 0, 1) := by decide +kernel
theorem d_Ce_judgeTgs_50 : decode b_Ce_judgeTgs 50 = .ok (.invokevirtual 98, 3) := by decide +kernel
theorem d_Ce_judgeTgs_53 : decode b_Ce_judgeTgs 53 = .ok (.istore_n 1, 1) := by decide +kernel
theorem d_Ce_judgeTgs_54 : decode b_Ce_judgeTgs 54 = .ok (.iload_n 1, 1) := by decide +kernel
theorem d_Ce_judgeTgs_55 : decode b_Ce_judgeTgs 55 = .ok (.ifCond .ne 8, 3) := by decide +kernel
theorem d_Ce_judgeTgs_58 : decode b_Ce_judgeTgs 58 = .ok (.aload_n 0, 1) := by decide +kernel
theorem d_Ce_judgeTgs_59 : decode b_Ce_judgeTgs 59 = .ok (.invokevirtual 143, 3) := by decide +kernel
theorem d_Ce_judgeTgs_62 : decode b_Ce_judgeTgs 62 = .ok (.istore_n 1, 1) := by decide +kernel
theorem d_Ce_judgeTgs_63 : decode b_Ce_judgeTgs 63 = .ok (.iload_n 1, 1) := by decide +kernel
theorem d_Ce_judgeTgs_64 : decode b_Ce_judgeTgs 64 = .ok (.ifCond .ne 13, 3) := by decide +kernel
theorem d_Ce_judgeTgs_67 : decode b_Ce_judgeTgs 67 = .ok (.aload_n 0, 1) := by decide +kernel
theorem d_Ce_judgeTgs_68 : decode b_Ce_judgeTgs 68 = .ok (.invokevirtual 117, 3) := by decide +kernel
theorem d_Ce_judgeTgs_71 : decode b_Ce_judgeTgs 71 = .ok (.ifCond .ne 6, 3) := by decide +kernel
theorem d_Ce_judgeTgs_74 : decode b_Ce_judgeTgs 74 = .ok (.bipush 14, 2) := by decide +kernel
theorem d_Ce_judgeTgs_76 : decode b_Ce_judgeTgs 76 = .ok (.istore_n 1, 1) := by decide +kernel
theorem d_Ce_judgeTgs_77 : decode b_Ce_judgeTgs 77 = .ok (.iload_n 1, 1) := by decide +kernel
theorem d_Ce_judgeTgs_78 : decode b_Ce_judgeTgs 78 = .ok (.ifCond .ne 10, 3) := by decide +kernel
theorem d_Ce_judgeTgs_81 : decode b_Ce_judgeTgs 81 = .ok (.aload_n 0, 1) := by decide +kernel
theorem d_Ce_judgeTgs_82 : decode b_Ce_judgeTgs 82 = .ok (.invokevirtual 129, 3) := by decide +kernel
theorem d_Ce_judgeTgs_85 : decode b_Ce_judgeTgs 85 = .ok (.goto 4, 3) := by decide +kernel
theorem d_Ce_judgeTgs_88 : decode b_Ce_judgeTgs 88 = .ok (.iload_n 1, 1) := by decide +kernel
theorem d_Ce_judgeTgs_89 : decode b_Ce_judgeTgs 89 = .ok (.ireturn, 1) := by decide +kernel
abbrev b_Ce_judgeClient : ByteArray := prog_5_method_7_code
def y_Ce_judgeClient : MethodName := ⟨R_Ce, "judgeClient", "(LRealmHouse$Bytes;I)I"⟩
abbrev k_Ce_judgeClient : Cond := .code y_Ce_judgeClient b_Ce_judgeClient 4 (some .int)
theorem ki_Ce_judgeClient : k_Ce_judgeClient ∈ lw_tg := in_t 1104 (by decide +kernel)
theorem ks_Ce_judgeClient : Cond.instanceMethod y_Ce_judgeClient ∈ lw_tg := in_t 1103 (by decide +kernel)
theorem kx_Ce_judgeClient : Cond.selects R_Ce y_Ce_judgeClient y_Ce_judgeClient ∈ lw_tg := List.mem_filter.mpr ⟨List.mem_append_left _ (List.mem_of_getElem? (i := 27) (by decide +kernel)), rfl⟩
theorem kl_Ce_Ce_judgeClient : Cond.methodLink R_Ce 94 y_Ce_judgeClient ∈ lw_tg := in_t 1101 (by decide +kernel)
theorem hd_Ce_judgeClient : y_Ce_judgeClient.cls = R_Ce ∧ y_Ce_judgeClient.cls ≠ "java/lang/invoke/MethodHandle" ∧ y_Ce_judgeClient.cls ≠ "java/lang/invoke/VarHandle" ∧ (parseMethodDescriptor y_Ce_judgeClient.desc).map (fun d => d.parameters.length) = some 2 := by decide +kernel
theorem d_Ce_judgeClient_0 : decode b_Ce_judgeClient 0 = .ok (.aload_n 0, 1) := by decide +kernel
theorem d_Ce_judgeClient_1 : decode b_Ce_judgeClient 1 = .ok (.getfield 26, 3) := by decide +kernel
theorem d_Ce_judgeClient_4 : decode b_Ce_judgeClient 4 = .ok (.aload_n 1, 1) := by decide +kernel
theorem d_Ce_judgeClient_5 : decode b_Ce_judgeClient 5 = .ok (.iload_n 2, 1) := by decide +kernel
theorem d_Ce_judgeClient_6 : decode b_Ce_judgeClient 6 = .ok (.invokestatic 146, 3) := by decide +kernel
theorem d_Ce_judgeClient_9 : decode b_Ce_judgeClient 9 = .ok (.istore_n 3, 1) := by decide +kernel
theorem d_Ce_judgeClient_10 : decode b_Ce_judgeClient 10 = .ok (.iload_n 3, 1) := by decide +kernel
theorem d_Ce_judgeClient_11 : decode b_Ce_judgeClient 11 = .ok (.ifCond .ge 6, 3) := by decide +kernel
theorem d_Ce_judgeClient_14 : decode b_Ce_judgeClient 14 = .ok (.bipush 6, 2) := by decide +kernel
theorem d_Ce_judgeClient_16 : decode b_Ce_judgeClient 16 = .ok (.ireturn, 1) := by decide +kernel
theorem d_Ce_judgeClient_17 : decode b_Ce_judgeClient 17 = .ok (.aload_n 0, 1) := by decide +kernel
theorem d_Ce_judgeClient_18 : decode b_Ce_judgeClient 18 = .ok (.aload_n 0, 1) := by decide +kernel
theorem d_Ce_judgeClient_19 : decode b_Ce_judgeClient 19 = .ok (.getfield 26, 3) := by decide +kernel
theorem d_Ce_judgeClient_22 : decode b_Ce_judgeClient 22 = .ok (.iload_n 3, 1) := by decide +kernel
theorem d_Ce_judgeClient_23 : decode b_Ce_judgeClient 23 = .ok (.aaload, 1) := by decide +kernel
theorem d_Ce_judgeClient_24 : decode b_Ce_judgeClient 24 = .ok (.putfield 37, 3) := by decide +kernel
theorem d_Ce_judgeClient_27 : decode b_Ce_judgeClient 27 = .ok (.aload_n 0, 1) := by decide +kernel
theorem d_Ce_judgeClient_28 : decode b_Ce_judgeClient 28 = .ok (.getfield 37, 3) := by decide +kernel
theorem d_Ce_judgeClient_31 : decode b_Ce_judgeClient 31 = .ok (.bipush 32, 2) := by decide +kernel
theorem d_Ce_judgeClient_33 : decode b_Ce_judgeClient 33 = .ok (.invokevirtual 121, 3) := by decide +kernel
theorem d_Ce_judgeClient_36 : decode b_Ce_judgeClient 36 = .ok (.ifCond .eq 6, 3) := by decide +kernel
theorem d_Ce_judgeClient_39 : decode b_Ce_judgeClient 39 = .ok (.bipush 18, 2) := by decide +kernel
theorem d_Ce_judgeClient_41 : decode b_Ce_judgeClient 41 = .ok (.ireturn, 1) := by decide +kernel
theorem d_Ce_judgeClient_42 : decode b_Ce_judgeClient 42 = .ok (.aload_n 0, 1) := by decide +kernel
theorem d_Ce_judgeClient_43 : decode b_Ce_judgeClient 43 = .ok (.getfield 37, 3) := by decide +kernel
theorem d_Ce_judgeClient_46 : decode b_Ce_judgeClient 46 = .ok (.aload_n 0, 1) := by decide +kernel
theorem d_Ce_judgeClient_47 : decode b_Ce_judgeClient 47 = .ok (.getfield 18, 3) := by decide +kernel
theorem d_Ce_judgeClient_50 : decode b_Ce_judgeClient 50 = .ok (.getfield 112, 3) := by decide +kernel
theorem d_Ce_judgeClient_53 : decode b_Ce_judgeClient 53 = .ok (.invokevirtual 150, 3) := by decide +kernel
theorem d_Ce_judgeClient_56 : decode b_Ce_judgeClient 56 = .ok (.ifCond .eq 7, 3) := by decide +kernel
theorem d_Ce_judgeClient_59 : decode b_Ce_judgeClient 59 = .ok (.iconst 1, 1) := by decide +kernel
theorem d_Ce_judgeClient_60 : decode b_Ce_judgeClient 60 = .ok (.goto 4, 3) := by decide +kernel
theorem d_Ce_judgeClient_63 : decode b_Ce_judgeClient 63 = .ok (.iconst 0, 1) := by decide +kernel
theorem d_Ce_judgeClient_64 : decode b_Ce_judgeClient 64 = .ok (.ireturn, 1) := by decide +kernel
abbrev b_Ce_judgeService : ByteArray := prog_5_method_8_code
def y_Ce_judgeService : MethodName := ⟨R_Ce, "judgeService", "()I"⟩
abbrev k_Ce_judgeService : Cond := .code y_Ce_judgeService b_Ce_judgeService 2 (some .int)
theorem ki_Ce_judgeService : k_Ce_judgeService ∈ lw_tg := in_t 1120 (by decide +kernel)
theorem ks_Ce_judgeService : Cond.instanceMethod y_Ce_judgeService ∈ lw_tg := in_t 1119 (by decide +kernel)
theorem kx_Ce_judgeService : Cond.selects R_Ce y_Ce_judgeService y_Ce_judgeService ∈ lw_tg := List.mem_filter.mpr ⟨List.mem_append_left _ (List.mem_of_getElem? (i := 28) (by decide +kernel)), rfl⟩
theorem kl_Ce_Ce_judgeService : Cond.methodLink R_Ce 98 y_Ce_judgeService ∈ lw_tg := in_t 1117 (by decide +kernel)
theorem hd_Ce_judgeService : y_Ce_judgeService.cls = R_Ce ∧ y_Ce_judgeService.cls ≠ "java/lang/invoke/MethodHandle" ∧ y_Ce_judgeService.cls ≠ "java/lang/invoke/VarHandle" ∧ (parseMethodDescriptor y_Ce_judgeService.desc).map (fun d => d.parameters.length) = some 0 := by decide +kernel
theorem d_Ce_judgeService_0 : decode b_Ce_judgeService 0 = .ok (.aload_n 0, 1) := by decide +kernel
theorem d_Ce_judgeService_1 : decode b_Ce_judgeService 1 = .ok (.getfield 26, 3) := by decide +kernel
theorem d_Ce_judgeService_4 : decode b_Ce_judgeService 4 = .ok (.aload_n 0, 1) := by decide +kernel
theorem d_Ce_judgeService_5 : decode b_Ce_judgeService 5 = .ok (.getfield 30, 3) := by decide +kernel
theorem d_Ce_judgeService_8 : decode b_Ce_judgeService 8 = .ok (.aload_n 0, 1) := by decide +kernel
theorem d_Ce_judgeService_9 : decode b_Ce_judgeService 9 = .ok (.getfield 30, 3) := by decide +kernel
theorem d_Ce_judgeService_12 : decode b_Ce_judgeService 12 = .ok (.aload_n 0, 1) := by decide +kernel
theorem d_Ce_judgeService_13 : decode b_Ce_judgeService 13 = .ok (.getfield 81, 3) := by decide +kernel
theorem d_Ce_judgeService_16 : decode b_Ce_judgeService 16 = .ok (.iconst 3, 1) := by decide +kernel
theorem d_Ce_judgeService_17 : decode b_Ce_judgeService 17 = .ok (.invokevirtual 48, 3) := by decide +kernel
theorem d_Ce_judgeService_20 : decode b_Ce_judgeService 20 = .ok (.invokestatic 146, 3) := by decide +kernel
theorem d_Ce_judgeService_23 : decode b_Ce_judgeService 23 = .ok (.istore_n 1, 1) := by decide +kernel
theorem d_Ce_judgeService_24 : decode b_Ce_judgeService 24 = .ok (.iload_n 1, 1) := by decide +kernel
theorem d_Ce_judgeService_25 : decode b_Ce_judgeService 25 = .ok (.ifCond .ge 6, 3) := by decide +kernel
theorem d_Ce_judgeService_28 : decode b_Ce_judgeService 28 = .ok (.bipush 7, 2) := by decide +kernel
theorem d_Ce_judgeService_30 : decode b_Ce_judgeService 30 = .ok (.ireturn, 1) := by decide +kernel
theorem d_Ce_judgeService_31 : decode b_Ce_judgeService 31 = .ok (.aload_n 0, 1) := by decide +kernel
theorem d_Ce_judgeService_32 : decode b_Ce_judgeService 32 = .ok (.aload_n 0, 1) := by decide +kernel
theorem d_Ce_judgeService_33 : decode b_Ce_judgeService 33 = .ok (.getfield 26, 3) := by decide +kernel
theorem d_Ce_judgeService_36 : decode b_Ce_judgeService 36 = .ok (.iload_n 1, 1) := by decide +kernel
theorem d_Ce_judgeService_37 : decode b_Ce_judgeService 37 = .ok (.aaload, 1) := by decide +kernel
theorem d_Ce_judgeService_38 : decode b_Ce_judgeService 38 = .ok (.putfield 41, 3) := by decide +kernel
theorem d_Ce_judgeService_41 : decode b_Ce_judgeService 41 = .ok (.aload_n 0, 1) := by decide +kernel
theorem d_Ce_judgeService_42 : decode b_Ce_judgeService 42 = .ok (.getfield 41, 3) := by decide +kernel
theorem d_Ce_judgeService_45 : decode b_Ce_judgeService 45 = .ok (.bipush 48, 2) := by decide +kernel
theorem d_Ce_judgeService_47 : decode b_Ce_judgeService 47 = .ok (.invokevirtual 121, 3) := by decide +kernel
theorem d_Ce_judgeService_50 : decode b_Ce_judgeService 50 = .ok (.ifCond .eq 6, 3) := by decide +kernel
theorem d_Ce_judgeService_53 : decode b_Ce_judgeService 53 = .ok (.bipush 12, 2) := by decide +kernel
theorem d_Ce_judgeService_55 : decode b_Ce_judgeService 55 = .ok (.ireturn, 1) := by decide +kernel
theorem d_Ce_judgeService_56 : decode b_Ce_judgeService 56 = .ok (.aload_n 0, 1) := by decide +kernel
theorem d_Ce_judgeService_57 : decode b_Ce_judgeService 57 = .ok (.getfield 41, 3) := by decide +kernel
theorem d_Ce_judgeService_60 : decode b_Ce_judgeService 60 = .ok (.aload_n 0, 1) := by decide +kernel
theorem d_Ce_judgeService_61 : decode b_Ce_judgeService 61 = .ok (.getfield 18, 3) := by decide +kernel
theorem d_Ce_judgeService_64 : decode b_Ce_judgeService 64 = .ok (.getfield 112, 3) := by decide +kernel
theorem d_Ce_judgeService_67 : decode b_Ce_judgeService 67 = .ok (.invokevirtual 150, 3) := by decide +kernel
theorem d_Ce_judgeService_70 : decode b_Ce_judgeService 70 = .ok (.ifCond .eq 7, 3) := by decide +kernel
theorem d_Ce_judgeService_73 : decode b_Ce_judgeService 73 = .ok (.iconst 2, 1) := by decide +kernel
theorem d_Ce_judgeService_74 : decode b_Ce_judgeService 74 = .ok (.goto 4, 3) := by decide +kernel
theorem d_Ce_judgeService_77 : decode b_Ce_judgeService 77 = .ok (.iconst 0, 1) := by decide +kernel
theorem d_Ce_judgeService_78 : decode b_Ce_judgeService 78 = .ok (.ireturn, 1) := by decide +kernel
abbrev b_Ce_isWanted : ByteArray := prog_5_method_9_code
def y_Ce_isWanted : MethodName := ⟨R_Ce, "isWanted", "(I)Z"⟩
abbrev k_Ce_isWanted : Cond := .code y_Ce_isWanted b_Ce_isWanted 5 (some .boolean)
theorem ki_Ce_isWanted : k_Ce_isWanted ∈ lw_tg := in_t 1264 (by decide +kernel)
theorem ks_Ce_isWanted : Cond.instanceMethod y_Ce_isWanted ∈ lw_tg := in_t 1263 (by decide +kernel)
theorem kx_Ce_isWanted : Cond.selects R_Ce y_Ce_isWanted y_Ce_isWanted ∈ lw_tg := List.mem_filter.mpr ⟨List.mem_append_left _ (List.mem_of_getElem? (i := 42) (by decide +kernel)), rfl⟩
theorem kl_Ce_Ce_isWanted : Cond.methodLink R_Ce 347 y_Ce_isWanted ∈ lw_tg := in_t 1261 (by decide +kernel)
theorem hd_Ce_isWanted : y_Ce_isWanted.cls = R_Ce ∧ y_Ce_isWanted.cls ≠ "java/lang/invoke/MethodHandle" ∧ y_Ce_isWanted.cls ≠ "java/lang/invoke/VarHandle" ∧ (parseMethodDescriptor y_Ce_isWanted.desc).map (fun d => d.parameters.length) = some 1 := by decide +kernel
theorem d_Ce_isWanted_0 : decode b_Ce_isWanted 0 = .ok (.aload_n 0, 1) := by decide +kernel
theorem d_Ce_isWanted_1 : decode b_Ce_isWanted 1 = .ok (.getfield 30, 3) := by decide +kernel
theorem d_Ce_isWanted_4 : decode b_Ce_isWanted 4 = .ok (.aload_n 0, 1) := by decide +kernel
theorem d_Ce_isWanted_5 : decode b_Ce_isWanted 5 = .ok (.getfield 81, 3) := by decide +kernel
theorem d_Ce_isWanted_8 : decode b_Ce_isWanted 8 = .ok (.bipush 8, 2) := by decide +kernel
theorem d_Ce_isWanted_10 : decode b_Ce_isWanted 10 = .ok (.invokevirtual 48, 3) := by decide +kernel
theorem d_Ce_isWanted_13 : decode b_Ce_isWanted 13 = .ok (.istore_n 2, 1) := by decide +kernel
theorem d_Ce_isWanted_14 : decode b_Ce_isWanted 14 = .ok (.iconst 0, 1) := by decide +kernel
theorem d_Ce_isWanted_15 : decode b_Ce_isWanted 15 = .ok (.istore_n 3, 1) := by decide +kernel
theorem d_Ce_isWanted_16 : decode b_Ce_isWanted 16 = .ok (.iload_n 3, 1) := by decide +kernel
theorem d_Ce_isWanted_17 : decode b_Ce_isWanted 17 = .ok (.bipush 16, 2) := by decide +kernel
theorem d_Ce_isWanted_19 : decode b_Ce_isWanted 19 = .ok (.if_icmp .ge 42, 3) := by decide +kernel
theorem d_Ce_isWanted_22 : decode b_Ce_isWanted 22 = .ok (.aload_n 0, 1) := by decide +kernel
theorem d_Ce_isWanted_23 : decode b_Ce_isWanted 23 = .ok (.getfield 30, 3) := by decide +kernel
theorem d_Ce_isWanted_26 : decode b_Ce_isWanted 26 = .ok (.iload_n 2, 1) := by decide +kernel
theorem d_Ce_isWanted_27 : decode b_Ce_isWanted 27 = .ok (.iload_n 3, 1) := by decide +kernel
theorem d_Ce_isWanted_28 : decode b_Ce_isWanted 28 = .ok (.invokevirtual 54, 3) := by decide +kernel
theorem d_Ce_isWanted_31 : decode b_Ce_isWanted 31 = .ok (.istore 4, 2) := by decide +kernel
theorem d_Ce_isWanted_33 : decode b_Ce_isWanted 33 = .ok (.iload 4, 2) := by decide +kernel
theorem d_Ce_isWanted_35 : decode b_Ce_isWanted 35 = .ok (.ifCond .lt 20, 3) := by decide +kernel
theorem d_Ce_isWanted_38 : decode b_Ce_isWanted 38 = .ok (.aload_n 0, 1) := by decide +kernel
theorem d_Ce_isWanted_39 : decode b_Ce_isWanted 39 = .ok (.getfield 30, 3) := by decide +kernel
theorem d_Ce_isWanted_42 : decode b_Ce_isWanted 42 = .ok (.iload 4, 2) := by decide +kernel
theorem d_Ce_isWanted_44 : decode b_Ce_isWanted 44 = .ok (.invokevirtual 57, 3) := by decide +kernel
theorem d_Ce_isWanted_47 : decode b_Ce_isWanted 47 = .ok (.iload_n 1, 1) := by decide +kernel
theorem d_Ce_isWanted_48 : decode b_Ce_isWanted 48 = .ok (.i2l, 1) := by decide +kernel
theorem d_Ce_isWanted_49 : decode b_Ce_isWanted 49 = .ok (.lcmp, 1) := by decide +kernel
theorem d_Ce_isWanted_50 : decode b_Ce_isWanted 50 = .ok (.ifCond .ne 5, 3) := by decide +kernel
theorem d_Ce_isWanted_53 : decode b_Ce_isWanted 53 = .ok (.iconst 1, 1) := by decide +kernel
theorem d_Ce_isWanted_54 : decode b_Ce_isWanted 54 = .ok (.ireturn, 1) := by decide +kernel
theorem d_Ce_isWanted_55 : decode b_Ce_isWanted 55 = .ok (.iinc 3 1, 3) := by decide +kernel
theorem d_Ce_isWanted_58 : decode b_Ce_isWanted 58 = .ok (.goto (-42), 3) := by decide +kernel
theorem d_Ce_isWanted_61 : decode b_Ce_isWanted 61 = .ok (.iconst 0, 1) := by decide +kernel
theorem d_Ce_isWanted_62 : decode b_Ce_isWanted 62 = .ok (.ireturn, 1) := by decide +kernel
abbrev b_Ce_findType : ByteArray := prog_5_method_10_code
def y_Ce_findType : MethodName := ⟨R_Ce, "findType", "()Z"⟩
abbrev k_Ce_findType : Cond := .code y_Ce_findType b_Ce_findType 6 (some .boolean)
theorem ki_Ce_findType : k_Ce_findType ∈ lw_tg := in_t 1131 (by decide +kernel)
theorem ks_Ce_findType : Cond.instanceMethod y_Ce_findType ∈ lw_tg := in_t 1130 (by decide +kernel)
theorem kx_Ce_findType : Cond.selects R_Ce y_Ce_findType y_Ce_findType ∈ lw_tg := List.mem_filter.mpr ⟨List.mem_append_left _ (List.mem_of_getElem? (i := 30) (by decide +kernel)), rfl⟩
theorem kl_Ce_Ce_findType : Cond.methodLink R_Ce 117 y_Ce_findType ∈ lw_tg := in_t 1128 (by decide +kernel)
theorem hd_Ce_findType : y_Ce_findType.cls = R_Ce ∧ y_Ce_findType.cls ≠ "java/lang/invoke/MethodHandle" ∧ y_Ce_findType.cls ≠ "java/lang/invoke/VarHandle" ∧ (parseMethodDescriptor y_Ce_findType.desc).map (fun d => d.parameters.length) = some 0 := by decide +kernel
theorem d_Ce_findType_0 : decode b_Ce_findType 0 = .ok (.aload_n 0, 1) := by decide +kernel
theorem d_Ce_findType_1 : decode b_Ce_findType 1 = .ok (.getfield 30, 3) := by decide +kernel
theorem d_Ce_findType_4 : decode b_Ce_findType 4 = .ok (.aload_n 0, 1) := by decide +kernel
theorem d_Ce_findType_5 : decode b_Ce_findType 5 = .ok (.getfield 81, 3) := by decide +kernel
theorem d_Ce_findType_8 : decode b_Ce_findType 8 = .ok (.bipush 8, 2) := by decide +kernel
theorem d_Ce_findType_10 : decode b_Ce_findType 10 = .ok (.invokevirtual 48, 3) := by decide +kernel
theorem d_Ce_findType_13 : decode b_Ce_findType 13 = .ok (.istore_n 1, 1) := by decide +kernel
theorem d_Ce_findType_14 : decode b_Ce_findType 14 = .ok (.iconst 0, 1) := by decide +kernel
theorem d_Ce_findType_15 : decode b_Ce_findType 15 = .ok (.istore_n 2, 1) := by decide +kernel
theorem d_Ce_findType_16 : decode b_Ce_findType 16 = .ok (.iload_n 2, 1) := by decide +kernel
theorem d_Ce_findType_17 : decode b_Ce_findType 17 = .ok (.bipush 16, 2) := by decide +kernel
theorem d_Ce_findType_19 : decode b_Ce_findType 19 = .ok (.if_icmp .ge 64, 3) := by decide +kernel
theorem d_Ce_findType_22 : decode b_Ce_findType 22 = .ok (.aload_n 0, 1) := by decide +kernel
theorem d_Ce_findType_23 : decode b_Ce_findType 23 = .ok (.getfield 30, 3) := by decide +kernel
theorem d_Ce_findType_26 : decode b_Ce_findType 26 = .ok (.iload_n 1, 1) := by decide +kernel
theorem d_Ce_findType_27 : decode b_Ce_findType 27 = .ok (.iload_n 2, 1) := by decide +kernel
theorem d_Ce_findType_28 : decode b_Ce_findType 28 = .ok (.invokevirtual 54, 3) := by decide +kernel
theorem d_Ce_findType_31 : decode b_Ce_findType 31 = .ok (.istore_n 3, 1) := by decide +kernel
theorem d_Ce_findType_32 : decode b_Ce_findType 32 = .ok (.iload_n 3, 1) := by decide +kernel
theorem d_Ce_findType_33 : decode b_Ce_findType 33 = .ok (.ifCond .lt 14, 3) := by decide +kernel
theorem d_Ce_findType_36 : decode b_Ce_findType 36 = .ok (.aload_n 0, 1) := by decide +kernel
theorem d_Ce_findType_37 : decode b_Ce_findType 37 = .ok (.getfield 30, 3) := by decide +kernel
theorem d_Ce_findType_40 : decode b_Ce_findType 40 = .ok (.iload_n 3, 1) := by decide +kernel
theorem d_Ce_findType_41 : decode b_Ce_findType 41 = .ok (.invokevirtual 57, 3) := by decide +kernel
theorem d_Ce_findType_44 : decode b_Ce_findType 44 = .ok (.goto 4, 3) := by decide +kernel
theorem d_Ce_findType_47 : decode b_Ce_findType 47 = .ok (.lconst 0, 1) := by decide +kernel
theorem d_Ce_findType_48 : decode b_Ce_findType 48 = .ok (.lstore 4, 2) := by decide +kernel
theorem d_Ce_findType_50 : decode b_Ce_findType 50 = .ok (.lload 4, 2) := by decide +kernel
theorem d_Ce_findType_52 : decode b_Ce_findType 52 = .ok (.ldc2_w 153, 3) := by decide +kernel
theorem d_Ce_findType_55 : decode b_Ce_findType 55 = .ok (.lcmp, 1) := by decide +kernel
theorem d_Ce_findType_56 : decode b_Ce_findType 56 = .ok (.ifCond .eq 12, 3) := by decide +kernel
theorem d_Ce_findType_59 : decode b_Ce_findType 59 = .ok (.lload 4, 2) := by decide +kernel
theorem d_Ce_findType_61 : decode b_Ce_findType 61 = .ok (.ldc2_w 155, 3) := by decide +kernel
theorem d_Ce_findType_64 : decode b_Ce_findType 64 = .ok (.lcmp, 1) := by decide +kernel
theorem d_Ce_findType_65 : decode b_Ce_findType 65 = .ok (.ifCond .ne 12, 3) := by decide +kernel
theorem d_Ce_findType_68 : decode b_Ce_findType 68 = .ok (.aload_n 0, 1) := by decide +kernel
theorem d_Ce_findType_69 : decode b_Ce_findType 69 = .ok (.lload 4, 2) := by decide +kernel
theorem d_Ce_findType_71 : decode b_Ce_findType 71 = .ok (.l2i, 1) := by decide +kernel
theorem d_Ce_findType_72 : decode b_Ce_findType 72 = .ok (.putfield 157, 3) := by decide +kernel
theorem d_Ce_findType_75 : decode b_Ce_findType 75 = .ok (.iconst 1, 1) := by decide +kernel
theorem d_Ce_findType_76 : decode b_Ce_findType 76 = .ok (.ireturn, 1) := by decide +kernel
theorem d_Ce_findType_77 : decode b_Ce_findType 77 = .ok (.iinc 2 1, 3) := by decide +kernel
theorem d_Ce_findType_80 : decode b_Ce_findType 80 = .ok (.goto (-64), 3) := by decide +kernel
theorem d_Ce_findType_83 : decode b_Ce_findType 83 = .ok (.iconst 0, 1) := by decide +kernel
theorem d_Ce_findType_84 : decode b_Ce_findType 84 = .ok (.ireturn, 1) := by decide +kernel
abbrev b_Ce_judgeShown : ByteArray := prog_5_method_11_code
def y_Ce_judgeShown : MethodName := ⟨R_Ce, "judgeShown", "()I"⟩
abbrev k_Ce_judgeShown : Cond := .code y_Ce_judgeShown b_Ce_judgeShown 6 (some .int)
theorem ki_Ce_judgeShown : k_Ce_judgeShown ∈ lw_tg := in_t 1137 (by decide +kernel)
theorem ks_Ce_judgeShown : Cond.instanceMethod y_Ce_judgeShown ∈ lw_tg := in_t 1136 (by decide +kernel)
theorem kx_Ce_judgeShown : Cond.selects R_Ce y_Ce_judgeShown y_Ce_judgeShown ∈ lw_tg := List.mem_filter.mpr ⟨List.mem_append_left _ (List.mem_of_getElem? (i := 31) (by decide +kernel)), rfl⟩
theorem kl_Ce_Ce_judgeShown : Cond.methodLink R_Ce 126 y_Ce_judgeShown ∈ lw_tg := in_t 1134 (by decide +kernel)
theorem hd_Ce_judgeShown : y_Ce_judgeShown.cls = R_Ce ∧ y_Ce_judgeShown.cls ≠ "java/lang/invoke/MethodHandle" ∧ y_Ce_judgeShown.cls ≠ "java/lang/invoke/VarHandle" ∧ (parseMethodDescriptor y_Ce_judgeShown.desc).map (fun d => d.parameters.length) = some 0 := by decide +kernel
theorem d_Ce_judgeShown_0 : decode b_Ce_judgeShown 0 = .ok (.aload_n 0, 1) := by decide +kernel
theorem d_Ce_judgeShown_1 : decode b_Ce_judgeShown 1 = .ok (.iconst 2, 1) := by decide +kernel
theorem d_Ce_judgeShown_2 : decode b_Ce_judgeShown 2 = .ok (.invokevirtual 91, 3) := by decide +kernel
theorem d_Ce_judgeShown_5 : decode b_Ce_judgeShown 5 = .ok (.istore_n 1, 1) := by decide +kernel
theorem d_Ce_judgeShown_6 : decode b_Ce_judgeShown 6 = .ok (.iload_n 1, 1) := by decide +kernel
theorem d_Ce_judgeShown_7 : decode b_Ce_judgeShown 7 = .ok (.ifCond .ge 6, 3) := by decide +kernel
theorem d_Ce_judgeShown_10 : decode b_Ce_judgeShown 10 = .ok (.bipush 25, 2) := by decide +kernel
theorem d_Ce_judgeShown_12 : decode b_Ce_judgeShown 12 = .ok (.ireturn, 1) := by decide +kernel
theorem d_Ce_judgeShown_13 : decode b_Ce_judgeShown 13 = .ok (.aload_n 0, 1) := by decide +kernel
theorem d_Ce_judgeShown_14 : decode b_Ce_judgeShown 14 = .ok (.getfield 30, 3) := by decide +kernel
theorem d_Ce_judgeShown_17 : decode b_Ce_judgeShown 17 = .ok (.iload_n 1, 1) := by decide +kernel
theorem d_Ce_judgeShown_18 : decode b_Ce_judgeShown 18 = .ok (.invokevirtual 160, 3) := by decide +kernel
theorem d_Ce_judgeShown_21 : decode b_Ce_judgeShown 21 = .ok (.istore_n 2, 1) := by decide +kernel
theorem d_Ce_judgeShown_22 : decode b_Ce_judgeShown 22 = .ok (.aload_n 0, 1) := by decide +kernel
theorem d_Ce_judgeShown_23 : decode b_Ce_judgeShown 23 = .ok (.getfield 30, 3) := by decide +kernel
theorem d_Ce_judgeShown_26 : decode b_Ce_judgeShown 26 = .ok (.bipush 101, 2) := by decide +kernel
theorem d_Ce_judgeShown_28 : decode b_Ce_judgeShown 28 = .ok (.iload_n 2, 1) := by decide +kernel
theorem d_Ce_judgeShown_29 : decode b_Ce_judgeShown 29 = .ok (.aload_n 0, 1) := by decide +kernel
theorem d_Ce_judgeShown_30 : decode b_Ce_judgeShown 30 = .ok (.getfield 30, 3) := by decide +kernel
theorem d_Ce_judgeShown_33 : decode b_Ce_judgeShown 33 = .ok (.iload_n 1, 1) := by decide +kernel
theorem d_Ce_judgeShown_34 : decode b_Ce_judgeShown 34 = .ok (.aload_n 0, 1) := by decide +kernel
theorem d_Ce_judgeShown_35 : decode b_Ce_judgeShown 35 = .ok (.getfield 30, 3) := by decide +kernel
theorem d_Ce_judgeShown_38 : decode b_Ce_judgeShown 38 = .ok (.getfield 69, 3) := by decide +kernel
theorem d_Ce_judgeShown_41 : decode b_Ce_judgeShown 41 = .ok (.invokevirtual 162, 3) := by decide +kernel
theorem d_Ce_judgeShown_44 : decode b_Ce_judgeShown 44 = .ok (.invokevirtual 72, 3) := by decide +kernel
theorem d_Ce_judgeShown_47 : decode b_Ce_judgeShown 47 = .ok (.ifCond .ne 6, 3) := by decide +kernel
theorem d_Ce_judgeShown_50 : decode b_Ce_judgeShown 50 = .ok (.bipush 24, 2) := by decide +kernel
theorem d_Ce_judgeShown_52 : decode b_Ce_judgeShown 52 = .ok (.ireturn, 1) := by decide +kernel
theorem d_Ce_judgeShown_53 : decode b_Ce_judgeShown 53 = .ok (.aload_n 0, 1) := by decide +kernel
theorem d_Ce_judgeShown_54 : decode b_Ce_judgeShown 54 = .ok (.getfield 30, 3) := by decide +kernel
theorem d_Ce_judgeShown_57 : decode b_Ce_judgeShown 57 = .ok (.aload_n 0, 1) := by decide +kernel
theorem d_Ce_judgeShown_58 : decode b_Ce_judgeShown 58 = .ok (.getfield 30, 3) := by decide +kernel
theorem d_Ce_judgeShown_61 : decode b_Ce_judgeShown 61 = .ok (.iload_n 2, 1) := by decide +kernel
theorem d_Ce_judgeShown_62 : decode b_Ce_judgeShown 62 = .ok (.iconst 0, 1) := by decide +kernel
theorem d_Ce_judgeShown_63 : decode b_Ce_judgeShown 63 = .ok (.invokevirtual 48, 3) := by decide +kernel
theorem d_Ce_judgeShown_66 : decode b_Ce_judgeShown 66 = .ok (.invokevirtual 57, 3) := by decide +kernel
theorem d_Ce_judgeShown_69 : decode b_Ce_judgeShown 69 = .ok (.lstore_n 3, 1) := by decide +kernel
theorem d_Ce_judgeShown_70 : decode b_Ce_judgeShown 70 = .ok (.aload_n 0, 1) := by decide +kernel
theorem d_Ce_judgeShown_71 : decode b_Ce_judgeShown 71 = .ok (.getfield 18, 3) := by decide +kernel
theorem d_Ce_judgeShown_74 : decode b_Ce_judgeShown 74 = .ok (.getfield 165, 3) := by decide +kernel
theorem d_Ce_judgeShown_77 : decode b_Ce_judgeShown 77 = .ok (.astore 5, 2) := by decide +kernel
theorem d_Ce_judgeShown_79 : decode b_Ce_judgeShown 79 = .ok (.lload_n 3, 1) := by decide +kernel
theorem d_Ce_judgeShown_80 : decode b_Ce_judgeShown 80 = .ok (.ldc2_w 153, 3) := by decide +kernel
theorem d_Ce_judgeShown_83 : decode b_Ce_judgeShown 83 = .ok (.lcmp, 1) := by decide +kernel
theorem d_Ce_judgeShown_84 : decode b_Ce_judgeShown 84 = .ok (.ifCond .eq 11, 3) := by decide +kernel
theorem d_Ce_judgeShown_87 : decode b_Ce_judgeShown 87 = .ok (.lload_n 3, 1) := by decide +kernel
theorem d_Ce_judgeShown_88 : decode b_Ce_judgeShown 88 = .ok (.ldc2_w 155, 3) := by decide +kernel
theorem d_Ce_judgeShown_91 : decode b_Ce_judgeShown 91 = .ok (.lcmp, 1) := by decide +kernel
theorem d_Ce_judgeShown_92 : decode b_Ce_judgeShown 92 = .ok (.ifCond .ne 45, 3) := by decide +kernel
theorem d_Ce_judgeShown_95 : decode b_Ce_judgeShown 95 = .ok (.aload_n 0, 1) := by decide +kernel
theorem d_Ce_judgeShown_96 : decode b_Ce_judgeShown 96 = .ok (.getfield 18, 3) := by decide +kernel
theorem d_Ce_judgeShown_99 : decode b_Ce_judgeShown 99 = .ok (.aload_n 0, 1) := by decide +kernel
theorem d_Ce_judgeShown_100 : decode b_Ce_judgeShown 100 = .ok (.getfield 30, 3) := by decide +kernel
theorem d_Ce_judgeShown_103 : decode b_Ce_judgeShown 103 = .ok (.iload_n 2, 1) := by decide +kernel
theorem d_Ce_judgeShown_104 : decode b_Ce_judgeShown 104 = .ok (.aload_n 0, 1) := by decide +kernel
theorem d_Ce_judgeShown_105 : decode b_Ce_judgeShown 105 = .ok (.getfield 37, 3) := by decide +kernel
theorem d_Ce_judgeShown_108 : decode b_Ce_judgeShown 108 = .ok (.lload_n 3, 1) := by decide +kernel
theorem d_Ce_judgeShown_109 : decode b_Ce_judgeShown 109 = .ok (.invokevirtual 168, 3) := by decide +kernel
theorem d_Ce_judgeShown_112 : decode b_Ce_judgeShown 112 = .ok (.iconst 1, 1) := by decide +kernel
theorem d_Ce_judgeShown_113 : decode b_Ce_judgeShown 113 = .ok (.aload 5, 2) := by decide +kernel
theorem d_Ce_judgeShown_115 : decode b_Ce_judgeShown 115 = .ok (.invokevirtual 172, 3) := by decide +kernel
theorem d_Ce_judgeShown_118 : decode b_Ce_judgeShown 118 = .ok (.ifCond .eq 19, 3) := by decide +kernel
theorem d_Ce_judgeShown_121 : decode b_Ce_judgeShown 121 = .ok (.aload 5, 2) := by decide +kernel
theorem d_Ce_judgeShown_123 : decode b_Ce_judgeShown 123 = .ok (.bipush 120, 2) := by decide +kernel
theorem d_Ce_judgeShown_125 : decode b_Ce_judgeShown 125 = .ok (.iconst 0, 1) := by decide +kernel
theorem d_Ce_judgeShown_126 : decode b_Ce_judgeShown 126 = .ok (.aload 5, 2) := by decide +kernel
theorem d_Ce_judgeShown_128 : decode b_Ce_judgeShown 128 = .ok (.getfield 69, 3) := by decide +kernel
theorem d_Ce_judgeShown_131 : decode b_Ce_judgeShown 131 = .ok (.invokevirtual 72, 3) := by decide +kernel
theorem d_Ce_judgeShown_134 : decode b_Ce_judgeShown 134 = .ok (.ifCond .ne 6, 3) := by decide +kernel
theorem d_Ce_judgeShown_137 : decode b_Ce_judgeShown 137 = .ok (.bipush 24, 2) := by decide +kernel
theorem d_Ce_judgeShown_139 : decode b_Ce_judgeShown 139 = .ok (.ireturn, 1) := by decide +kernel
theorem d_Ce_judgeShown_140 : decode b_Ce_judgeShown 140 = .ok (.aload 5, 2) := by decide +kernel
theorem d_Ce_judgeShown_142 : decode b_Ce_judgeShown 142 = .ok (.aload 5, 2) := by decide +kernel
theorem d_Ce_judgeShown_144 : decode b_Ce_judgeShown 144 = .ok (.iconst 0, 1) := by decide +kernel
theorem d_Ce_judgeShown_145 : decode b_Ce_judgeShown 145 = .ok (.iconst 0, 1) := by decide +kernel
theorem d_Ce_judgeShown_146 : decode b_Ce_judgeShown 146 = .ok (.invokevirtual 48, 3) := by decide +kernel
theorem d_Ce_judgeShown_149 : decode b_Ce_judgeShown 149 = .ok (.invokevirtual 109, 3) := by decide +kernel
theorem d_Ce_judgeShown_152 : decode b_Ce_judgeShown 152 = .ok (.aload_n 0, 1) := by decide +kernel
theorem d_Ce_judgeShown_153 : decode b_Ce_judgeShown 153 = .ok (.getfield 18, 3) := by decide +kernel
theorem d_Ce_judgeShown_156 : decode b_Ce_judgeShown 156 = .ok (.getfield 112, 3) := by decide +kernel
theorem d_Ce_judgeShown_159 : decode b_Ce_judgeShown 159 = .ok (.isub, 1) := by decide +kernel
theorem d_Ce_judgeShown_160 : decode b_Ce_judgeShown 160 = .ok (.invokestatic 176, 3) := by decide +kernel
theorem d_Ce_judgeShown_163 : decode b_Ce_judgeShown 163 = .ok (.sipush 300, 3) := by decide +kernel
theorem d_Ce_judgeShown_166 : decode b_Ce_judgeShown 166 = .ok (.if_icmp .le 8, 3) := by decide +kernel
theorem d_Ce_judgeShown_169 : decode b_Ce_judgeShown 169 = .ok (.bipush 37, 2) := by decide +kernel
theorem d_Ce_judgeShown_171 : decode b_Ce_judgeShown 171 = .ok (.goto 4, 3) := by decide +kernel
theorem d_Ce_judgeShown_174 : decode b_Ce_judgeShown 174 = .ok (.iconst 0, 1) := by decide +kernel
theorem d_Ce_judgeShown_175 : decode b_Ce_judgeShown 175 = .ok (.ireturn, 1) := by decide +kernel
abbrev b_Ce_judgeSum : ByteArray := prog_5_method_12_code
def y_Ce_judgeSum : MethodName := ⟨R_Ce, "judgeSum", "()I"⟩
abbrev k_Ce_judgeSum : Cond := .code y_Ce_judgeSum b_Ce_judgeSum 2 (some .int)
theorem ki_Ce_judgeSum : k_Ce_judgeSum ∈ lw_tg := in_t 1197 (by decide +kernel)
theorem ks_Ce_judgeSum : Cond.instanceMethod y_Ce_judgeSum ∈ lw_tg := in_t 1196 (by decide +kernel)
theorem kx_Ce_judgeSum : Cond.selects R_Ce y_Ce_judgeSum y_Ce_judgeSum ∈ lw_tg := List.mem_filter.mpr ⟨List.mem_append_left _ (List.mem_of_getElem? (i := 38) (by decide +kernel)), rfl⟩
theorem kl_Ce_Ce_judgeSum : Cond.methodLink R_Ce 132 y_Ce_judgeSum ∈ lw_tg := in_t 1194 (by decide +kernel)
theorem hd_Ce_judgeSum : y_Ce_judgeSum.cls = R_Ce ∧ y_Ce_judgeSum.cls ≠ "java/lang/invoke/MethodHandle" ∧ y_Ce_judgeSum.cls ≠ "java/lang/invoke/VarHandle" ∧ (parseMethodDescriptor y_Ce_judgeSum.desc).map (fun d => d.parameters.length) = some 0 := by decide +kernel
theorem d_Ce_judgeSum_0 : decode b_Ce_judgeSum 0 = .ok (.aload_n 0, 1) := by decide +kernel
theorem d_Ce_judgeSum_1 : decode b_Ce_judgeSum 1 = .ok (.getfield 22, 3) := by decide +kernel
theorem d_Ce_judgeSum_4 : decode b_Ce_judgeSum 4 = .ok (.getfield 181, 3) := by decide +kernel
theorem d_Ce_judgeSum_7 : decode b_Ce_judgeSum 7 = .ok (.iconst 0, 1) := by decide +kernel
theorem d_Ce_judgeSum_8 : decode b_Ce_judgeSum 8 = .ok (.iconst 3, 1) := by decide +kernel
theorem d_Ce_judgeSum_9 : decode b_Ce_judgeSum 9 = .ok (.invokevirtual 48, 3) := by decide +kernel
theorem d_Ce_judgeSum_12 : decode b_Ce_judgeSum 12 = .ok (.istore_n 1, 1) := by decide +kernel
theorem d_Ce_judgeSum_13 : decode b_Ce_judgeSum 13 = .ok (.iload_n 1, 1) := by decide +kernel
theorem d_Ce_judgeSum_14 : decode b_Ce_judgeSum 14 = .ok (.ifCond .lt 24, 3) := by decide +kernel
theorem d_Ce_judgeSum_17 : decode b_Ce_judgeSum 17 = .ok (.aload_n 0, 1) := by decide +kernel
theorem d_Ce_judgeSum_18 : decode b_Ce_judgeSum 18 = .ok (.getfield 22, 3) := by decide +kernel
theorem d_Ce_judgeSum_21 : decode b_Ce_judgeSum 21 = .ok (.getfield 184, 3) := by decide +kernel
theorem d_Ce_judgeSum_24 : decode b_Ce_judgeSum 24 = .ok (.aload_n 0, 1) := by decide +kernel
theorem d_Ce_judgeSum_25 : decode b_Ce_judgeSum 25 = .ok (.getfield 22, 3) := by decide +kernel
theorem d_Ce_judgeSum_28 : decode b_Ce_judgeSum 28 = .ok (.getfield 181, 3) := by decide +kernel
theorem d_Ce_judgeSum_31 : decode b_Ce_judgeSum 31 = .ok (.iload_n 1, 1) := by decide +kernel
theorem d_Ce_judgeSum_32 : decode b_Ce_judgeSum 32 = .ok (.invokestatic 188, 3) := by decide +kernel
theorem d_Ce_judgeSum_35 : decode b_Ce_judgeSum 35 = .ok (.ifCond .ne 6, 3) := by decide +kernel
theorem d_Ce_judgeSum_38 : decode b_Ce_judgeSum 38 = .ok (.bipush 50, 2) := by decide +kernel
theorem d_Ce_judgeSum_40 : decode b_Ce_judgeSum 40 = .ok (.ireturn, 1) := by decide +kernel
theorem d_Ce_judgeSum_41 : decode b_Ce_judgeSum 41 = .ok (.aload_n 0, 1) := by decide +kernel
theorem d_Ce_judgeSum_42 : decode b_Ce_judgeSum 42 = .ok (.getfield 18, 3) := by decide +kernel
theorem d_Ce_judgeSum_45 : decode b_Ce_judgeSum 45 = .ok (.aload_n 0, 1) := by decide +kernel
theorem d_Ce_judgeSum_46 : decode b_Ce_judgeSum 46 = .ok (.getfield 22, 3) := by decide +kernel
theorem d_Ce_judgeSum_49 : decode b_Ce_judgeSum 49 = .ok (.getfield 184, 3) := by decide +kernel
theorem d_Ce_judgeSum_52 : decode b_Ce_judgeSum 52 = .ok (.bipush 6, 2) := by decide +kernel
theorem d_Ce_judgeSum_54 : decode b_Ce_judgeSum 54 = .ok (.aload_n 0, 1) := by decide +kernel
theorem d_Ce_judgeSum_55 : decode b_Ce_judgeSum 55 = .ok (.getfield 30, 3) := by decide +kernel
theorem d_Ce_judgeSum_58 : decode b_Ce_judgeSum 58 = .ok (.aload_n 0, 1) := by decide +kernel
theorem d_Ce_judgeSum_59 : decode b_Ce_judgeSum 59 = .ok (.getfield 81, 3) := by decide +kernel
theorem d_Ce_judgeSum_62 : decode b_Ce_judgeSum 62 = .ok (.aload_n 0, 1) := by decide +kernel
theorem d_Ce_judgeSum_63 : decode b_Ce_judgeSum 63 = .ok (.getfield 30, 3) := by decide +kernel
theorem d_Ce_judgeSum_66 : decode b_Ce_judgeSum 66 = .ok (.aload_n 0, 1) := by decide +kernel
theorem d_Ce_judgeSum_67 : decode b_Ce_judgeSum 67 = .ok (.getfield 81, 3) := by decide +kernel
theorem d_Ce_judgeSum_70 : decode b_Ce_judgeSum 70 = .ok (.aload_n 0, 1) := by decide +kernel
theorem d_Ce_judgeSum_71 : decode b_Ce_judgeSum 71 = .ok (.getfield 30, 3) := by decide +kernel
theorem d_Ce_judgeSum_74 : decode b_Ce_judgeSum 74 = .ok (.getfield 69, 3) := by decide +kernel
theorem d_Ce_judgeSum_77 : decode b_Ce_judgeSum 77 = .ok (.invokevirtual 162, 3) := by decide +kernel
theorem d_Ce_judgeSum_80 : decode b_Ce_judgeSum 80 = .ok (.invokevirtual 192, 3) := by decide +kernel
theorem d_Ce_judgeSum_83 : decode b_Ce_judgeSum 83 = .ok (.aload_n 0, 1) := by decide +kernel
theorem d_Ce_judgeSum_84 : decode b_Ce_judgeSum 84 = .ok (.getfield 18, 3) := by decide +kernel
theorem d_Ce_judgeSum_87 : decode b_Ce_judgeSum 87 = .ok (.aload_n 0, 1) := by decide +kernel
theorem d_Ce_judgeSum_88 : decode b_Ce_judgeSum 88 = .ok (.getfield 22, 3) := by decide +kernel
theorem d_Ce_judgeSum_91 : decode b_Ce_judgeSum 91 = .ok (.getfield 181, 3) := by decide +kernel
theorem d_Ce_judgeSum_94 : decode b_Ce_judgeSum 94 = .ok (.iload_n 1, 1) := by decide +kernel
theorem d_Ce_judgeSum_95 : decode b_Ce_judgeSum 95 = .ok (.invokevirtual 196, 3) := by decide +kernel
theorem d_Ce_judgeSum_98 : decode b_Ce_judgeSum 98 = .ok (.ifCond .eq 7, 3) := by decide +kernel
theorem d_Ce_judgeSum_101 : decode b_Ce_judgeSum 101 = .ok (.iconst 0, 1) := by decide +kernel
theorem d_Ce_judgeSum_102 : decode b_Ce_judgeSum 102 = .ok (.goto 5, 3) := by decide +kernel
theorem d_Ce_judgeSum_105 : decode b_Ce_judgeSum 105 = .ok (.bipush 41, 2) := by decide +kernel
theorem d_Ce_judgeSum_107 : decode b_Ce_judgeSum 107 = .ok (.ireturn, 1) := by decide +kernel
abbrev b_Ce_ticketFlags : ByteArray := prog_5_method_13_code
def y_Ce_ticketFlags : MethodName := ⟨R_Ce, "ticketFlags", "()I"⟩
abbrev k_Ce_ticketFlags : Cond := .code y_Ce_ticketFlags b_Ce_ticketFlags 1 (some .int)
theorem ki_Ce_ticketFlags : k_Ce_ticketFlags ∈ lw_tg := in_t 1164 (by decide +kernel)
theorem ks_Ce_ticketFlags : Cond.instanceMethod y_Ce_ticketFlags ∈ lw_tg := in_t 1163 (by decide +kernel)
theorem kx_Ce_ticketFlags : Cond.selects R_Ce y_Ce_ticketFlags y_Ce_ticketFlags ∈ lw_tg := List.mem_filter.mpr ⟨List.mem_append_left _ (List.mem_of_getElem? (i := 34) (by decide +kernel)), rfl⟩
theorem kl_Ce_Ce_ticketFlags : Cond.methodLink R_Ce 201 y_Ce_ticketFlags ∈ lw_tg := in_t 1161 (by decide +kernel)
theorem hd_Ce_ticketFlags : y_Ce_ticketFlags.cls = R_Ce ∧ y_Ce_ticketFlags.cls ≠ "java/lang/invoke/MethodHandle" ∧ y_Ce_ticketFlags.cls ≠ "java/lang/invoke/VarHandle" ∧ (parseMethodDescriptor y_Ce_ticketFlags.desc).map (fun d => d.parameters.length) = some 0 := by decide +kernel
theorem d_Ce_ticketFlags_0 : decode b_Ce_ticketFlags 0 = .ok (.aload_n 0, 1) := by decide +kernel
theorem d_Ce_ticketFlags_1 : decode b_Ce_ticketFlags 1 = .ok (.getfield 22, 3) := by decide +kernel
theorem d_Ce_ticketFlags_4 : decode b_Ce_ticketFlags 4 = .ok (.getfield 140, 3) := by decide +kernel
theorem d_Ce_ticketFlags_7 : decode b_Ce_ticketFlags 7 = .ok (.aload_n 0, 1) := by decide +kernel
theorem d_Ce_ticketFlags_8 : decode b_Ce_ticketFlags 8 = .ok (.getfield 22, 3) := by decide +kernel
theorem d_Ce_ticketFlags_11 : decode b_Ce_ticketFlags 11 = .ok (.getfield 140, 3) := by decide +kernel
theorem d_Ce_ticketFlags_14 : decode b_Ce_ticketFlags 14 = .ok (.iconst 0, 1) := by decide +kernel
theorem d_Ce_ticketFlags_15 : decode b_Ce_ticketFlags 15 = .ok (.iconst 0, 1) := by decide +kernel
theorem d_Ce_ticketFlags_16 : decode b_Ce_ticketFlags 16 = .ok (.invokevirtual 48, 3) := by decide +kernel
theorem d_Ce_ticketFlags_19 : decode b_Ce_ticketFlags 19 = .ok (.invokevirtual 84, 3) := by decide +kernel
theorem d_Ce_ticketFlags_22 : decode b_Ce_ticketFlags 22 = .ok (.ireturn, 1) := by decide +kernel
abbrev b_Ce_judgeWishes : ByteArray := prog_5_method_14_code
def y_Ce_judgeWishes : MethodName := ⟨R_Ce, "judgeWishes", "()I"⟩
abbrev k_Ce_judgeWishes : Cond := .code y_Ce_judgeWishes b_Ce_judgeWishes 4 (some .int)
theorem ki_Ce_judgeWishes : k_Ce_judgeWishes ∈ lw_tg := in_t 1217 (by decide +kernel)
theorem ks_Ce_judgeWishes : Cond.instanceMethod y_Ce_judgeWishes ∈ lw_tg := in_t 1216 (by decide +kernel)
theorem kx_Ce_judgeWishes : Cond.selects R_Ce y_Ce_judgeWishes y_Ce_judgeWishes ∈ lw_tg := List.mem_filter.mpr ⟨List.mem_append_left _ (List.mem_of_getElem? (i := 39) (by decide +kernel)), rfl⟩
theorem kl_Ce_Ce_judgeWishes : Cond.methodLink R_Ce 143 y_Ce_judgeWishes ∈ lw_tg := in_t 1214 (by decide +kernel)
theorem hd_Ce_judgeWishes : y_Ce_judgeWishes.cls = R_Ce ∧ y_Ce_judgeWishes.cls ≠ "java/lang/invoke/MethodHandle" ∧ y_Ce_judgeWishes.cls ≠ "java/lang/invoke/VarHandle" ∧ (parseMethodDescriptor y_Ce_judgeWishes.desc).map (fun d => d.parameters.length) = some 0 := by decide +kernel
theorem d_Ce_judgeWishes_0 : decode b_Ce_judgeWishes 0 = .ok (.aload_n 0, 1) := by decide +kernel
theorem d_Ce_judgeWishes_1 : decode b_Ce_judgeWishes 1 = .ok (.ldc 200, 2) := by decide +kernel
theorem d_Ce_judgeWishes_3 : decode b_Ce_judgeWishes 3 = .ok (.invokevirtual 103, 3) := by decide +kernel
theorem d_Ce_judgeWishes_6 : decode b_Ce_judgeWishes 6 = .ok (.ifCond .ne 25, 3) := by decide +kernel
theorem d_Ce_judgeWishes_9 : decode b_Ce_judgeWishes 9 = .ok (.aload_n 0, 1) := by decide +kernel
theorem d_Ce_judgeWishes_10 : decode b_Ce_judgeWishes 10 = .ok (.getfield 30, 3) := by decide +kernel
theorem d_Ce_judgeWishes_13 : decode b_Ce_judgeWishes 13 = .ok (.aload_n 0, 1) := by decide +kernel
theorem d_Ce_judgeWishes_14 : decode b_Ce_judgeWishes 14 = .ok (.getfield 30, 3) := by decide +kernel
theorem d_Ce_judgeWishes_17 : decode b_Ce_judgeWishes 17 = .ok (.aload_n 0, 1) := by decide +kernel
theorem d_Ce_judgeWishes_18 : decode b_Ce_judgeWishes 18 = .ok (.getfield 81, 3) := by decide +kernel
theorem d_Ce_judgeWishes_21 : decode b_Ce_judgeWishes 21 = .ok (.iconst 0, 1) := by decide +kernel
theorem d_Ce_judgeWishes_22 : decode b_Ce_judgeWishes 22 = .ok (.invokevirtual 48, 3) := by decide +kernel
theorem d_Ce_judgeWishes_25 : decode b_Ce_judgeWishes 25 = .ok (.invokevirtual 106, 3) := by decide +kernel
theorem d_Ce_judgeWishes_28 : decode b_Ce_judgeWishes 28 = .ok (.ifCond .eq 6, 3) := by decide +kernel
theorem d_Ce_judgeWishes_31 : decode b_Ce_judgeWishes 31 = .ok (.bipush 13, 2) := by decide +kernel
theorem d_Ce_judgeWishes_33 : decode b_Ce_judgeWishes 33 = .ok (.ireturn, 1) := by decide +kernel
theorem d_Ce_judgeWishes_34 : decode b_Ce_judgeWishes 34 = .ok (.aload_n 0, 1) := by decide +kernel
theorem d_Ce_judgeWishes_35 : decode b_Ce_judgeWishes 35 = .ok (.getfield 41, 3) := by decide +kernel
theorem d_Ce_judgeWishes_38 : decode b_Ce_judgeWishes 38 = .ok (.aload_n 0, 1) := by decide +kernel
theorem d_Ce_judgeWishes_39 : decode b_Ce_judgeWishes 39 = .ok (.getfield 26, 3) := by decide +kernel
theorem d_Ce_judgeWishes_42 : decode b_Ce_judgeWishes 42 = .ok (.iconst 0, 1) := by decide +kernel
theorem d_Ce_judgeWishes_43 : decode b_Ce_judgeWishes 43 = .ok (.aaload, 1) := by decide +kernel
theorem d_Ce_judgeWishes_44 : decode b_Ce_judgeWishes 44 = .ok (.if_acmp .ne 7, 3) := by decide +kernel
theorem d_Ce_judgeWishes_47 : decode b_Ce_judgeWishes 47 = .ok (.iconst 1, 1) := by decide +kernel
theorem d_Ce_judgeWishes_48 : decode b_Ce_judgeWishes 48 = .ok (.goto 4, 3) := by decide +kernel
theorem d_Ce_judgeWishes_51 : decode b_Ce_judgeWishes 51 = .ok (.iconst 0, 1) := by decide +kernel
theorem d_Ce_judgeWishes_52 : decode b_Ce_judgeWishes 52 = .ok (.istore_n 1, 1) := by decide +kernel
theorem d_Ce_judgeWishes_53 : decode b_Ce_judgeWishes 53 = .ok (.aload_n 0, 1) := by decide +kernel
theorem d_Ce_judgeWishes_54 : decode b_Ce_judgeWishes 54 = .ok (.invokevirtual 201, 3) := by decide +kernel
theorem d_Ce_judgeWishes_57 : decode b_Ce_judgeWishes 57 = .ok (.istore_n 2, 1) := by decide +kernel
theorem d_Ce_judgeWishes_58 : decode b_Ce_judgeWishes 58 = .ok (.aload_n 0, 1) := by decide +kernel
theorem d_Ce_judgeWishes_59 : decode b_Ce_judgeWishes 59 = .ok (.getfield 22, 3) := by decide +kernel
theorem d_Ce_judgeWishes_62 : decode b_Ce_judgeWishes 62 = .ok (.getfield 140, 3) := by decide +kernel
theorem d_Ce_judgeWishes_65 : decode b_Ce_judgeWishes 65 = .ok (.aload_n 0, 1) := by decide +kernel
theorem d_Ce_judgeWishes_66 : decode b_Ce_judgeWishes 66 = .ok (.getfield 22, 3) := by decide +kernel
theorem d_Ce_judgeWishes_69 : decode b_Ce_judgeWishes 69 = .ok (.getfield 140, 3) := by decide +kernel
theorem d_Ce_judgeWishes_72 : decode b_Ce_judgeWishes 72 = .ok (.iconst 0, 1) := by decide +kernel
theorem d_Ce_judgeWishes_73 : decode b_Ce_judgeWishes 73 = .ok (.bipush 8, 2) := by decide +kernel
theorem d_Ce_judgeWishes_75 : decode b_Ce_judgeWishes 75 = .ok (.invokevirtual 48, 3) := by decide +kernel
theorem d_Ce_judgeWishes_78 : decode b_Ce_judgeWishes 78 = .ok (.invokevirtual 109, 3) := by decide +kernel
theorem d_Ce_judgeWishes_81 : decode b_Ce_judgeWishes 81 = .ok (.istore_n 3, 1) := by decide +kernel
theorem d_Ce_judgeWishes_82 : decode b_Ce_judgeWishes 82 = .ok (.aload_n 0, 1) := by decide +kernel
theorem d_Ce_judgeWishes_83 : decode b_Ce_judgeWishes 83 = .ok (.ldc 204, 2) := by decide +kernel
theorem d_Ce_judgeWishes_85 : decode b_Ce_judgeWishes 85 = .ok (.invokevirtual 103, 3) := by decide +kernel
theorem d_Ce_judgeWishes_88 : decode b_Ce_judgeWishes 88 = .ok (.ifCond .eq 13, 3) := by decide +kernel
theorem d_Ce_judgeWishes_91 : decode b_Ce_judgeWishes 91 = .ok (.iload_n 2, 1) := by decide +kernel
theorem d_Ce_judgeWishes_92 : decode b_Ce_judgeWishes 92 = .ok (.ldc 205, 2) := by decide +kernel
theorem d_Ce_judgeWishes_94 : decode b_Ce_judgeWishes 94 = .ok (.iand, 1) := by decide +kernel
theorem d_Ce_judgeWishes_95 : decode b_Ce_judgeWishes 95 = .ok (.ifCond .ne 6, 3) := by decide +kernel
theorem d_Ce_judgeWishes_98 : decode b_Ce_judgeWishes 98 = .ok (.bipush 13, 2) := by decide +kernel
theorem d_Ce_judgeWishes_100 : decode b_Ce_judgeWishes 100 = .ok (.ireturn, 1) := by decide +kernel
theorem d_Ce_judgeWishes_101 : decode b_Ce_judgeWishes 101 = .ok (.aload_n 0, 1) := by decide +kernel
theorem d_Ce_judgeWishes_102 : decode b_Ce_judgeWishes 102 = .ok (.ldc 206, 2) := by decide +kernel
theorem d_Ce_judgeWishes_104 : decode b_Ce_judgeWishes 104 = .ok (.invokevirtual 103, 3) := by decide +kernel
theorem d_Ce_judgeWishes_107 : decode b_Ce_judgeWishes 107 = .ok (.ifCond .eq 17, 3) := by decide +kernel
theorem d_Ce_judgeWishes_110 : decode b_Ce_judgeWishes 110 = .ok (.iload_n 2, 1) := by decide +kernel
theorem d_Ce_judgeWishes_111 : decode b_Ce_judgeWishes 111 = .ok (.ldc 207, 2) := by decide +kernel
theorem d_Ce_judgeWishes_113 : decode b_Ce_judgeWishes 113 = .ok (.iand, 1) := by decide +kernel
theorem d_Ce_judgeWishes_114 : decode b_Ce_judgeWishes 114 = .ok (.ifCond .eq 7, 3) := by decide +kernel
theorem d_Ce_judgeWishes_117 : decode b_Ce_judgeWishes 117 = .ok (.iload_n 1, 1) := by decide +kernel
theorem d_Ce_judgeWishes_118 : decode b_Ce_judgeWishes 118 = .ok (.ifCond .eq 6, 3) := by decide +kernel
theorem d_Ce_judgeWishes_121 : decode b_Ce_judgeWishes 121 = .ok (.bipush 13, 2) := by decide +kernel
theorem d_Ce_judgeWishes_123 : decode b_Ce_judgeWishes 123 = .ok (.ireturn, 1) := by decide +kernel
theorem d_Ce_judgeWishes_124 : decode b_Ce_judgeWishes 124 = .ok (.aload_n 0, 1) := by decide +kernel
theorem d_Ce_judgeWishes_125 : decode b_Ce_judgeWishes 125 = .ok (.iconst 2, 1) := by decide +kernel
theorem d_Ce_judgeWishes_126 : decode b_Ce_judgeWishes 126 = .ok (.invokevirtual 103, 3) := by decide +kernel
theorem d_Ce_judgeWishes_129 : decode b_Ce_judgeWishes 129 = .ok (.ifCond .eq 21, 3) := by decide +kernel
theorem d_Ce_judgeWishes_132 : decode b_Ce_judgeWishes 132 = .ok (.iload_n 2, 1) := by decide +kernel
theorem d_Ce_judgeWishes_133 : decode b_Ce_judgeWishes 133 = .ok (.ldc 208, 2) := by decide +kernel
theorem d_Ce_judgeWishes_135 : decode b_Ce_judgeWishes 135 = .ok (.iand, 1) := by decide +kernel
theorem d_Ce_judgeWishes_136 : decode b_Ce_judgeWishes 136 = .ok (.ifCond .eq 11, 3) := by decide +kernel
theorem d_Ce_judgeWishes_139 : decode b_Ce_judgeWishes 139 = .ok (.iload_n 3, 1) := by decide +kernel
theorem d_Ce_judgeWishes_140 : decode b_Ce_judgeWishes 140 = .ok (.ifCond .lt 7, 3) := by decide +kernel
theorem d_Ce_judgeWishes_143 : decode b_Ce_judgeWishes 143 = .ok (.iload_n 1, 1) := by decide +kernel
theorem d_Ce_judgeWishes_144 : decode b_Ce_judgeWishes 144 = .ok (.ifCond .ne 6, 3) := by decide +kernel
theorem d_Ce_judgeWishes_147 : decode b_Ce_judgeWishes 147 = .ok (.bipush 13, 2) := by decide +kernel
theorem d_Ce_judgeWishes_149 : decode b_Ce_judgeWishes 149 = .ok (.ireturn, 1) := by decide +kernel
theorem d_Ce_judgeWishes_150 : decode b_Ce_judgeWishes 150 = .ok (.aload_n 0, 1) := by decide +kernel
theorem d_Ce_judgeWishes_151 : decode b_Ce_judgeWishes 151 = .ok (.iconst 2, 1) := by decide +kernel
theorem d_Ce_judgeWishes_152 : decode b_Ce_judgeWishes 152 = .ok (.invokevirtual 103, 3) := by decide +kernel
theorem d_Ce_judgeWishes_155 : decode b_Ce_judgeWishes 155 = .ok (.ifCond .eq 19, 3) := by decide +kernel
theorem d_Ce_judgeWishes_158 : decode b_Ce_judgeWishes 158 = .ok (.iload_n 3, 1) := by decide +kernel
theorem d_Ce_judgeWishes_159 : decode b_Ce_judgeWishes 159 = .ok (.aload_n 0, 1) := by decide +kernel
theorem d_Ce_judgeWishes_160 : decode b_Ce_judgeWishes 160 = .ok (.getfield 18, 3) := by decide +kernel
theorem d_Ce_judgeWishes_163 : decode b_Ce_judgeWishes 163 = .ok (.getfield 112, 3) := by decide +kernel
theorem d_Ce_judgeWishes_166 : decode b_Ce_judgeWishes 166 = .ok (.if_icmp .gt 8, 3) := by decide +kernel
theorem d_Ce_judgeWishes_169 : decode b_Ce_judgeWishes 169 = .ok (.bipush 32, 2) := by decide +kernel
theorem d_Ce_judgeWishes_171 : decode b_Ce_judgeWishes 171 = .ok (.goto 4, 3) := by decide +kernel
theorem d_Ce_judgeWishes_174 : decode b_Ce_judgeWishes 174 = .ok (.iconst 0, 1) := by decide +kernel
theorem d_Ce_judgeWishes_175 : decode b_Ce_judgeWishes 175 = .ok (.ireturn, 1) := by decide +kernel
abbrev b_Ce_timeAsked : ByteArray := prog_5_method_15_code
def y_Ce_timeAsked : MethodName := ⟨R_Ce, "timeAsked", "(I)J"⟩
abbrev k_Ce_timeAsked : Cond := .code y_Ce_timeAsked b_Ce_timeAsked 3 (some .long)
theorem ki_Ce_timeAsked : k_Ce_timeAsked ∈ lw_tg := in_t 1169 (by decide +kernel)
theorem ks_Ce_timeAsked : Cond.instanceMethod y_Ce_timeAsked ∈ lw_tg := in_t 1168 (by decide +kernel)
theorem kx_Ce_timeAsked : Cond.selects R_Ce y_Ce_timeAsked y_Ce_timeAsked ∈ lw_tg := List.mem_filter.mpr ⟨List.mem_append_left _ (List.mem_of_getElem? (i := 35) (by decide +kernel)), rfl⟩
theorem kl_Ce_Ce_timeAsked : Cond.methodLink R_Ce 214 y_Ce_timeAsked ∈ lw_tg := in_t 1166 (by decide +kernel)
theorem hd_Ce_timeAsked : y_Ce_timeAsked.cls = R_Ce ∧ y_Ce_timeAsked.cls ≠ "java/lang/invoke/MethodHandle" ∧ y_Ce_timeAsked.cls ≠ "java/lang/invoke/VarHandle" ∧ (parseMethodDescriptor y_Ce_timeAsked.desc).map (fun d => d.parameters.length) = some 1 := by decide +kernel
theorem d_Ce_timeAsked_0 : decode b_Ce_timeAsked 0 = .ok (.aload_n 0, 1) := by decide +kernel
theorem d_Ce_timeAsked_1 : decode b_Ce_timeAsked 1 = .ok (.getfield 30, 3) := by decide +kernel
theorem d_Ce_timeAsked_4 : decode b_Ce_timeAsked 4 = .ok (.aload_n 0, 1) := by decide +kernel
theorem d_Ce_timeAsked_5 : decode b_Ce_timeAsked 5 = .ok (.getfield 30, 3) := by decide +kernel
theorem d_Ce_timeAsked_8 : decode b_Ce_timeAsked 8 = .ok (.aload_n 0, 1) := by decide +kernel
theorem d_Ce_timeAsked_9 : decode b_Ce_timeAsked 9 = .ok (.getfield 81, 3) := by decide +kernel
theorem d_Ce_timeAsked_12 : decode b_Ce_timeAsked 12 = .ok (.iload_n 1, 1) := by decide +kernel
theorem d_Ce_timeAsked_13 : decode b_Ce_timeAsked 13 = .ok (.invokevirtual 48, 3) := by decide +kernel
theorem d_Ce_timeAsked_16 : decode b_Ce_timeAsked 16 = .ok (.invokevirtual 109, 3) := by decide +kernel
theorem d_Ce_timeAsked_19 : decode b_Ce_timeAsked 19 = .ok (.istore_n 2, 1) := by decide +kernel
theorem d_Ce_timeAsked_20 : decode b_Ce_timeAsked 20 = .ok (.iload_n 2, 1) := by decide +kernel
theorem d_Ce_timeAsked_21 : decode b_Ce_timeAsked 21 = .ok (.ifCond .gt 9, 3) := by decide +kernel
theorem d_Ce_timeAsked_24 : decode b_Ce_timeAsked 24 = .ok (.ldc2_w 209, 3) := by decide +kernel
theorem d_Ce_timeAsked_27 : decode b_Ce_timeAsked 27 = .ok (.goto 5, 3) := by decide +kernel
theorem d_Ce_timeAsked_30 : decode b_Ce_timeAsked 30 = .ok (.iload_n 2, 1) := by decide +kernel
theorem d_Ce_timeAsked_31 : decode b_Ce_timeAsked 31 = .ok (.i2l, 1) := by decide +kernel
theorem d_Ce_timeAsked_32 : decode b_Ce_timeAsked 32 = .ok (.lreturn, 1) := by decide +kernel
abbrev b_Ce_setTimes : ByteArray := prog_5_method_16_code
def y_Ce_setTimes : MethodName := ⟨R_Ce, "setTimes", "()I"⟩
abbrev k_Ce_setTimes : Cond := .code y_Ce_setTimes b_Ce_setTimes 6 (some .int)
theorem ki_Ce_setTimes : k_Ce_setTimes ∈ lw_tg := in_t 1146 (by decide +kernel)
theorem ks_Ce_setTimes : Cond.instanceMethod y_Ce_setTimes ∈ lw_tg := in_t 1145 (by decide +kernel)
theorem kx_Ce_setTimes : Cond.selects R_Ce y_Ce_setTimes y_Ce_setTimes ∈ lw_tg := List.mem_filter.mpr ⟨List.mem_append_left _ (List.mem_of_getElem? (i := 32) (by decide +kernel)), rfl⟩
theorem kl_Ce_Ce_setTimes : Cond.methodLink R_Ce 129 y_Ce_setTimes ∈ lw_tg := in_t 1143 (by decide +kernel)
theorem hd_Ce_setTimes : y_Ce_setTimes.cls = R_Ce ∧ y_Ce_setTimes.cls ≠ "java/lang/invoke/MethodHandle" ∧ y_Ce_setTimes.cls ≠ "java/lang/invoke/VarHandle" ∧ (parseMethodDescriptor y_Ce_setTimes.desc).map (fun d => d.parameters.length) = some 0 := by decide +kernel
theorem d_Ce_setTimes_0 : decode b_Ce_setTimes 0 = .ok (.aload_n 0, 1) := by decide +kernel
theorem d_Ce_setTimes_1 : decode b_Ce_setTimes 1 = .ok (.getfield 65, 3) := by decide +kernel
theorem d_Ce_setTimes_4 : decode b_Ce_setTimes 4 = .ok (.ifCond .ne 16, 3) := by decide +kernel
theorem d_Ce_setTimes_7 : decode b_Ce_setTimes 7 = .ok (.aload_n 0, 1) := by decide +kernel
theorem d_Ce_setTimes_8 : decode b_Ce_setTimes 8 = .ok (.iconst 2, 1) := by decide +kernel
theorem d_Ce_setTimes_9 : decode b_Ce_setTimes 9 = .ok (.invokevirtual 103, 3) := by decide +kernel
theorem d_Ce_setTimes_12 : decode b_Ce_setTimes 12 = .ok (.ifCond .eq 8, 3) := by decide +kernel
theorem d_Ce_setTimes_15 : decode b_Ce_setTimes 15 = .ok (.aload_n 0, 1) := by decide +kernel
theorem d_Ce_setTimes_16 : decode b_Ce_setTimes 16 = .ok (.invokevirtual 211, 3) := by decide +kernel
theorem d_Ce_setTimes_19 : decode b_Ce_setTimes 19 = .ok (.ireturn, 1) := by decide +kernel
theorem d_Ce_setTimes_20 : decode b_Ce_setTimes 20 = .ok (.aload_n 0, 1) := by decide +kernel
theorem d_Ce_setTimes_21 : decode b_Ce_setTimes 21 = .ok (.iconst 5, 1) := by decide +kernel
theorem d_Ce_setTimes_22 : decode b_Ce_setTimes 22 = .ok (.invokevirtual 214, 3) := by decide +kernel
theorem d_Ce_setTimes_25 : decode b_Ce_setTimes 25 = .ok (.lstore_n 1, 1) := by decide +kernel
theorem d_Ce_setTimes_26 : decode b_Ce_setTimes 26 = .ok (.lload_n 1, 1) := by decide +kernel
theorem d_Ce_setTimes_27 : decode b_Ce_setTimes 27 = .ok (.aload_n 0, 1) := by decide +kernel
theorem d_Ce_setTimes_28 : decode b_Ce_setTimes 28 = .ok (.getfield 18, 3) := by decide +kernel
theorem d_Ce_setTimes_31 : decode b_Ce_setTimes 31 = .ok (.getfield 112, 3) := by decide +kernel
theorem d_Ce_setTimes_34 : decode b_Ce_setTimes 34 = .ok (.i2l, 1) := by decide +kernel
theorem d_Ce_setTimes_35 : decode b_Ce_setTimes 35 = .ok (.aload_n 0, 1) := by decide +kernel
theorem d_Ce_setTimes_36 : decode b_Ce_setTimes 36 = .ok (.getfield 37, 3) := by decide +kernel
theorem d_Ce_setTimes_39 : decode b_Ce_setTimes 39 = .ok (.getfield 217, 3) := by decide +kernel
theorem d_Ce_setTimes_42 : decode b_Ce_setTimes 42 = .ok (.aload_n 0, 1) := by decide +kernel
theorem d_Ce_setTimes_43 : decode b_Ce_setTimes 43 = .ok (.getfield 41, 3) := by decide +kernel
theorem d_Ce_setTimes_46 : decode b_Ce_setTimes 46 = .ok (.getfield 217, 3) := by decide +kernel
theorem d_Ce_setTimes_49 : decode b_Ce_setTimes 49 = .ok (.invokestatic 220, 3) := by decide +kernel
theorem d_Ce_setTimes_52 : decode b_Ce_setTimes 52 = .ok (.i2l, 1) := by decide +kernel
theorem d_Ce_setTimes_53 : decode b_Ce_setTimes 53 = .ok (.ladd, 1) := by decide +kernel
theorem d_Ce_setTimes_54 : decode b_Ce_setTimes 54 = .ok (.invokestatic 223, 3) := by decide +kernel
theorem d_Ce_setTimes_57 : decode b_Ce_setTimes 57 = .ok (.lstore_n 3, 1) := by decide +kernel
theorem d_Ce_setTimes_58 : decode b_Ce_setTimes 58 = .ok (.aload_n 0, 1) := by decide +kernel
theorem d_Ce_setTimes_59 : decode b_Ce_setTimes 59 = .ok (.getfield 65, 3) := by decide +kernel
theorem d_Ce_setTimes_62 : decode b_Ce_setTimes 62 = .ok (.ifCond .ne 32, 3) := by decide +kernel
theorem d_Ce_setTimes_65 : decode b_Ce_setTimes 65 = .ok (.lload_n 3, 1) := by decide +kernel
theorem d_Ce_setTimes_66 : decode b_Ce_setTimes 66 = .ok (.aload_n 0, 1) := by decide +kernel
theorem d_Ce_setTimes_67 : decode b_Ce_setTimes 67 = .ok (.getfield 22, 3) := by decide +kernel
theorem d_Ce_setTimes_70 : decode b_Ce_setTimes 70 = .ok (.getfield 140, 3) := by decide +kernel
theorem d_Ce_setTimes_73 : decode b_Ce_setTimes 73 = .ok (.aload_n 0, 1) := by decide +kernel
theorem d_Ce_setTimes_74 : decode b_Ce_setTimes 74 = .ok (.getfield 22, 3) := by decide +kernel
theorem d_Ce_setTimes_77 : decode b_Ce_setTimes 77 = .ok (.getfield 140, 3) := by decide +kernel
theorem d_Ce_setTimes_80 : decode b_Ce_setTimes 80 = .ok (.iconst 0, 1) := by decide +kernel
theorem d_Ce_setTimes_81 : decode b_Ce_setTimes 81 = .ok (.bipush 7, 2) := by decide +kernel
theorem d_Ce_setTimes_83 : decode b_Ce_setTimes 83 = .ok (.invokevirtual 48, 3) := by decide +kernel
theorem d_Ce_setTimes_86 : decode b_Ce_setTimes 86 = .ok (.invokevirtual 109, 3) := by decide +kernel
theorem d_Ce_setTimes_89 : decode b_Ce_setTimes 89 = .ok (.i2l, 1) := by decide +kernel
theorem d_Ce_setTimes_90 : decode b_Ce_setTimes 90 = .ok (.invokestatic 223, 3) := by decide +kernel
theorem d_Ce_setTimes_93 : decode b_Ce_setTimes 93 = .ok (.lstore_n 3, 1) := by decide +kernel
theorem d_Ce_setTimes_94 : decode b_Ce_setTimes 94 = .ok (.lload_n 3, 1) := by decide +kernel
theorem d_Ce_setTimes_95 : decode b_Ce_setTimes 95 = .ok (.aload_n 0, 1) := by decide +kernel
theorem d_Ce_setTimes_96 : decode b_Ce_setTimes 96 = .ok (.getfield 18, 3) := by decide +kernel
theorem d_Ce_setTimes_99 : decode b_Ce_setTimes 99 = .ok (.getfield 112, 3) := by decide +kernel
theorem d_Ce_setTimes_102 : decode b_Ce_setTimes 102 = .ok (.i2l, 1) := by decide +kernel
theorem d_Ce_setTimes_103 : decode b_Ce_setTimes 103 = .ok (.lcmp, 1) := by decide +kernel
theorem d_Ce_setTimes_104 : decode b_Ce_setTimes 104 = .ok (.ifCond .gt 6, 3) := by decide +kernel
theorem d_Ce_setTimes_107 : decode b_Ce_setTimes 107 = .ok (.bipush 11, 2) := by decide +kernel
theorem d_Ce_setTimes_109 : decode b_Ce_setTimes 109 = .ok (.ireturn, 1) := by decide +kernel
theorem d_Ce_setTimes_110 : decode b_Ce_setTimes 110 = .ok (.aload_n 0, 1) := by decide +kernel
theorem d_Ce_setTimes_111 : decode b_Ce_setTimes 111 = .ok (.lload_n 3, 1) := by decide +kernel
theorem d_Ce_setTimes_112 : decode b_Ce_setTimes 112 = .ok (.l2i, 1) := by decide +kernel
theorem d_Ce_setTimes_113 : decode b_Ce_setTimes 113 = .ok (.putfield 226, 3) := by decide +kernel
theorem d_Ce_setTimes_116 : decode b_Ce_setTimes 116 = .ok (.aload_n 0, 1) := by decide +kernel
theorem d_Ce_setTimes_117 : decode b_Ce_setTimes 117 = .ok (.bipush 16, 2) := by decide +kernel
theorem d_Ce_setTimes_119 : decode b_Ce_setTimes 119 = .ok (.invokevirtual 103, 3) := by decide +kernel
theorem d_Ce_setTimes_122 : decode b_Ce_setTimes 122 = .ok (.ifCond .eq 13, 3) := by decide +kernel
theorem d_Ce_setTimes_125 : decode b_Ce_setTimes 125 = .ok (.lload_n 1, 1) := by decide +kernel
theorem d_Ce_setTimes_126 : decode b_Ce_setTimes 126 = .ok (.lload_n 3, 1) := by decide +kernel
theorem d_Ce_setTimes_127 : decode b_Ce_setTimes 127 = .ok (.lcmp, 1) := by decide +kernel
theorem d_Ce_setTimes_128 : decode b_Ce_setTimes 128 = .ok (.ifCond .le 7, 3) := by decide +kernel
theorem d_Ce_setTimes_131 : decode b_Ce_setTimes 131 = .ok (.iconst 1, 1) := by decide +kernel
theorem d_Ce_setTimes_132 : decode b_Ce_setTimes 132 = .ok (.goto 4, 3) := by decide +kernel
theorem d_Ce_setTimes_135 : decode b_Ce_setTimes 135 = .ok (.iconst 0, 1) := by decide +kernel
theorem d_Ce_setTimes_136 : decode b_Ce_setTimes 136 = .ok (.istore 5, 2) := by decide +kernel
theorem d_Ce_setTimes_138 : decode b_Ce_setTimes 138 = .ok (.aload_n 0, 1) := by decide +kernel
theorem d_Ce_setTimes_139 : decode b_Ce_setTimes 139 = .ok (.aload_n 0, 1) := by decide +kernel
theorem d_Ce_setTimes_140 : decode b_Ce_setTimes 140 = .ok (.ldc 208, 2) := by decide +kernel
theorem d_Ce_setTimes_142 : decode b_Ce_setTimes 142 = .ok (.invokevirtual 103, 3) := by decide +kernel
theorem d_Ce_setTimes_145 : decode b_Ce_setTimes 145 = .ok (.ifCond .ne 8, 3) := by decide +kernel
theorem d_Ce_setTimes_148 : decode b_Ce_setTimes 148 = .ok (.iload 5, 2) := by decide +kernel
theorem d_Ce_setTimes_150 : decode b_Ce_setTimes 150 = .ok (.ifCond .eq 7, 3) := by decide +kernel
theorem d_Ce_setTimes_153 : decode b_Ce_setTimes 153 = .ok (.iconst 1, 1) := by decide +kernel
theorem d_Ce_setTimes_154 : decode b_Ce_setTimes 154 = .ok (.goto 4, 3) := by decide +kernel
theorem d_Ce_setTimes_157 : decode b_Ce_setTimes 157 = .ok (.iconst 0, 1) := by decide +kernel
theorem d_Ce_setTimes_158 : decode b_Ce_setTimes 158 = .ok (.invokevirtual 229, 3) := by decide +kernel
theorem d_Ce_setTimes_161 : decode b_Ce_setTimes 161 = .ok (.aload_n 0, 1) := by decide +kernel
theorem d_Ce_setTimes_162 : decode b_Ce_setTimes 162 = .ok (.aload_n 0, 1) := by decide +kernel
theorem d_Ce_setTimes_163 : decode b_Ce_setTimes 163 = .ok (.ldc 208, 2) := by decide +kernel
theorem d_Ce_setTimes_165 : decode b_Ce_setTimes 165 = .ok (.invokevirtual 103, 3) := by decide +kernel
theorem d_Ce_setTimes_168 : decode b_Ce_setTimes 168 = .ok (.ifCond .eq 12, 3) := by decide +kernel
theorem d_Ce_setTimes_171 : decode b_Ce_setTimes 171 = .ok (.aload_n 0, 1) := by decide +kernel
theorem d_Ce_setTimes_172 : decode b_Ce_setTimes 172 = .ok (.bipush 6, 2) := by decide +kernel
theorem d_Ce_setTimes_174 : decode b_Ce_setTimes 174 = .ok (.invokevirtual 214, 3) := by decide +kernel
theorem d_Ce_setTimes_177 : decode b_Ce_setTimes 177 = .ok (.goto 4, 3) := by decide +kernel
theorem d_Ce_setTimes_180 : decode b_Ce_setTimes 180 = .ok (.lload_n 1, 1) := by decide +kernel
theorem d_Ce_setTimes_181 : decode b_Ce_setTimes 181 = .ok (.invokevirtual 233, 3) := by decide +kernel
theorem d_Ce_setTimes_184 : decode b_Ce_setTimes 184 = .ok (.iconst 0, 1) := by decide +kernel
theorem d_Ce_setTimes_185 : decode b_Ce_setTimes 185 = .ok (.ireturn, 1) := by decide +kernel
abbrev b_Ce_setRenewed : ByteArray := prog_5_method_17_code
def y_Ce_setRenewed : MethodName := ⟨R_Ce, "setRenewed", "()I"⟩
abbrev k_Ce_setRenewed : Cond := .code y_Ce_setRenewed b_Ce_setRenewed 6 (some .int)
theorem ki_Ce_setRenewed : k_Ce_setRenewed ∈ lw_tg := in_t 1150 (by decide +kernel)
theorem ks_Ce_setRenewed : Cond.instanceMethod y_Ce_setRenewed ∈ lw_tg := in_t 1149 (by decide +kernel)
theorem kx_Ce_setRenewed : Cond.selects R_Ce y_Ce_setRenewed y_Ce_setRenewed ∈ lw_tg := List.mem_filter.mpr ⟨List.mem_append_left _ (List.mem_of_getElem? (i := 33) (by decide +kernel)), rfl⟩
theorem kl_Ce_Ce_setRenewed : Cond.methodLink R_Ce 211 y_Ce_setRenewed ∈ lw_tg := in_t 1147 (by decide +kernel)
theorem hd_Ce_setRenewed : y_Ce_setRenewed.cls = R_Ce ∧ y_Ce_setRenewed.cls ≠ "java/lang/invoke/MethodHandle" ∧ y_Ce_setRenewed.cls ≠ "java/lang/invoke/VarHandle" ∧ (parseMethodDescriptor y_Ce_setRenewed.desc).map (fun d => d.parameters.length) = some 0 := by decide +kernel
theorem d_Ce_setRenewed_0 : decode b_Ce_setRenewed 0 = .ok (.aload_n 0, 1) := by decide +kernel
theorem d_Ce_setRenewed_1 : decode b_Ce_setRenewed 1 = .ok (.getfield 22, 3) := by decide +kernel
theorem d_Ce_setRenewed_4 : decode b_Ce_setRenewed 4 = .ok (.getfield 140, 3) := by decide +kernel
theorem d_Ce_setRenewed_7 : decode b_Ce_setRenewed 7 = .ok (.aload_n 0, 1) := by decide +kernel
theorem d_Ce_setRenewed_8 : decode b_Ce_setRenewed 8 = .ok (.getfield 22, 3) := by decide +kernel
theorem d_Ce_setRenewed_11 : decode b_Ce_setRenewed 11 = .ok (.getfield 140, 3) := by decide +kernel
theorem d_Ce_setRenewed_14 : decode b_Ce_setRenewed 14 = .ok (.iconst 0, 1) := by decide +kernel
theorem d_Ce_setRenewed_15 : decode b_Ce_setRenewed 15 = .ok (.bipush 8, 2) := by decide +kernel
theorem d_Ce_setRenewed_17 : decode b_Ce_setRenewed 17 = .ok (.invokevirtual 48, 3) := by decide +kernel
theorem d_Ce_setRenewed_20 : decode b_Ce_setRenewed 20 = .ok (.invokevirtual 109, 3) := by decide +kernel
theorem d_Ce_setRenewed_23 : decode b_Ce_setRenewed 23 = .ok (.istore_n 1, 1) := by decide +kernel
theorem d_Ce_setRenewed_24 : decode b_Ce_setRenewed 24 = .ok (.aload_n 0, 1) := by decide +kernel
theorem d_Ce_setRenewed_25 : decode b_Ce_setRenewed 25 = .ok (.getfield 22, 3) := by decide +kernel
theorem d_Ce_setRenewed_28 : decode b_Ce_setRenewed 28 = .ok (.getfield 140, 3) := by decide +kernel
theorem d_Ce_setRenewed_31 : decode b_Ce_setRenewed 31 = .ok (.aload_n 0, 1) := by decide +kernel
theorem d_Ce_setRenewed_32 : decode b_Ce_setRenewed 32 = .ok (.getfield 22, 3) := by decide +kernel
theorem d_Ce_setRenewed_35 : decode b_Ce_setRenewed 35 = .ok (.getfield 140, 3) := by decide +kernel
theorem d_Ce_setRenewed_38 : decode b_Ce_setRenewed 38 = .ok (.iconst 0, 1) := by decide +kernel
theorem d_Ce_setRenewed_39 : decode b_Ce_setRenewed 39 = .ok (.bipush 7, 2) := by decide +kernel
theorem d_Ce_setRenewed_41 : decode b_Ce_setRenewed 41 = .ok (.invokevirtual 48, 3) := by decide +kernel
theorem d_Ce_setRenewed_44 : decode b_Ce_setRenewed 44 = .ok (.invokevirtual 109, 3) := by decide +kernel
theorem d_Ce_setRenewed_47 : decode b_Ce_setRenewed 47 = .ok (.i2l, 1) := by decide +kernel
theorem d_Ce_setRenewed_48 : decode b_Ce_setRenewed 48 = .ok (.aload_n 0, 1) := by decide +kernel
theorem d_Ce_setRenewed_49 : decode b_Ce_setRenewed 49 = .ok (.getfield 22, 3) := by decide +kernel
theorem d_Ce_setRenewed_52 : decode b_Ce_setRenewed 52 = .ok (.invokevirtual 237, 3) := by decide +kernel
theorem d_Ce_setRenewed_55 : decode b_Ce_setRenewed 55 = .ok (.i2l, 1) := by decide +kernel
theorem d_Ce_setRenewed_56 : decode b_Ce_setRenewed 56 = .ok (.lsub, 1) := by decide +kernel
theorem d_Ce_setRenewed_57 : decode b_Ce_setRenewed 57 = .ok (.lstore_n 2, 1) := by decide +kernel
theorem d_Ce_setRenewed_58 : decode b_Ce_setRenewed 58 = .ok (.aload_n 0, 1) := by decide +kernel
theorem d_Ce_setRenewed_59 : decode b_Ce_setRenewed 59 = .ok (.getfield 18, 3) := by decide +kernel
theorem d_Ce_setRenewed_62 : decode b_Ce_setRenewed 62 = .ok (.getfield 112, 3) := by decide +kernel
theorem d_Ce_setRenewed_65 : decode b_Ce_setRenewed 65 = .ok (.i2l, 1) := by decide +kernel
theorem d_Ce_setRenewed_66 : decode b_Ce_setRenewed 66 = .ok (.lload_n 2, 1) := by decide +kernel
theorem d_Ce_setRenewed_67 : decode b_Ce_setRenewed 67 = .ok (.ladd, 1) := by decide +kernel
theorem d_Ce_setRenewed_68 : decode b_Ce_setRenewed 68 = .ok (.iload_n 1, 1) := by decide +kernel
theorem d_Ce_setRenewed_69 : decode b_Ce_setRenewed 69 = .ok (.i2l, 1) := by decide +kernel
theorem d_Ce_setRenewed_70 : decode b_Ce_setRenewed 70 = .ok (.invokestatic 223, 3) := by decide +kernel
theorem d_Ce_setRenewed_73 : decode b_Ce_setRenewed 73 = .ok (.lstore 4, 2) := by decide +kernel
theorem d_Ce_setRenewed_75 : decode b_Ce_setRenewed 75 = .ok (.aload_n 0, 1) := by decide +kernel
theorem d_Ce_setRenewed_76 : decode b_Ce_setRenewed 76 = .ok (.lconst 0, 1) := by decide +kernel
theorem d_Ce_setRenewed_77 : decode b_Ce_setRenewed 77 = .ok (.lload 4, 2) := by decide +kernel
theorem d_Ce_setRenewed_79 : decode b_Ce_setRenewed 79 = .ok (.invokestatic 240, 3) := by decide +kernel
theorem d_Ce_setRenewed_82 : decode b_Ce_setRenewed 82 = .ok (.l2i, 1) := by decide +kernel
theorem d_Ce_setRenewed_83 : decode b_Ce_setRenewed 83 = .ok (.putfield 226, 3) := by decide +kernel
theorem d_Ce_setRenewed_86 : decode b_Ce_setRenewed 86 = .ok (.aload_n 0, 1) := by decide +kernel
theorem d_Ce_setRenewed_87 : decode b_Ce_setRenewed 87 = .ok (.iload_n 1, 1) := by decide +kernel
theorem d_Ce_setRenewed_88 : decode b_Ce_setRenewed 88 = .ok (.putfield 243, 3) := by decide +kernel
theorem d_Ce_setRenewed_91 : decode b_Ce_setRenewed 91 = .ok (.aload_n 0, 1) := by decide +kernel
theorem d_Ce_setRenewed_92 : decode b_Ce_setRenewed 92 = .ok (.aload_n 0, 1) := by decide +kernel
theorem d_Ce_setRenewed_93 : decode b_Ce_setRenewed 93 = .ok (.invokevirtual 201, 3) := by decide +kernel
theorem d_Ce_setRenewed_96 : decode b_Ce_setRenewed 96 = .ok (.ldc 246, 2) := by decide +kernel
theorem d_Ce_setRenewed_98 : decode b_Ce_setRenewed 98 = .ok (.iand, 1) := by decide +kernel
theorem d_Ce_setRenewed_99 : decode b_Ce_setRenewed 99 = .ok (.putfield 247, 3) := by decide +kernel
theorem d_Ce_setRenewed_102 : decode b_Ce_setRenewed 102 = .ok (.lload 4, 2) := by decide +kernel
theorem d_Ce_setRenewed_104 : decode b_Ce_setRenewed 104 = .ok (.aload_n 0, 1) := by decide +kernel
theorem d_Ce_setRenewed_105 : decode b_Ce_setRenewed 105 = .ok (.getfield 18, 3) := by decide +kernel
theorem d_Ce_setRenewed_108 : decode b_Ce_setRenewed 108 = .ok (.getfield 112, 3) := by decide +kernel
theorem d_Ce_setRenewed_111 : decode b_Ce_setRenewed 111 = .ok (.i2l, 1) := by decide +kernel
theorem d_Ce_setRenewed_112 : decode b_Ce_setRenewed 112 = .ok (.lcmp, 1) := by decide +kernel
theorem d_Ce_setRenewed_113 : decode b_Ce_setRenewed 113 = .ok (.ifCond .gt 8, 3) := by decide +kernel
theorem d_Ce_setRenewed_116 : decode b_Ce_setRenewed 116 = .ok (.bipush 11, 2) := by decide +kernel
theorem d_Ce_setRenewed_118 : decode b_Ce_setRenewed 118 = .ok (.goto 4, 3) := by decide +kernel
theorem d_Ce_setRenewed_121 : decode b_Ce_setRenewed 121 = .ok (.iconst 0, 1) := by decide +kernel
theorem d_Ce_setRenewed_122 : decode b_Ce_setRenewed 122 = .ok (.ireturn, 1) := by decide +kernel
abbrev b_Ce_setFlags : ByteArray := prog_5_method_18_code
def y_Ce_setFlags : MethodName := ⟨R_Ce, "setFlags", "(Z)V"⟩
abbrev k_Ce_setFlags : Cond := .code y_Ce_setFlags b_Ce_setFlags 5 none
theorem ki_Ce_setFlags : k_Ce_setFlags ∈ lw_tg := in_t 1176 (by decide +kernel)
theorem ks_Ce_setFlags : Cond.instanceMethod y_Ce_setFlags ∈ lw_tg := in_t 1175 (by decide +kernel)
theorem kx_Ce_setFlags : Cond.selects R_Ce y_Ce_setFlags y_Ce_setFlags ∈ lw_tg := List.mem_filter.mpr ⟨List.mem_append_left _ (List.mem_of_getElem? (i := 36) (by decide +kernel)), rfl⟩
theorem kl_Ce_Ce_setFlags : Cond.methodLink R_Ce 229 y_Ce_setFlags ∈ lw_tg := in_t 1173 (by decide +kernel)
theorem hd_Ce_setFlags : y_Ce_setFlags.cls = R_Ce ∧ y_Ce_setFlags.cls ≠ "java/lang/invoke/MethodHandle" ∧ y_Ce_setFlags.cls ≠ "java/lang/invoke/VarHandle" ∧ (parseMethodDescriptor y_Ce_setFlags.desc).map (fun d => d.parameters.length) = some 1 := by decide +kernel
theorem d_Ce_setFlags_0 : decode b_Ce_setFlags 0 = .ok (.aload_n 0, 1) := by decide +kernel
theorem d_Ce_setFlags_1 : decode b_Ce_setFlags 1 = .ok (.getfield 65, 3) := by decide +kernel
theorem d_Ce_setFlags_4 : decode b_Ce_setFlags 4 = .ok (.ifCond .eq 7, 3) := by decide +kernel
theorem d_Ce_setFlags_7 : decode b_Ce_setFlags 7 = .ok (.iconst 0, 1) := by decide +kernel
theorem d_Ce_setFlags_8 : decode b_Ce_setFlags 8 = .ok (.goto 7, 3) := by decide +kernel
theorem d_Ce_setFlags_11 : decode b_Ce_setFlags 11 = .ok (.aload_n 0, 1) := by decide +kernel
theorem d_Ce_setFlags_12 : decode b_Ce_setFlags 12 = .ok (.invokevirtual 201, 3) := by decide +kernel
theorem d_Ce_setFlags_15 : decode b_Ce_setFlags 15 = .ok (.istore_n 2, 1) := by decide +kernel
theorem d_Ce_setFlags_16 : decode b_Ce_setFlags 16 = .ok (.aload_n 0, 1) := by decide +kernel
theorem d_Ce_setFlags_17 : decode b_Ce_setFlags 17 = .ok (.getfield 44, 3) := by decide +kernel
theorem d_Ce_setFlags_20 : decode b_Ce_setFlags 20 = .ok (.ldc 250, 2) := by decide +kernel
theorem d_Ce_setFlags_22 : decode b_Ce_setFlags 22 = .ok (.iand, 1) := by decide +kernel
theorem d_Ce_setFlags_23 : decode b_Ce_setFlags 23 = .ok (.iload_n 1, 1) := by decide +kernel
theorem d_Ce_setFlags_24 : decode b_Ce_setFlags 24 = .ok (.ifCond .eq 8, 3) := by decide +kernel
theorem d_Ce_setFlags_27 : decode b_Ce_setFlags 27 = .ok (.ldc 208, 2) := by decide +kernel
theorem d_Ce_setFlags_29 : decode b_Ce_setFlags 29 = .ok (.goto 4, 3) := by decide +kernel
theorem d_Ce_setFlags_32 : decode b_Ce_setFlags 32 = .ok (.iconst 0, 1) := by decide +kernel
theorem d_Ce_setFlags_33 : decode b_Ce_setFlags 33 = .ok (.ior, 1) := by decide +kernel
theorem d_Ce_setFlags_34 : decode b_Ce_setFlags 34 = .ok (.istore_n 3, 1) := by decide +kernel
theorem d_Ce_setFlags_35 : decode b_Ce_setFlags 35 = .ok (.aload_n 0, 1) := by decide +kernel
theorem d_Ce_setFlags_36 : decode b_Ce_setFlags 36 = .ok (.getfield 41, 3) := by decide +kernel
theorem d_Ce_setFlags_39 : decode b_Ce_setFlags 39 = .ok (.invokestatic 251, 3) := by decide +kernel
theorem d_Ce_setFlags_42 : decode b_Ce_setFlags 42 = .ok (.aload_n 0, 1) := by decide +kernel
theorem d_Ce_setFlags_43 : decode b_Ce_setFlags 43 = .ok (.getfield 65, 3) := by decide +kernel
theorem d_Ce_setFlags_46 : decode b_Ce_setFlags 46 = .ok (.ifCond .eq 13, 3) := by decide +kernel
theorem d_Ce_setFlags_49 : decode b_Ce_setFlags 49 = .ok (.aload_n 0, 1) := by decide +kernel
theorem d_Ce_setFlags_50 : decode b_Ce_setFlags 50 = .ok (.getfield 37, 3) := by decide +kernel
theorem d_Ce_setFlags_53 : decode b_Ce_setFlags 53 = .ok (.invokestatic 251, 3) := by decide +kernel
theorem d_Ce_setFlags_56 : decode b_Ce_setFlags 56 = .ok (.goto 4, 3) := by decide +kernel
theorem d_Ce_setFlags_59 : decode b_Ce_setFlags 59 = .ok (.iload_n 2, 1) := by decide +kernel
theorem d_Ce_setFlags_60 : decode b_Ce_setFlags 60 = .ok (.iand, 1) := by decide +kernel
theorem d_Ce_setFlags_61 : decode b_Ce_setFlags 61 = .ok (.istore 4, 2) := by decide +kernel
theorem d_Ce_setFlags_63 : decode b_Ce_setFlags 63 = .ok (.aload_n 0, 1) := by decide +kernel
theorem d_Ce_setFlags_64 : decode b_Ce_setFlags 64 = .ok (.iload_n 3, 1) := by decide +kernel
theorem d_Ce_setFlags_65 : decode b_Ce_setFlags 65 = .ok (.iload 4, 2) := by decide +kernel
theorem d_Ce_setFlags_67 : decode b_Ce_setFlags 67 = .ok (.iand, 1) := by decide +kernel
theorem d_Ce_setFlags_68 : decode b_Ce_setFlags 68 = .ok (.putfield 247, 3) := by decide +kernel
theorem d_Ce_setFlags_71 : decode b_Ce_setFlags 71 = .ok (.aload_n 0, 1) := by decide +kernel
theorem d_Ce_setFlags_72 : decode b_Ce_setFlags 72 = .ok (.getfield 65, 3) := by decide +kernel
theorem d_Ce_setFlags_75 : decode b_Ce_setFlags 75 = .ok (.ifCond .eq 36, 3) := by decide +kernel
theorem d_Ce_setFlags_78 : decode b_Ce_setFlags 78 = .ok (.aload_n 0, 1) := by decide +kernel
theorem d_Ce_setFlags_79 : decode b_Ce_setFlags 79 = .ok (.dup, 1) := by decide +kernel
theorem d_Ce_setFlags_80 : decode b_Ce_setFlags 80 = .ok (.getfield 247, 3) := by decide +kernel
theorem d_Ce_setFlags_83 : decode b_Ce_setFlags 83 = .ok (.ldc 255, 2) := by decide +kernel
theorem d_Ce_setFlags_85 : decode b_Ce_setFlags 85 = .ok (.aload_n 0, 1) := by decide +kernel
theorem d_Ce_setFlags_86 : decode b_Ce_setFlags 86 = .ok (.getfield 37, 3) := by decide +kernel
theorem d_Ce_setFlags_89 : decode b_Ce_setFlags 89 = .ok (.iconst 1, 1) := by decide +kernel
theorem d_Ce_setFlags_90 : decode b_Ce_setFlags 90 = .ok (.invokevirtual 121, 3) := by decide +kernel
theorem d_Ce_setFlags_93 : decode b_Ce_setFlags 93 = .ok (.ifCond .eq 9, 3) := by decide +kernel
theorem d_Ce_setFlags_96 : decode b_Ce_setFlags 96 = .ok (.ldc_w 256, 3) := by decide +kernel
theorem d_Ce_setFlags_99 : decode b_Ce_setFlags 99 = .ok (.goto 4, 3) := by decide +kernel
theorem d_Ce_setFlags_102 : decode b_Ce_setFlags 102 = .ok (.iconst 0, 1) := by decide +kernel
theorem d_Ce_setFlags_103 : decode b_Ce_setFlags 103 = .ok (.ior, 1) := by decide +kernel
theorem d_Ce_setFlags_104 : decode b_Ce_setFlags 104 = .ok (.ior, 1) := by decide +kernel
theorem d_Ce_setFlags_105 : decode b_Ce_setFlags 105 = .ok (.putfield 247, 3) := by decide +kernel
theorem d_Ce_setFlags_108 : decode b_Ce_setFlags 108 = .ok (.goto 28, 3) := by decide +kernel
theorem d_Ce_setFlags_111 : decode b_Ce_setFlags 111 = .ok (.aload_n 0, 1) := by decide +kernel
theorem d_Ce_setFlags_112 : decode b_Ce_setFlags 112 = .ok (.dup, 1) := by decide +kernel
theorem d_Ce_setFlags_113 : decode b_Ce_setFlags 113 = .ok (.getfield 247, 3) := by decide +kernel
theorem d_Ce_setFlags_116 : decode b_Ce_setFlags 116 = .ok (.iload_n 2, 1) := by decide +kernel
theorem d_Ce_setFlags_117 : decode b_Ce_setFlags 117 = .ok (.ldc_w 256, 3) := by decide +kernel
theorem d_Ce_setFlags_120 : decode b_Ce_setFlags 120 = .ok (.iand, 1) := by decide +kernel
theorem d_Ce_setFlags_121 : decode b_Ce_setFlags 121 = .ok (.iload_n 2, 1) := by decide +kernel
theorem d_Ce_setFlags_122 : decode b_Ce_setFlags 122 = .ok (.aload_n 0, 1) := by decide +kernel
theorem d_Ce_setFlags_123 : decode b_Ce_setFlags 123 = .ok (.getfield 44, 3) := by decide +kernel
theorem d_Ce_setFlags_126 : decode b_Ce_setFlags 126 = .ok (.ior, 1) := by decide +kernel
theorem d_Ce_setFlags_127 : decode b_Ce_setFlags 127 = .ok (.ldc_w 257, 3) := by decide +kernel
theorem d_Ce_setFlags_130 : decode b_Ce_setFlags 130 = .ok (.iand, 1) := by decide +kernel
theorem d_Ce_setFlags_131 : decode b_Ce_setFlags 131 = .ok (.ior, 1) := by decide +kernel
theorem d_Ce_setFlags_132 : decode b_Ce_setFlags 132 = .ok (.ior, 1) := by decide +kernel
theorem d_Ce_setFlags_133 : decode b_Ce_setFlags 133 = .ok (.putfield 247, 3) := by decide +kernel
theorem d_Ce_setFlags_136 : decode b_Ce_setFlags 136 = .ok (.return_, 1) := by decide +kernel
abbrev b_Ce_mayFlags : ByteArray := prog_5_method_19_code
def y_Ce_mayFlags : MethodName := ⟨R_Ce, "mayFlags", "(LRealmHouse$Principal;)I"⟩
abbrev k_Ce_mayFlags : Cond := .code y_Ce_mayFlags b_Ce_mayFlags 1 (some .int)
theorem ki_Ce_mayFlags : k_Ce_mayFlags ∈ lw_tg := in_t 1180 (by decide +kernel)
theorem ks_Ce_mayFlags : Cond.static y_Ce_mayFlags ∈ lw_tg := in_t 1179 (by decide +kernel)
theorem kl_Ce_Ce_mayFlags : Cond.methodLink R_Ce 251 y_Ce_mayFlags ∈ lw_tg := in_t 1178 (by decide +kernel)
theorem hd_Ce_mayFlags : y_Ce_mayFlags.cls = R_Ce ∧ y_Ce_mayFlags.cls ≠ "java/lang/invoke/MethodHandle" ∧ y_Ce_mayFlags.cls ≠ "java/lang/invoke/VarHandle" ∧ (parseMethodDescriptor y_Ce_mayFlags.desc).map (fun d => d.parameters.length) = some 1 := by decide +kernel
theorem d_Ce_mayFlags_0 : decode b_Ce_mayFlags 0 = .ok (.aload_n 0, 1) := by decide +kernel
theorem d_Ce_mayFlags_1 : decode b_Ce_mayFlags 1 = .ok (.iconst 2, 1) := by decide +kernel
theorem d_Ce_mayFlags_2 : decode b_Ce_mayFlags 2 = .ok (.invokevirtual 121, 3) := by decide +kernel
theorem d_Ce_mayFlags_5 : decode b_Ce_mayFlags 5 = .ok (.ifCond .eq 8, 3) := by decide +kernel
theorem d_Ce_mayFlags_8 : decode b_Ce_mayFlags 8 = .ok (.ldc 205, 2) := by decide +kernel
theorem d_Ce_mayFlags_10 : decode b_Ce_mayFlags 10 = .ok (.goto 4, 3) := by decide +kernel
theorem d_Ce_mayFlags_13 : decode b_Ce_mayFlags 13 = .ok (.iconst 0, 1) := by decide +kernel
theorem d_Ce_mayFlags_14 : decode b_Ce_mayFlags 14 = .ok (.aload_n 0, 1) := by decide +kernel
theorem d_Ce_mayFlags_15 : decode b_Ce_mayFlags 15 = .ok (.iconst 4, 1) := by decide +kernel
theorem d_Ce_mayFlags_16 : decode b_Ce_mayFlags 16 = .ok (.invokevirtual 121, 3) := by decide +kernel
theorem d_Ce_mayFlags_19 : decode b_Ce_mayFlags 19 = .ok (.ifCond .eq 8, 3) := by decide +kernel
theorem d_Ce_mayFlags_22 : decode b_Ce_mayFlags 22 = .ok (.ldc 207, 2) := by decide +kernel
theorem d_Ce_mayFlags_24 : decode b_Ce_mayFlags 24 = .ok (.goto 4, 3) := by decide +kernel
theorem d_Ce_mayFlags_27 : decode b_Ce_mayFlags 27 = .ok (.iconst 0, 1) := by decide +kernel
theorem d_Ce_mayFlags_28 : decode b_Ce_mayFlags 28 = .ok (.ior, 1) := by decide +kernel
theorem d_Ce_mayFlags_29 : decode b_Ce_mayFlags 29 = .ok (.aload_n 0, 1) := by decide +kernel
theorem d_Ce_mayFlags_30 : decode b_Ce_mayFlags 30 = .ok (.bipush 8, 2) := by decide +kernel
theorem d_Ce_mayFlags_32 : decode b_Ce_mayFlags 32 = .ok (.invokevirtual 121, 3) := by decide +kernel
theorem d_Ce_mayFlags_35 : decode b_Ce_mayFlags 35 = .ok (.ifCond .eq 8, 3) := by decide +kernel
theorem d_Ce_mayFlags_38 : decode b_Ce_mayFlags 38 = .ok (.ldc 208, 2) := by decide +kernel
theorem d_Ce_mayFlags_40 : decode b_Ce_mayFlags 40 = .ok (.goto 4, 3) := by decide +kernel
theorem d_Ce_mayFlags_43 : decode b_Ce_mayFlags 43 = .ok (.iconst 0, 1) := by decide +kernel
theorem d_Ce_mayFlags_44 : decode b_Ce_mayFlags 44 = .ok (.ior, 1) := by decide +kernel
theorem d_Ce_mayFlags_45 : decode b_Ce_mayFlags 45 = .ok (.ireturn, 1) := by decide +kernel
abbrev b_Ce_setRenewTill : ByteArray := prog_5_method_20_code
def y_Ce_setRenewTill : MethodName := ⟨R_Ce, "setRenewTill", "(J)V"⟩
abbrev k_Ce_setRenewTill : Cond := .code y_Ce_setRenewTill b_Ce_setRenewTill 6 none
theorem ki_Ce_setRenewTill : k_Ce_setRenewTill ∈ lw_tg := in_t 1189 (by decide +kernel)
theorem ks_Ce_setRenewTill : Cond.instanceMethod y_Ce_setRenewTill ∈ lw_tg := in_t 1188 (by decide +kernel)
theorem kx_Ce_setRenewTill : Cond.selects R_Ce y_Ce_setRenewTill y_Ce_setRenewTill ∈ lw_tg := List.mem_filter.mpr ⟨List.mem_append_left _ (List.mem_of_getElem? (i := 37) (by decide +kernel)), rfl⟩
theorem kl_Ce_Ce_setRenewTill : Cond.methodLink R_Ce 233 y_Ce_setRenewTill ∈ lw_tg := in_t 1186 (by decide +kernel)
theorem hd_Ce_setRenewTill : y_Ce_setRenewTill.cls = R_Ce ∧ y_Ce_setRenewTill.cls ≠ "java/lang/invoke/MethodHandle" ∧ y_Ce_setRenewTill.cls ≠ "java/lang/invoke/VarHandle" ∧ (parseMethodDescriptor y_Ce_setRenewTill.desc).map (fun d => d.parameters.length) = some 1 := by decide +kernel
theorem d_Ce_setRenewTill_0 : decode b_Ce_setRenewTill 0 = .ok (.aload_n 0, 1) := by decide +kernel
theorem d_Ce_setRenewTill_1 : decode b_Ce_setRenewTill 1 = .ok (.getfield 247, 3) := by decide +kernel
theorem d_Ce_setRenewTill_4 : decode b_Ce_setRenewTill 4 = .ok (.ldc 208, 2) := by decide +kernel
theorem d_Ce_setRenewTill_6 : decode b_Ce_setRenewTill 6 = .ok (.iand, 1) := by decide +kernel
theorem d_Ce_setRenewTill_7 : decode b_Ce_setRenewTill 7 = .ok (.ifCond .ne 9, 3) := by decide +kernel
theorem d_Ce_setRenewTill_10 : decode b_Ce_setRenewTill 10 = .ok (.aload_n 0, 1) := by decide +kernel
theorem d_Ce_setRenewTill_11 : decode b_Ce_setRenewTill 11 = .ok (.iconst (-1), 1) := by decide +kernel
theorem d_Ce_setRenewTill_12 : decode b_Ce_setRenewTill 12 = .ok (.putfield 243, 3) := by decide +kernel
theorem d_Ce_setRenewTill_15 : decode b_Ce_setRenewTill 15 = .ok (.return_, 1) := by decide +kernel
theorem d_Ce_setRenewTill_16 : decode b_Ce_setRenewTill 16 = .ok (.lload_n 1, 1) := by decide +kernel
theorem d_Ce_setRenewTill_17 : decode b_Ce_setRenewTill 17 = .ok (.aload_n 0, 1) := by decide +kernel
theorem d_Ce_setRenewTill_18 : decode b_Ce_setRenewTill 18 = .ok (.getfield 18, 3) := by decide +kernel
theorem d_Ce_setRenewTill_21 : decode b_Ce_setRenewTill 21 = .ok (.getfield 112, 3) := by decide +kernel
theorem d_Ce_setRenewTill_24 : decode b_Ce_setRenewTill 24 = .ok (.i2l, 1) := by decide +kernel
theorem d_Ce_setRenewTill_25 : decode b_Ce_setRenewTill 25 = .ok (.aload_n 0, 1) := by decide +kernel
theorem d_Ce_setRenewTill_26 : decode b_Ce_setRenewTill 26 = .ok (.getfield 37, 3) := by decide +kernel
theorem d_Ce_setRenewTill_29 : decode b_Ce_setRenewTill 29 = .ok (.getfield 258, 3) := by decide +kernel
theorem d_Ce_setRenewTill_32 : decode b_Ce_setRenewTill 32 = .ok (.aload_n 0, 1) := by decide +kernel
theorem d_Ce_setRenewTill_33 : decode b_Ce_setRenewTill 33 = .ok (.getfield 41, 3) := by decide +kernel
theorem d_Ce_setRenewTill_36 : decode b_Ce_setRenewTill 36 = .ok (.getfield 258, 3) := by decide +kernel
theorem d_Ce_setRenewTill_39 : decode b_Ce_setRenewTill 39 = .ok (.invokestatic 220, 3) := by decide +kernel
theorem d_Ce_setRenewTill_42 : decode b_Ce_setRenewTill 42 = .ok (.i2l, 1) := by decide +kernel
theorem d_Ce_setRenewTill_43 : decode b_Ce_setRenewTill 43 = .ok (.ladd, 1) := by decide +kernel
theorem d_Ce_setRenewTill_44 : decode b_Ce_setRenewTill 44 = .ok (.invokestatic 223, 3) := by decide +kernel
theorem d_Ce_setRenewTill_47 : decode b_Ce_setRenewTill 47 = .ok (.lstore_n 3, 1) := by decide +kernel
theorem d_Ce_setRenewTill_48 : decode b_Ce_setRenewTill 48 = .ok (.aload_n 0, 1) := by decide +kernel
theorem d_Ce_setRenewTill_49 : decode b_Ce_setRenewTill 49 = .ok (.getfield 65, 3) := by decide +kernel
theorem d_Ce_setRenewTill_52 : decode b_Ce_setRenewTill 52 = .ok (.ifCond .eq 7, 3) := by decide +kernel
theorem d_Ce_setRenewTill_55 : decode b_Ce_setRenewTill 55 = .ok (.iconst (-1), 1) := by decide +kernel
theorem d_Ce_setRenewTill_56 : decode b_Ce_setRenewTill 56 = .ok (.goto 26, 3) := by decide +kernel
theorem d_Ce_setRenewTill_59 : decode b_Ce_setRenewTill 59 = .ok (.aload_n 0, 1) := by decide +kernel
theorem d_Ce_setRenewTill_60 : decode b_Ce_setRenewTill 60 = .ok (.getfield 22, 3) := by decide +kernel
theorem d_Ce_setRenewTill_63 : decode b_Ce_setRenewTill 63 = .ok (.getfield 140, 3) := by decide +kernel
theorem d_Ce_setRenewTill_66 : decode b_Ce_setRenewTill 66 = .ok (.aload_n 0, 1) := by decide +kernel
theorem d_Ce_setRenewTill_67 : decode b_Ce_setRenewTill 67 = .ok (.getfield 22, 3) := by decide +kernel
theorem d_Ce_setRenewTill_70 : decode b_Ce_setRenewTill 70 = .ok (.getfield 140, 3) := by decide +kernel
theorem d_Ce_setRenewTill_73 : decode b_Ce_setRenewTill 73 = .ok (.iconst 0, 1) := by decide +kernel
theorem d_Ce_setRenewTill_74 : decode b_Ce_setRenewTill 74 = .ok (.bipush 8, 2) := by decide +kernel
theorem d_Ce_setRenewTill_76 : decode b_Ce_setRenewTill 76 = .ok (.invokevirtual 48, 3) := by decide +kernel
theorem d_Ce_setRenewTill_79 : decode b_Ce_setRenewTill 79 = .ok (.invokevirtual 109, 3) := by decide +kernel
theorem d_Ce_setRenewTill_82 : decode b_Ce_setRenewTill 82 = .ok (.istore 5, 2) := by decide +kernel
theorem d_Ce_setRenewTill_84 : decode b_Ce_setRenewTill 84 = .ok (.aload_n 0, 1) := by decide +kernel
theorem d_Ce_setRenewTill_85 : decode b_Ce_setRenewTill 85 = .ok (.iload 5, 2) := by decide +kernel
theorem d_Ce_setRenewTill_87 : decode b_Ce_setRenewTill 87 = .ok (.ifCond .lt 13, 3) := by decide +kernel
theorem d_Ce_setRenewTill_90 : decode b_Ce_setRenewTill 90 = .ok (.lload_n 3, 1) := by decide +kernel
theorem d_Ce_setRenewTill_91 : decode b_Ce_setRenewTill 91 = .ok (.iload 5, 2) := by decide +kernel
theorem d_Ce_setRenewTill_93 : decode b_Ce_setRenewTill 93 = .ok (.i2l, 1) := by decide +kernel
theorem d_Ce_setRenewTill_94 : decode b_Ce_setRenewTill 94 = .ok (.invokestatic 223, 3) := by decide +kernel
theorem d_Ce_setRenewTill_97 : decode b_Ce_setRenewTill 97 = .ok (.goto 4, 3) := by decide +kernel
theorem d_Ce_setRenewTill_100 : decode b_Ce_setRenewTill 100 = .ok (.lload_n 3, 1) := by decide +kernel
theorem d_Ce_setRenewTill_101 : decode b_Ce_setRenewTill 101 = .ok (.l2i, 1) := by decide +kernel
theorem d_Ce_setRenewTill_102 : decode b_Ce_setRenewTill 102 = .ok (.putfield 243, 3) := by decide +kernel
theorem d_Ce_setRenewTill_105 : decode b_Ce_setRenewTill 105 = .ok (.return_, 1) := by decide +kernel
abbrev b_Ce_putReply : ByteArray := prog_5_method_21_code
def y_Ce_putReply : MethodName := ⟨R_Ce, "putReply", "()V"⟩
abbrev k_Ce_putReply : Cond := .code y_Ce_putReply b_Ce_putReply 7 none
theorem ki_Ce_putReply : k_Ce_putReply ∈ lw_tg := in_t 1224 (by decide +kernel)
theorem ks_Ce_putReply : Cond.instanceMethod y_Ce_putReply ∈ lw_tg := in_t 1222 (by decide +kernel)
theorem kx_Ce_putReply : Cond.selects R_Ce y_Ce_putReply y_Ce_putReply ∈ lw_tg := in_t 1223 (by decide +kernel)
theorem kl_H_Ce_putReply : Cond.methodLink R_H 176 y_Ce_putReply ∈ lw_tg := in_t 1221 (by decide +kernel)
theorem hd_Ce_putReply : y_Ce_putReply.cls = R_Ce ∧ y_Ce_putReply.cls ≠ "java/lang/invoke/MethodHandle" ∧ y_Ce_putReply.cls ≠ "java/lang/invoke/VarHandle" ∧ (parseMethodDescriptor y_Ce_putReply.desc).map (fun d => d.parameters.length) = some 0 := by decide +kernel
theorem d_Ce_putReply_0 : decode b_Ce_putReply 0 = .ok (.aload_n 0, 1) := by decide +kernel
theorem d_Ce_putReply_1 : decode b_Ce_putReply 1 = .ok (.getfield 18, 3) := by decide +kernel
theorem d_Ce_putReply_4 : decode b_Ce_putReply 4 = .ok (.aload_n 0, 1) := by decide +kernel
theorem d_Ce_putReply_5 : decode b_Ce_putReply 5 = .ok (.getfield 157, 3) := by decide +kernel
theorem d_Ce_putReply_8 : decode b_Ce_putReply 8 = .ok (.invokevirtual 261, 3) := by decide +kernel
theorem d_Ce_putReply_11 : decode b_Ce_putReply 11 = .ok (.astore_n 1, 1) := by decide +kernel
theorem d_Ce_putReply_12 : decode b_Ce_putReply 12 = .ok (.aload_n 0, 1) := by decide +kernel
theorem d_Ce_putReply_13 : decode b_Ce_putReply 13 = .ok (.getfield 65, 3) := by decide +kernel
theorem d_Ce_putReply_16 : decode b_Ce_putReply 16 = .ok (.ifCond .eq 8, 3) := by decide +kernel
theorem d_Ce_putReply_19 : decode b_Ce_putReply 19 = .ok (.bipush 11, 2) := by decide +kernel
theorem d_Ce_putReply_21 : decode b_Ce_putReply 21 = .ok (.goto 5, 3) := by decide +kernel
theorem d_Ce_putReply_24 : decode b_Ce_putReply 24 = .ok (.bipush 13, 2) := by decide +kernel
theorem d_Ce_putReply_26 : decode b_Ce_putReply 26 = .ok (.istore_n 2, 1) := by decide +kernel
theorem d_Ce_putReply_27 : decode b_Ce_putReply 27 = .ok (.aload_n 0, 1) := by decide +kernel
theorem d_Ce_putReply_28 : decode b_Ce_putReply 28 = .ok (.getfield 34, 3) := by decide +kernel
theorem d_Ce_putReply_31 : decode b_Ce_putReply 31 = .ok (.invokevirtual 265, 3) := by decide +kernel
theorem d_Ce_putReply_34 : decode b_Ce_putReply 34 = .ok (.aload_n 0, 1) := by decide +kernel
theorem d_Ce_putReply_35 : decode b_Ce_putReply 35 = .ok (.getfield 34, 3) := by decide +kernel
theorem d_Ce_putReply_38 : decode b_Ce_putReply 38 = .ok (.bipush 96, 2) := by decide +kernel
theorem d_Ce_putReply_40 : decode b_Ce_putReply 40 = .ok (.iload_n 2, 1) := by decide +kernel
theorem d_Ce_putReply_41 : decode b_Ce_putReply 41 = .ok (.iadd, 1) := by decide +kernel
theorem d_Ce_putReply_42 : decode b_Ce_putReply 42 = .ok (.invokevirtual 268, 3) := by decide +kernel
theorem d_Ce_putReply_45 : decode b_Ce_putReply 45 = .ok (.istore_n 3, 1) := by decide +kernel
theorem d_Ce_putReply_46 : decode b_Ce_putReply 46 = .ok (.aload_n 0, 1) := by decide +kernel
theorem d_Ce_putReply_47 : decode b_Ce_putReply 47 = .ok (.getfield 34, 3) := by decide +kernel
theorem d_Ce_putReply_50 : decode b_Ce_putReply 50 = .ok (.bipush 48, 2) := by decide +kernel
theorem d_Ce_putReply_52 : decode b_Ce_putReply 52 = .ok (.invokevirtual 268, 3) := by decide +kernel
theorem d_Ce_putReply_55 : decode b_Ce_putReply 55 = .ok (.istore 4, 2) := by decide +kernel
theorem d_Ce_putReply_57 : decode b_Ce_putReply 57 = .ok (.aload_n 0, 1) := by decide +kernel
theorem d_Ce_putReply_58 : decode b_Ce_putReply 58 = .ok (.getfield 34, 3) := by decide +kernel
theorem d_Ce_putReply_61 : decode b_Ce_putReply 61 = .ok (.iconst 0, 1) := by decide +kernel
theorem d_Ce_putReply_62 : decode b_Ce_putReply 62 = .ok (.ldc2_w 79, 3) := by decide +kernel
theorem d_Ce_putReply_65 : decode b_Ce_putReply 65 = .ok (.invokevirtual 271, 3) := by decide +kernel
theorem d_Ce_putReply_68 : decode b_Ce_putReply 68 = .ok (.aload_n 0, 1) := by decide +kernel
theorem d_Ce_putReply_69 : decode b_Ce_putReply 69 = .ok (.getfield 34, 3) := by decide +kernel
theorem d_Ce_putReply_72 : decode b_Ce_putReply 72 = .ok (.iconst 1, 1) := by decide +kernel
theorem d_Ce_putReply_73 : decode b_Ce_putReply 73 = .ok (.iload_n 2, 1) := by decide +kernel
theorem d_Ce_putReply_74 : decode b_Ce_putReply 74 = .ok (.i2l, 1) := by decide +kernel
theorem d_Ce_putReply_75 : decode b_Ce_putReply 75 = .ok (.invokevirtual 271, 3) := by decide +kernel
theorem d_Ce_putReply_78 : decode b_Ce_putReply 78 = .ok (.aload_n 0, 1) := by decide +kernel
theorem d_Ce_putReply_79 : decode b_Ce_putReply 79 = .ok (.getfield 65, 3) := by decide +kernel
theorem d_Ce_putReply_82 : decode b_Ce_putReply 82 = .ok (.ifCond .eq 47, 3) := by decide +kernel
theorem d_Ce_putReply_85 : decode b_Ce_putReply 85 = .ok (.aload_n 0, 1) := by decide +kernel
theorem d_Ce_putReply_86 : decode b_Ce_putReply 86 = .ok (.getfield 34, 3) := by decide +kernel
theorem d_Ce_putReply_89 : decode b_Ce_putReply 89 = .ok (.iconst 2, 1) := by decide +kernel
theorem d_Ce_putReply_90 : decode b_Ce_putReply 90 = .ok (.invokevirtual 275, 3) := by decide +kernel
theorem d_Ce_putReply_93 : decode b_Ce_putReply 93 = .ok (.istore 5, 2) := by decide +kernel
theorem d_Ce_putReply_95 : decode b_Ce_putReply 95 = .ok (.aload_n 0, 1) := by decide +kernel
theorem d_Ce_putReply_96 : decode b_Ce_putReply 96 = .ok (.getfield 34, 3) := by decide +kernel
theorem d_Ce_putReply_99 : decode b_Ce_putReply 99 = .ok (.bipush 48, 2) := by decide +kernel
theorem d_Ce_putReply_101 : decode b_Ce_putReply 101 = .ok (.invokevirtual 268, 3) := by decide +kernel
theorem d_Ce_putReply_104 : decode b_Ce_putReply 104 = .ok (.istore 6, 2) := by decide +kernel
theorem d_Ce_putReply_106 : decode b_Ce_putReply 106 = .ok (.aload_n 0, 1) := by decide +kernel
theorem d_Ce_putReply_107 : decode b_Ce_putReply 107 = .ok (.iconst 0, 1) := by decide +kernel
theorem d_Ce_putReply_108 : decode b_Ce_putReply 108 = .ok (.invokevirtual 278, 3) := by decide +kernel
theorem d_Ce_putReply_111 : decode b_Ce_putReply 111 = .ok (.aload_n 0, 1) := by decide +kernel
theorem d_Ce_putReply_112 : decode b_Ce_putReply 112 = .ok (.getfield 34, 3) := by decide +kernel
theorem d_Ce_putReply_115 : decode b_Ce_putReply 115 = .ok (.iload 6, 2) := by decide +kernel
theorem d_Ce_putReply_117 : decode b_Ce_putReply 117 = .ok (.invokevirtual 281, 3) := by decide +kernel
theorem d_Ce_putReply_120 : decode b_Ce_putReply 120 = .ok (.aload_n 0, 1) := by decide +kernel
theorem d_Ce_putReply_121 : decode b_Ce_putReply 121 = .ok (.getfield 34, 3) := by decide +kernel
theorem d_Ce_putReply_124 : decode b_Ce_putReply 124 = .ok (.iload 5, 2) := by decide +kernel
theorem d_Ce_putReply_126 : decode b_Ce_putReply 126 = .ok (.invokevirtual 281, 3) := by decide +kernel
theorem d_Ce_putReply_129 : decode b_Ce_putReply 129 = .ok (.aload_n 0, 1) := by decide +kernel
theorem d_Ce_putReply_130 : decode b_Ce_putReply 130 = .ok (.getfield 34, 3) := by decide +kernel
theorem d_Ce_putReply_133 : decode b_Ce_putReply 133 = .ok (.iconst 3, 1) := by decide +kernel
theorem d_Ce_putReply_134 : decode b_Ce_putReply 134 = .ok (.invokevirtual 285, 3) := by decide +kernel
theorem d_Ce_putReply_137 : decode b_Ce_putReply 137 = .ok (.aload_n 0, 1) := by decide +kernel
theorem d_Ce_putReply_138 : decode b_Ce_putReply 138 = .ok (.aload_n 0, 1) := by decide +kernel
theorem d_Ce_putReply_139 : decode b_Ce_putReply 139 = .ok (.getfield 34, 3) := by decide +kernel
theorem d_Ce_putReply_142 : decode b_Ce_putReply 142 = .ok (.iconst 4, 1) := by decide +kernel
theorem d_Ce_putReply_143 : decode b_Ce_putReply 143 = .ok (.invokevirtual 288, 3) := by decide +kernel
theorem d_Ce_putReply_146 : decode b_Ce_putReply 146 = .ok (.aload_n 0, 1) := by decide +kernel
theorem d_Ce_putReply_147 : decode b_Ce_putReply 147 = .ok (.getfield 34, 3) := by decide +kernel
theorem d_Ce_putReply_150 : decode b_Ce_putReply 150 = .ok (.iconst 5, 1) := by decide +kernel
theorem d_Ce_putReply_151 : decode b_Ce_putReply 151 = .ok (.invokevirtual 275, 3) := by decide +kernel
theorem d_Ce_putReply_154 : decode b_Ce_putReply 154 = .ok (.istore 5, 2) := by decide +kernel
theorem d_Ce_putReply_156 : decode b_Ce_putReply 156 = .ok (.aload_n 0, 1) := by decide +kernel
theorem d_Ce_putReply_157 : decode b_Ce_putReply 157 = .ok (.aload_n 1, 1) := by decide +kernel
theorem d_Ce_putReply_158 : decode b_Ce_putReply 158 = .ok (.invokevirtual 292, 3) := by decide +kernel
theorem d_Ce_putReply_161 : decode b_Ce_putReply 161 = .ok (.aload_n 0, 1) := by decide +kernel
theorem d_Ce_putReply_162 : decode b_Ce_putReply 162 = .ok (.getfield 34, 3) := by decide +kernel
theorem d_Ce_putReply_165 : decode b_Ce_putReply 165 = .ok (.iload 5, 2) := by decide +kernel
theorem d_Ce_putReply_167 : decode b_Ce_putReply 167 = .ok (.invokevirtual 281, 3) := by decide +kernel
theorem d_Ce_putReply_170 : decode b_Ce_putReply 170 = .ok (.aload_n 0, 1) := by decide +kernel
theorem d_Ce_putReply_171 : decode b_Ce_putReply 171 = .ok (.aload_n 1, 1) := by decide +kernel
theorem d_Ce_putReply_172 : decode b_Ce_putReply 172 = .ok (.invokevirtual 296, 3) := by decide +kernel
theorem d_Ce_putReply_175 : decode b_Ce_putReply 175 = .ok (.aload_n 0, 1) := by decide +kernel
theorem d_Ce_putReply_176 : decode b_Ce_putReply 176 = .ok (.getfield 34, 3) := by decide +kernel
theorem d_Ce_putReply_179 : decode b_Ce_putReply 179 = .ok (.bipush 6, 2) := by decide +kernel
theorem d_Ce_putReply_181 : decode b_Ce_putReply 181 = .ok (.invokevirtual 275, 3) := by decide +kernel
theorem d_Ce_putReply_184 : decode b_Ce_putReply 184 = .ok (.istore 5, 2) := by decide +kernel
theorem d_Ce_putReply_186 : decode b_Ce_putReply 186 = .ok (.aload_n 0, 1) := by decide +kernel
theorem d_Ce_putReply_187 : decode b_Ce_putReply 187 = .ok (.invokevirtual 299, 3) := by decide +kernel
theorem d_Ce_putReply_190 : decode b_Ce_putReply 190 = .ok (.aload_n 0, 1) := by decide +kernel
theorem d_Ce_putReply_191 : decode b_Ce_putReply 191 = .ok (.getfield 34, 3) := by decide +kernel
theorem d_Ce_putReply_194 : decode b_Ce_putReply 194 = .ok (.iload 5, 2) := by decide +kernel
theorem d_Ce_putReply_196 : decode b_Ce_putReply 196 = .ok (.invokevirtual 281, 3) := by decide +kernel
theorem d_Ce_putReply_199 : decode b_Ce_putReply 199 = .ok (.aload_n 0, 1) := by decide +kernel
theorem d_Ce_putReply_200 : decode b_Ce_putReply 200 = .ok (.getfield 34, 3) := by decide +kernel
theorem d_Ce_putReply_203 : decode b_Ce_putReply 203 = .ok (.iload 4, 2) := by decide +kernel
theorem d_Ce_putReply_205 : decode b_Ce_putReply 205 = .ok (.invokevirtual 281, 3) := by decide +kernel
theorem d_Ce_putReply_208 : decode b_Ce_putReply 208 = .ok (.aload_n 0, 1) := by decide +kernel
theorem d_Ce_putReply_209 : decode b_Ce_putReply 209 = .ok (.getfield 34, 3) := by decide +kernel
theorem d_Ce_putReply_212 : decode b_Ce_putReply 212 = .ok (.iload_n 3, 1) := by decide +kernel
theorem d_Ce_putReply_213 : decode b_Ce_putReply 213 = .ok (.invokevirtual 281, 3) := by decide +kernel
theorem d_Ce_putReply_216 : decode b_Ce_putReply 216 = .ok (.return_, 1) := by decide +kernel
abbrev b_Ce_putClient : ByteArray := prog_5_method_22_code
def y_Ce_putClient : MethodName := ⟨R_Ce, "putClient", "(LRealmHouse$Bytes;I)V"⟩
abbrev k_Ce_putClient : Cond := .code y_Ce_putClient b_Ce_putClient 3 none
theorem ki_Ce_putClient : k_Ce_putClient ∈ lw_tg := in_t 1273 (by decide +kernel)
theorem ks_Ce_putClient : Cond.instanceMethod y_Ce_putClient ∈ lw_tg := in_t 1272 (by decide +kernel)
theorem kx_Ce_putClient : Cond.selects R_Ce y_Ce_putClient y_Ce_putClient ∈ lw_tg := List.mem_filter.mpr ⟨List.mem_append_left _ (List.mem_of_getElem? (i := 43) (by decide +kernel)), rfl⟩
theorem kl_Ce_Ce_putClient : Cond.methodLink R_Ce 288 y_Ce_putClient ∈ lw_tg := in_t 1270 (by decide +kernel)
theorem hd_Ce_putClient : y_Ce_putClient.cls = R_Ce ∧ y_Ce_putClient.cls ≠ "java/lang/invoke/MethodHandle" ∧ y_Ce_putClient.cls ≠ "java/lang/invoke/VarHandle" ∧ (parseMethodDescriptor y_Ce_putClient.desc).map (fun d => d.parameters.length) = some 2 := by decide +kernel
theorem d_Ce_putClient_0 : decode b_Ce_putClient 0 = .ok (.aload_n 0, 1) := by decide +kernel
theorem d_Ce_putClient_1 : decode b_Ce_putClient 1 = .ok (.getfield 65, 3) := by decide +kernel
theorem d_Ce_putClient_4 : decode b_Ce_putClient 4 = .ok (.ifCond .eq 27, 3) := by decide +kernel
theorem d_Ce_putClient_7 : decode b_Ce_putClient 7 = .ok (.aload_n 1, 1) := by decide +kernel
theorem d_Ce_putClient_8 : decode b_Ce_putClient 8 = .ok (.iload_n 2, 1) := by decide +kernel
theorem d_Ce_putClient_9 : decode b_Ce_putClient 9 = .ok (.aload_n 0, 1) := by decide +kernel
theorem d_Ce_putClient_10 : decode b_Ce_putClient 10 = .ok (.getfield 30, 3) := by decide +kernel
theorem d_Ce_putClient_13 : decode b_Ce_putClient 13 = .ok (.aload_n 0, 1) := by decide +kernel
theorem d_Ce_putClient_14 : decode b_Ce_putClient 14 = .ok (.getfield 30, 3) := by decide +kernel
theorem d_Ce_putClient_17 : decode b_Ce_putClient 17 = .ok (.aload_n 0, 1) := by decide +kernel
theorem d_Ce_putClient_18 : decode b_Ce_putClient 18 = .ok (.getfield 81, 3) := by decide +kernel
theorem d_Ce_putClient_21 : decode b_Ce_putClient 21 = .ok (.iconst 1, 1) := by decide +kernel
theorem d_Ce_putClient_22 : decode b_Ce_putClient 22 = .ok (.invokevirtual 48, 3) := by decide +kernel
theorem d_Ce_putClient_25 : decode b_Ce_putClient 25 = .ok (.invokevirtual 302, 3) := by decide +kernel
theorem d_Ce_putClient_28 : decode b_Ce_putClient 28 = .ok (.goto 27, 3) := by decide +kernel
theorem d_Ce_putClient_31 : decode b_Ce_putClient 31 = .ok (.aload_n 1, 1) := by decide +kernel
theorem d_Ce_putClient_32 : decode b_Ce_putClient 32 = .ok (.iload_n 2, 1) := by decide +kernel
theorem d_Ce_putClient_33 : decode b_Ce_putClient 33 = .ok (.aload_n 0, 1) := by decide +kernel
theorem d_Ce_putClient_34 : decode b_Ce_putClient 34 = .ok (.getfield 22, 3) := by decide +kernel
theorem d_Ce_putClient_37 : decode b_Ce_putClient 37 = .ok (.getfield 140, 3) := by decide +kernel
theorem d_Ce_putClient_40 : decode b_Ce_putClient 40 = .ok (.aload_n 0, 1) := by decide +kernel
theorem d_Ce_putClient_41 : decode b_Ce_putClient 41 = .ok (.getfield 22, 3) := by decide +kernel
theorem d_Ce_putClient_44 : decode b_Ce_putClient 44 = .ok (.getfield 140, 3) := by decide +kernel
theorem d_Ce_putClient_47 : decode b_Ce_putClient 47 = .ok (.iconst 0, 1) := by decide +kernel
theorem d_Ce_putClient_48 : decode b_Ce_putClient 48 = .ok (.iconst 3, 1) := by decide +kernel
theorem d_Ce_putClient_49 : decode b_Ce_putClient 49 = .ok (.invokevirtual 48, 3) := by decide +kernel
theorem d_Ce_putClient_52 : decode b_Ce_putClient 52 = .ok (.invokevirtual 302, 3) := by decide +kernel
theorem d_Ce_putClient_55 : decode b_Ce_putClient 55 = .ok (.return_, 1) := by decide +kernel
abbrev b_Ce_putAddresses : ByteArray := prog_5_method_23_code
def y_Ce_putAddresses : MethodName := ⟨R_Ce, "putAddresses", "(LRealmHouse$Bytes;I)V"⟩
abbrev k_Ce_putAddresses : Cond := .code y_Ce_putAddresses b_Ce_putAddresses 3 none
theorem ki_Ce_putAddresses : k_Ce_putAddresses ∈ lw_tg := in_t 1319 (by decide +kernel)
theorem ks_Ce_putAddresses : Cond.instanceMethod y_Ce_putAddresses ∈ lw_tg := in_t 1318 (by decide +kernel)
theorem kx_Ce_putAddresses : Cond.selects R_Ce y_Ce_putAddresses y_Ce_putAddresses ∈ lw_tg := List.mem_filter.mpr ⟨List.mem_append_left _ (List.mem_of_getElem? (i := 47) (by decide +kernel)), rfl⟩
theorem kl_Ce_Ce_putAddresses : Cond.methodLink R_Ce 328 y_Ce_putAddresses ∈ lw_tg := in_t 1316 (by decide +kernel)
theorem hd_Ce_putAddresses : y_Ce_putAddresses.cls = R_Ce ∧ y_Ce_putAddresses.cls ≠ "java/lang/invoke/MethodHandle" ∧ y_Ce_putAddresses.cls ≠ "java/lang/invoke/VarHandle" ∧ (parseMethodDescriptor y_Ce_putAddresses.desc).map (fun d => d.parameters.length) = some 2 := by decide +kernel
theorem d_Ce_putAddresses_0 : decode b_Ce_putAddresses 0 = .ok (.aload_n 0, 1) := by decide +kernel
theorem d_Ce_putAddresses_1 : decode b_Ce_putAddresses 1 = .ok (.getfield 65, 3) := by decide +kernel
theorem d_Ce_putAddresses_4 : decode b_Ce_putAddresses 4 = .ok (.ifCond .ne 13, 3) := by decide +kernel
theorem d_Ce_putAddresses_7 : decode b_Ce_putAddresses 7 = .ok (.aload_n 0, 1) := by decide +kernel
theorem d_Ce_putAddresses_8 : decode b_Ce_putAddresses 8 = .ok (.ldc_w 257, 3) := by decide +kernel
theorem d_Ce_putAddresses_11 : decode b_Ce_putAddresses 11 = .ok (.invokevirtual 103, 3) := by decide +kernel
theorem d_Ce_putAddresses_14 : decode b_Ce_putAddresses 14 = .ok (.ifCond .eq 28, 3) := by decide +kernel
theorem d_Ce_putAddresses_17 : decode b_Ce_putAddresses 17 = .ok (.aload_n 1, 1) := by decide +kernel
theorem d_Ce_putAddresses_18 : decode b_Ce_putAddresses 18 = .ok (.iload_n 2, 1) := by decide +kernel
theorem d_Ce_putAddresses_19 : decode b_Ce_putAddresses 19 = .ok (.aload_n 0, 1) := by decide +kernel
theorem d_Ce_putAddresses_20 : decode b_Ce_putAddresses 20 = .ok (.getfield 30, 3) := by decide +kernel
theorem d_Ce_putAddresses_23 : decode b_Ce_putAddresses 23 = .ok (.aload_n 0, 1) := by decide +kernel
theorem d_Ce_putAddresses_24 : decode b_Ce_putAddresses 24 = .ok (.getfield 30, 3) := by decide +kernel
theorem d_Ce_putAddresses_27 : decode b_Ce_putAddresses 27 = .ok (.aload_n 0, 1) := by decide +kernel
theorem d_Ce_putAddresses_28 : decode b_Ce_putAddresses 28 = .ok (.getfield 81, 3) := by decide +kernel
theorem d_Ce_putAddresses_31 : decode b_Ce_putAddresses 31 = .ok (.bipush 9, 2) := by decide +kernel
theorem d_Ce_putAddresses_33 : decode b_Ce_putAddresses 33 = .ok (.invokevirtual 48, 3) := by decide +kernel
theorem d_Ce_putAddresses_36 : decode b_Ce_putAddresses 36 = .ok (.invokevirtual 302, 3) := by decide +kernel
theorem d_Ce_putAddresses_39 : decode b_Ce_putAddresses 39 = .ok (.goto 28, 3) := by decide +kernel
theorem d_Ce_putAddresses_42 : decode b_Ce_putAddresses 42 = .ok (.aload_n 1, 1) := by decide +kernel
theorem d_Ce_putAddresses_43 : decode b_Ce_putAddresses 43 = .ok (.iload_n 2, 1) := by decide +kernel
theorem d_Ce_putAddresses_44 : decode b_Ce_putAddresses 44 = .ok (.aload_n 0, 1) := by decide +kernel
theorem d_Ce_putAddresses_45 : decode b_Ce_putAddresses 45 = .ok (.getfield 22, 3) := by decide +kernel
theorem d_Ce_putAddresses_48 : decode b_Ce_putAddresses 48 = .ok (.getfield 140, 3) := by decide +kernel
theorem d_Ce_putAddresses_51 : decode b_Ce_putAddresses 51 = .ok (.aload_n 0, 1) := by decide +kernel
theorem d_Ce_putAddresses_52 : decode b_Ce_putAddresses 52 = .ok (.getfield 22, 3) := by decide +kernel
theorem d_Ce_putAddresses_55 : decode b_Ce_putAddresses 55 = .ok (.getfield 140, 3) := by decide +kernel
theorem d_Ce_putAddresses_58 : decode b_Ce_putAddresses 58 = .ok (.iconst 0, 1) := by decide +kernel
theorem d_Ce_putAddresses_59 : decode b_Ce_putAddresses 59 = .ok (.bipush 9, 2) := by decide +kernel
theorem d_Ce_putAddresses_61 : decode b_Ce_putAddresses 61 = .ok (.invokevirtual 48, 3) := by decide +kernel
theorem d_Ce_putAddresses_64 : decode b_Ce_putAddresses 64 = .ok (.invokevirtual 302, 3) := by decide +kernel
theorem d_Ce_putAddresses_67 : decode b_Ce_putAddresses 67 = .ok (.return_, 1) := by decide +kernel
abbrev b_Ce_putTimes : ByteArray := prog_5_method_24_code
def y_Ce_putTimes : MethodName := ⟨R_Ce, "putTimes", "(LRealmHouse$Bytes;)V"⟩
abbrev k_Ce_putTimes : Cond := .code y_Ce_putTimes b_Ce_putTimes 2 none
theorem ki_Ce_putTimes : k_Ce_putTimes ∈ lw_tg := in_t 1307 (by decide +kernel)
theorem ks_Ce_putTimes : Cond.instanceMethod y_Ce_putTimes ∈ lw_tg := in_t 1306 (by decide +kernel)
theorem kx_Ce_putTimes : Cond.selects R_Ce y_Ce_putTimes y_Ce_putTimes ∈ lw_tg := List.mem_filter.mpr ⟨List.mem_append_left _ (List.mem_of_getElem? (i := 45) (by decide +kernel)), rfl⟩
theorem kl_Ce_Ce_putTimes : Cond.methodLink R_Ce 324 y_Ce_putTimes ∈ lw_tg := in_t 1304 (by decide +kernel)
theorem hd_Ce_putTimes : y_Ce_putTimes.cls = R_Ce ∧ y_Ce_putTimes.cls ≠ "java/lang/invoke/MethodHandle" ∧ y_Ce_putTimes.cls ≠ "java/lang/invoke/VarHandle" ∧ (parseMethodDescriptor y_Ce_putTimes.desc).map (fun d => d.parameters.length) = some 1 := by decide +kernel
theorem d_Ce_putTimes_0 : decode b_Ce_putTimes 0 = .ok (.aload_n 1, 1) := by decide +kernel
theorem d_Ce_putTimes_1 : decode b_Ce_putTimes 1 = .ok (.iconst 5, 1) := by decide +kernel
theorem d_Ce_putTimes_2 : decode b_Ce_putTimes 2 = .ok (.aload_n 0, 1) := by decide +kernel
theorem d_Ce_putTimes_3 : decode b_Ce_putTimes 3 = .ok (.getfield 65, 3) := by decide +kernel
theorem d_Ce_putTimes_6 : decode b_Ce_putTimes 6 = .ok (.ifCond .eq 13, 3) := by decide +kernel
theorem d_Ce_putTimes_9 : decode b_Ce_putTimes 9 = .ok (.aload_n 0, 1) := by decide +kernel
theorem d_Ce_putTimes_10 : decode b_Ce_putTimes 10 = .ok (.getfield 18, 3) := by decide +kernel
theorem d_Ce_putTimes_13 : decode b_Ce_putTimes 13 = .ok (.getfield 112, 3) := by decide +kernel
theorem d_Ce_putTimes_16 : decode b_Ce_putTimes 16 = .ok (.goto 25, 3) := by decide +kernel
theorem d_Ce_putTimes_19 : decode b_Ce_putTimes 19 = .ok (.aload_n 0, 1) := by decide +kernel
theorem d_Ce_putTimes_20 : decode b_Ce_putTimes 20 = .ok (.getfield 22, 3) := by decide +kernel
theorem d_Ce_putTimes_23 : decode b_Ce_putTimes 23 = .ok (.getfield 140, 3) := by decide +kernel
theorem d_Ce_putTimes_26 : decode b_Ce_putTimes 26 = .ok (.aload_n 0, 1) := by decide +kernel
theorem d_Ce_putTimes_27 : decode b_Ce_putTimes 27 = .ok (.getfield 22, 3) := by decide +kernel
theorem d_Ce_putTimes_30 : decode b_Ce_putTimes 30 = .ok (.getfield 140, 3) := by decide +kernel
theorem d_Ce_putTimes_33 : decode b_Ce_putTimes 33 = .ok (.iconst 0, 1) := by decide +kernel
theorem d_Ce_putTimes_34 : decode b_Ce_putTimes 34 = .ok (.iconst 5, 1) := by decide +kernel
theorem d_Ce_putTimes_35 : decode b_Ce_putTimes 35 = .ok (.invokevirtual 48, 3) := by decide +kernel
theorem d_Ce_putTimes_38 : decode b_Ce_putTimes 38 = .ok (.invokevirtual 109, 3) := by decide +kernel
theorem d_Ce_putTimes_41 : decode b_Ce_putTimes 41 = .ok (.invokevirtual 306, 3) := by decide +kernel
theorem d_Ce_putTimes_44 : decode b_Ce_putTimes 44 = .ok (.aload_n 1, 1) := by decide +kernel
theorem d_Ce_putTimes_45 : decode b_Ce_putTimes 45 = .ok (.bipush 6, 2) := by decide +kernel
theorem d_Ce_putTimes_47 : decode b_Ce_putTimes 47 = .ok (.aload_n 0, 1) := by decide +kernel
theorem d_Ce_putTimes_48 : decode b_Ce_putTimes 48 = .ok (.getfield 18, 3) := by decide +kernel
theorem d_Ce_putTimes_51 : decode b_Ce_putTimes 51 = .ok (.getfield 112, 3) := by decide +kernel
theorem d_Ce_putTimes_54 : decode b_Ce_putTimes 54 = .ok (.invokevirtual 306, 3) := by decide +kernel
theorem d_Ce_putTimes_57 : decode b_Ce_putTimes 57 = .ok (.aload_n 1, 1) := by decide +kernel
theorem d_Ce_putTimes_58 : decode b_Ce_putTimes 58 = .ok (.bipush 7, 2) := by decide +kernel
theorem d_Ce_putTimes_60 : decode b_Ce_putTimes 60 = .ok (.aload_n 0, 1) := by decide +kernel
theorem d_Ce_putTimes_61 : decode b_Ce_putTimes 61 = .ok (.getfield 226, 3) := by decide +kernel
theorem d_Ce_putTimes_64 : decode b_Ce_putTimes 64 = .ok (.invokevirtual 306, 3) := by decide +kernel
theorem d_Ce_putTimes_67 : decode b_Ce_putTimes 67 = .ok (.aload_n 0, 1) := by decide +kernel
theorem d_Ce_putTimes_68 : decode b_Ce_putTimes 68 = .ok (.getfield 243, 3) := by decide +kernel
theorem d_Ce_putTimes_71 : decode b_Ce_putTimes 71 = .ok (.ifCond .lt 13, 3) := by decide +kernel
theorem d_Ce_putTimes_74 : decode b_Ce_putTimes 74 = .ok (.aload_n 1, 1) := by decide +kernel
theorem d_Ce_putTimes_75 : decode b_Ce_putTimes 75 = .ok (.bipush 8, 2) := by decide +kernel
theorem d_Ce_putTimes_77 : decode b_Ce_putTimes 77 = .ok (.aload_n 0, 1) := by decide +kernel
theorem d_Ce_putTimes_78 : decode b_Ce_putTimes 78 = .ok (.getfield 243, 3) := by decide +kernel
theorem d_Ce_putTimes_81 : decode b_Ce_putTimes 81 = .ok (.invokevirtual 306, 3) := by decide +kernel
theorem d_Ce_putTimes_84 : decode b_Ce_putTimes 84 = .ok (.return_, 1) := by decide +kernel
abbrev b_Ce_putTicket : ByteArray := prog_5_method_25_code
def y_Ce_putTicket : MethodName := ⟨R_Ce, "putTicket", "([B)V"⟩
abbrev k_Ce_putTicket : Cond := .code y_Ce_putTicket b_Ce_putTicket 8 none
theorem ki_Ce_putTicket : k_Ce_putTicket ∈ lw_tg := in_t 1281 (by decide +kernel)
theorem ks_Ce_putTicket : Cond.instanceMethod y_Ce_putTicket ∈ lw_tg := in_t 1280 (by decide +kernel)
theorem kx_Ce_putTicket : Cond.selects R_Ce y_Ce_putTicket y_Ce_putTicket ∈ lw_tg := List.mem_filter.mpr ⟨List.mem_append_left _ (List.mem_of_getElem? (i := 44) (by decide +kernel)), rfl⟩
theorem kl_Ce_Ce_putTicket : Cond.methodLink R_Ce 292 y_Ce_putTicket ∈ lw_tg := in_t 1278 (by decide +kernel)
theorem hd_Ce_putTicket : y_Ce_putTicket.cls = R_Ce ∧ y_Ce_putTicket.cls ≠ "java/lang/invoke/MethodHandle" ∧ y_Ce_putTicket.cls ≠ "java/lang/invoke/VarHandle" ∧ (parseMethodDescriptor y_Ce_putTicket.desc).map (fun d => d.parameters.length) = some 1 := by decide +kernel
theorem d_Ce_putTicket_0 : decode b_Ce_putTicket 0 = .ok (.aload_n 0, 1) := by decide +kernel
theorem d_Ce_putTicket_1 : decode b_Ce_putTicket 1 = .ok (.getfield 18, 3) := by decide +kernel
theorem d_Ce_putTicket_4 : decode b_Ce_putTicket 4 = .ok (.getfield 165, 3) := by decide +kernel
theorem d_Ce_putTicket_7 : decode b_Ce_putTicket 7 = .ok (.astore_n 2, 1) := by decide +kernel
theorem d_Ce_putTicket_8 : decode b_Ce_putTicket 8 = .ok (.aload_n 2, 1) := by decide +kernel
theorem d_Ce_putTicket_9 : decode b_Ce_putTicket 9 = .ok (.invokevirtual 265, 3) := by decide +kernel
theorem d_Ce_putTicket_12 : decode b_Ce_putTicket 12 = .ok (.aload_n 2, 1) := by decide +kernel
theorem d_Ce_putTicket_13 : decode b_Ce_putTicket 13 = .ok (.bipush 99, 2) := by decide +kernel
theorem d_Ce_putTicket_15 : decode b_Ce_putTicket 15 = .ok (.invokevirtual 268, 3) := by decide +kernel
theorem d_Ce_putTicket_18 : decode b_Ce_putTicket 18 = .ok (.istore_n 3, 1) := by decide +kernel
theorem d_Ce_putTicket_19 : decode b_Ce_putTicket 19 = .ok (.aload_n 2, 1) := by decide +kernel
theorem d_Ce_putTicket_20 : decode b_Ce_putTicket 20 = .ok (.bipush 48, 2) := by decide +kernel
theorem d_Ce_putTicket_22 : decode b_Ce_putTicket 22 = .ok (.invokevirtual 268, 3) := by decide +kernel
theorem d_Ce_putTicket_25 : decode b_Ce_putTicket 25 = .ok (.istore 4, 2) := by decide +kernel
theorem d_Ce_putTicket_27 : decode b_Ce_putTicket 27 = .ok (.aload_n 2, 1) := by decide +kernel
theorem d_Ce_putTicket_28 : decode b_Ce_putTicket 28 = .ok (.iconst 0, 1) := by decide +kernel
theorem d_Ce_putTicket_29 : decode b_Ce_putTicket 29 = .ok (.aload_n 0, 1) := by decide +kernel
theorem d_Ce_putTicket_30 : decode b_Ce_putTicket 30 = .ok (.getfield 247, 3) := by decide +kernel
theorem d_Ce_putTicket_33 : decode b_Ce_putTicket 33 = .ok (.invokevirtual 310, 3) := by decide +kernel
theorem d_Ce_putTicket_36 : decode b_Ce_putTicket 36 = .ok (.aload_n 2, 1) := by decide +kernel
theorem d_Ce_putTicket_37 : decode b_Ce_putTicket 37 = .ok (.iconst 1, 1) := by decide +kernel
theorem d_Ce_putTicket_38 : decode b_Ce_putTicket 38 = .ok (.aload_n 1, 1) := by decide +kernel
theorem d_Ce_putTicket_39 : decode b_Ce_putTicket 39 = .ok (.invokevirtual 313, 3) := by decide +kernel
theorem d_Ce_putTicket_42 : decode b_Ce_putTicket 42 = .ok (.aload_n 2, 1) := by decide +kernel
theorem d_Ce_putTicket_43 : decode b_Ce_putTicket 43 = .ok (.iconst 2, 1) := by decide +kernel
theorem d_Ce_putTicket_44 : decode b_Ce_putTicket 44 = .ok (.invokevirtual 285, 3) := by decide +kernel
theorem d_Ce_putTicket_47 : decode b_Ce_putTicket 47 = .ok (.aload_n 0, 1) := by decide +kernel
theorem d_Ce_putTicket_48 : decode b_Ce_putTicket 48 = .ok (.aload_n 2, 1) := by decide +kernel
theorem d_Ce_putTicket_49 : decode b_Ce_putTicket 49 = .ok (.iconst 3, 1) := by decide +kernel
theorem d_Ce_putTicket_50 : decode b_Ce_putTicket 50 = .ok (.invokevirtual 288, 3) := by decide +kernel
theorem d_Ce_putTicket_53 : decode b_Ce_putTicket 53 = .ok (.aload_n 2, 1) := by decide +kernel
theorem d_Ce_putTicket_54 : decode b_Ce_putTicket 54 = .ok (.iconst 4, 1) := by decide +kernel
theorem d_Ce_putTicket_55 : decode b_Ce_putTicket 55 = .ok (.iconst 1, 1) := by decide +kernel
theorem d_Ce_putTicket_56 : decode b_Ce_putTicket 56 = .ok (.getstatic 317, 3) := by decide +kernel
theorem d_Ce_putTicket_59 : decode b_Ce_putTicket 59 = .ok (.iconst 0, 1) := by decide +kernel
theorem d_Ce_putTicket_60 : decode b_Ce_putTicket 60 = .ok (.invokevirtual 320, 3) := by decide +kernel
theorem d_Ce_putTicket_63 : decode b_Ce_putTicket 63 = .ok (.aload_n 0, 1) := by decide +kernel
theorem d_Ce_putTicket_64 : decode b_Ce_putTicket 64 = .ok (.aload_n 2, 1) := by decide +kernel
theorem d_Ce_putTicket_65 : decode b_Ce_putTicket 65 = .ok (.invokevirtual 324, 3) := by decide +kernel
theorem d_Ce_putTicket_68 : decode b_Ce_putTicket 68 = .ok (.aload_n 0, 1) := by decide +kernel
theorem d_Ce_putTicket_69 : decode b_Ce_putTicket 69 = .ok (.aload_n 2, 1) := by decide +kernel
theorem d_Ce_putTicket_70 : decode b_Ce_putTicket 70 = .ok (.bipush 9, 2) := by decide +kernel
theorem d_Ce_putTicket_72 : decode b_Ce_putTicket 72 = .ok (.invokevirtual 328, 3) := by decide +kernel
theorem d_Ce_putTicket_75 : decode b_Ce_putTicket 75 = .ok (.aload_n 2, 1) := by decide +kernel
theorem d_Ce_putTicket_76 : decode b_Ce_putTicket 76 = .ok (.iload 4, 2) := by decide +kernel
theorem d_Ce_putTicket_78 : decode b_Ce_putTicket 78 = .ok (.invokevirtual 281, 3) := by decide +kernel
theorem d_Ce_putTicket_81 : decode b_Ce_putTicket 81 = .ok (.aload_n 2, 1) := by decide +kernel
theorem d_Ce_putTicket_82 : decode b_Ce_putTicket 82 = .ok (.iload_n 3, 1) := by decide +kernel
theorem d_Ce_putTicket_83 : decode b_Ce_putTicket 83 = .ok (.invokevirtual 281, 3) := by decide +kernel
theorem d_Ce_putTicket_86 : decode b_Ce_putTicket 86 = .ok (.aload_n 0, 1) := by decide +kernel
theorem d_Ce_putTicket_87 : decode b_Ce_putTicket 87 = .ok (.getfield 34, 3) := by decide +kernel
theorem d_Ce_putTicket_90 : decode b_Ce_putTicket 90 = .ok (.bipush 97, 2) := by decide +kernel
theorem d_Ce_putTicket_92 : decode b_Ce_putTicket 92 = .ok (.invokevirtual 268, 3) := by decide +kernel
theorem d_Ce_putTicket_95 : decode b_Ce_putTicket 95 = .ok (.istore 5, 2) := by decide +kernel
theorem d_Ce_putTicket_97 : decode b_Ce_putTicket 97 = .ok (.aload_n 0, 1) := by decide +kernel
theorem d_Ce_putTicket_98 : decode b_Ce_putTicket 98 = .ok (.getfield 34, 3) := by decide +kernel
theorem d_Ce_putTicket_101 : decode b_Ce_putTicket 101 = .ok (.bipush 48, 2) := by decide +kernel
theorem d_Ce_putTicket_103 : decode b_Ce_putTicket 103 = .ok (.invokevirtual 268, 3) := by decide +kernel
theorem d_Ce_putTicket_106 : decode b_Ce_putTicket 106 = .ok (.istore 6, 2) := by decide +kernel
theorem d_Ce_putTicket_108 : decode b_Ce_putTicket 108 = .ok (.aload_n 0, 1) := by decide +kernel
theorem d_Ce_putTicket_109 : decode b_Ce_putTicket 109 = .ok (.getfield 34, 3) := by decide +kernel
theorem d_Ce_putTicket_112 : decode b_Ce_putTicket 112 = .ok (.iconst 0, 1) := by decide +kernel
theorem d_Ce_putTicket_113 : decode b_Ce_putTicket 113 = .ok (.ldc2_w 79, 3) := by decide +kernel
theorem d_Ce_putTicket_116 : decode b_Ce_putTicket 116 = .ok (.invokevirtual 271, 3) := by decide +kernel
theorem d_Ce_putTicket_119 : decode b_Ce_putTicket 119 = .ok (.aload_n 0, 1) := by decide +kernel
theorem d_Ce_putTicket_120 : decode b_Ce_putTicket 120 = .ok (.getfield 34, 3) := by decide +kernel
theorem d_Ce_putTicket_123 : decode b_Ce_putTicket 123 = .ok (.iconst 1, 1) := by decide +kernel
theorem d_Ce_putTicket_124 : decode b_Ce_putTicket 124 = .ok (.invokevirtual 285, 3) := by decide +kernel
theorem d_Ce_putTicket_127 : decode b_Ce_putTicket 127 = .ok (.aload_n 0, 1) := by decide +kernel
theorem d_Ce_putTicket_128 : decode b_Ce_putTicket 128 = .ok (.getfield 34, 3) := by decide +kernel
theorem d_Ce_putTicket_131 : decode b_Ce_putTicket 131 = .ok (.iconst 2, 1) := by decide +kernel
theorem d_Ce_putTicket_132 : decode b_Ce_putTicket 132 = .ok (.aload_n 0, 1) := by decide +kernel
theorem d_Ce_putTicket_133 : decode b_Ce_putTicket 133 = .ok (.getfield 30, 3) := by decide +kernel
theorem d_Ce_putTicket_136 : decode b_Ce_putTicket 136 = .ok (.aload_n 0, 1) := by decide +kernel
theorem d_Ce_putTicket_137 : decode b_Ce_putTicket 137 = .ok (.getfield 30, 3) := by decide +kernel
theorem d_Ce_putTicket_140 : decode b_Ce_putTicket 140 = .ok (.aload_n 0, 1) := by decide +kernel
theorem d_Ce_putTicket_141 : decode b_Ce_putTicket 141 = .ok (.getfield 81, 3) := by decide +kernel
theorem d_Ce_putTicket_144 : decode b_Ce_putTicket 144 = .ok (.iconst 3, 1) := by decide +kernel
theorem d_Ce_putTicket_145 : decode b_Ce_putTicket 145 = .ok (.invokevirtual 48, 3) := by decide +kernel
theorem d_Ce_putTicket_148 : decode b_Ce_putTicket 148 = .ok (.invokevirtual 302, 3) := by decide +kernel
theorem d_Ce_putTicket_151 : decode b_Ce_putTicket 151 = .ok (.aload_n 0, 1) := by decide +kernel
theorem d_Ce_putTicket_152 : decode b_Ce_putTicket 152 = .ok (.getfield 34, 3) := by decide +kernel
theorem d_Ce_putTicket_155 : decode b_Ce_putTicket 155 = .ok (.iconst 3, 1) := by decide +kernel
theorem d_Ce_putTicket_156 : decode b_Ce_putTicket 156 = .ok (.invokevirtual 275, 3) := by decide +kernel
theorem d_Ce_putTicket_159 : decode b_Ce_putTicket 159 = .ok (.istore 7, 2) := by decide +kernel
theorem d_Ce_putTicket_161 : decode b_Ce_putTicket 161 = .ok (.aload_n 0, 1) := by decide +kernel
theorem d_Ce_putTicket_162 : decode b_Ce_putTicket 162 = .ok (.getfield 18, 3) := by decide +kernel
theorem d_Ce_putTicket_165 : decode b_Ce_putTicket 165 = .ok (.aload_n 0, 1) := by decide +kernel
theorem d_Ce_putTicket_166 : decode b_Ce_putTicket 166 = .ok (.getfield 34, 3) := by decide +kernel
theorem d_Ce_putTicket_169 : decode b_Ce_putTicket 169 = .ok (.aload_n 0, 1) := by decide +kernel
theorem d_Ce_putTicket_170 : decode b_Ce_putTicket 170 = .ok (.getfield 41, 3) := by decide +kernel
theorem d_Ce_putTicket_173 : decode b_Ce_putTicket 173 = .ok (.ldc2_w 155, 3) := by decide +kernel
theorem d_Ce_putTicket_176 : decode b_Ce_putTicket 176 = .ok (.invokevirtual 168, 3) := by decide +kernel
theorem d_Ce_putTicket_179 : decode b_Ce_putTicket 179 = .ok (.iconst 2, 1) := by decide +kernel
theorem d_Ce_putTicket_180 : decode b_Ce_putTicket 180 = .ok (.aload_n 0, 1) := by decide +kernel
theorem d_Ce_putTicket_181 : decode b_Ce_putTicket 181 = .ok (.getfield 41, 3) := by decide +kernel
theorem d_Ce_putTicket_184 : decode b_Ce_putTicket 184 = .ok (.getfield 331, 3) := by decide +kernel
theorem d_Ce_putTicket_187 : decode b_Ce_putTicket 187 = .ok (.invokevirtual 334, 3) := by decide +kernel
theorem d_Ce_putTicket_190 : decode b_Ce_putTicket 190 = .ok (.aload_n 0, 1) := by decide +kernel
theorem d_Ce_putTicket_191 : decode b_Ce_putTicket 191 = .ok (.getfield 34, 3) := by decide +kernel
theorem d_Ce_putTicket_194 : decode b_Ce_putTicket 194 = .ok (.iload 7, 2) := by decide +kernel
theorem d_Ce_putTicket_196 : decode b_Ce_putTicket 196 = .ok (.invokevirtual 281, 3) := by decide +kernel
theorem d_Ce_putTicket_199 : decode b_Ce_putTicket 199 = .ok (.aload_n 0, 1) := by decide +kernel
theorem d_Ce_putTicket_200 : decode b_Ce_putTicket 200 = .ok (.getfield 34, 3) := by decide +kernel
theorem d_Ce_putTicket_203 : decode b_Ce_putTicket 203 = .ok (.iload 6, 2) := by decide +kernel
theorem d_Ce_putTicket_205 : decode b_Ce_putTicket 205 = .ok (.invokevirtual 281, 3) := by decide +kernel
theorem d_Ce_putTicket_208 : decode b_Ce_putTicket 208 = .ok (.aload_n 0, 1) := by decide +kernel
theorem d_Ce_putTicket_209 : decode b_Ce_putTicket 209 = .ok (.getfield 34, 3) := by decide +kernel
theorem d_Ce_putTicket_212 : decode b_Ce_putTicket 212 = .ok (.iload 5, 2) := by decide +kernel
theorem d_Ce_putTicket_214 : decode b_Ce_putTicket 214 = .ok (.invokevirtual 281, 3) := by decide +kernel
theorem d_Ce_putTicket_217 : decode b_Ce_putTicket 217 = .ok (.return_, 1) := by decide +kernel
abbrev b_Ce_putReplyPart : ByteArray := prog_5_method_26_code
def y_Ce_putReplyPart : MethodName := ⟨R_Ce, "putReplyPart", "([B)V"⟩
abbrev k_Ce_putReplyPart : Cond := .code y_Ce_putReplyPart b_Ce_putReplyPart 8 none
theorem ki_Ce_putReplyPart : k_Ce_putReplyPart ∈ lw_tg := in_t 1337 (by decide +kernel)
theorem ks_Ce_putReplyPart : Cond.instanceMethod y_Ce_putReplyPart ∈ lw_tg := in_t 1336 (by decide +kernel)
theorem kx_Ce_putReplyPart : Cond.selects R_Ce y_Ce_putReplyPart y_Ce_putReplyPart ∈ lw_tg := List.mem_filter.mpr ⟨List.mem_append_left _ (List.mem_of_getElem? (i := 48) (by decide +kernel)), rfl⟩
theorem kl_Ce_Ce_putReplyPart : Cond.methodLink R_Ce 296 y_Ce_putReplyPart ∈ lw_tg := in_t 1334 (by decide +kernel)
theorem hd_Ce_putReplyPart : y_Ce_putReplyPart.cls = R_Ce ∧ y_Ce_putReplyPart.cls ≠ "java/lang/invoke/MethodHandle" ∧ y_Ce_putReplyPart.cls ≠ "java/lang/invoke/VarHandle" ∧ (parseMethodDescriptor y_Ce_putReplyPart.desc).map (fun d => d.parameters.length) = some 1 := by decide +kernel
theorem d_Ce_putReplyPart_0 : decode b_Ce_putReplyPart 0 = .ok (.aload_n 0, 1) := by decide +kernel
theorem d_Ce_putReplyPart_1 : decode b_Ce_putReplyPart 1 = .ok (.getfield 18, 3) := by decide +kernel
theorem d_Ce_putReplyPart_4 : decode b_Ce_putReplyPart 4 = .ok (.getfield 165, 3) := by decide +kernel
theorem d_Ce_putReplyPart_7 : decode b_Ce_putReplyPart 7 = .ok (.astore_n 2, 1) := by decide +kernel
theorem d_Ce_putReplyPart_8 : decode b_Ce_putReplyPart 8 = .ok (.aload_n 2, 1) := by decide +kernel
theorem d_Ce_putReplyPart_9 : decode b_Ce_putReplyPart 9 = .ok (.invokevirtual 265, 3) := by decide +kernel
theorem d_Ce_putReplyPart_12 : decode b_Ce_putReplyPart 12 = .ok (.aload_n 2, 1) := by decide +kernel
theorem d_Ce_putReplyPart_13 : decode b_Ce_putReplyPart 13 = .ok (.aload_n 0, 1) := by decide +kernel
theorem d_Ce_putReplyPart_14 : decode b_Ce_putReplyPart 14 = .ok (.getfield 65, 3) := by decide +kernel
theorem d_Ce_putReplyPart_17 : decode b_Ce_putReplyPart 17 = .ok (.ifCond .eq 8, 3) := by decide +kernel
theorem d_Ce_putReplyPart_20 : decode b_Ce_putReplyPart 20 = .ok (.bipush 121, 2) := by decide +kernel
theorem d_Ce_putReplyPart_22 : decode b_Ce_putReplyPart 22 = .ok (.goto 5, 3) := by decide +kernel
theorem d_Ce_putReplyPart_25 : decode b_Ce_putReplyPart 25 = .ok (.bipush 122, 2) := by decide +kernel
theorem d_Ce_putReplyPart_27 : decode b_Ce_putReplyPart 27 = .ok (.invokevirtual 268, 3) := by decide +kernel
theorem d_Ce_putReplyPart_30 : decode b_Ce_putReplyPart 30 = .ok (.istore_n 3, 1) := by decide +kernel
theorem d_Ce_putReplyPart_31 : decode b_Ce_putReplyPart 31 = .ok (.aload_n 2, 1) := by decide +kernel
theorem d_Ce_putReplyPart_32 : decode b_Ce_putReplyPart 32 = .ok (.bipush 48, 2) := by decide +kernel
theorem d_Ce_putReplyPart_34 : decode b_Ce_putReplyPart 34 = .ok (.invokevirtual 268, 3) := by decide +kernel
theorem d_Ce_putReplyPart_37 : decode b_Ce_putReplyPart 37 = .ok (.istore 4, 2) := by decide +kernel
theorem d_Ce_putReplyPart_39 : decode b_Ce_putReplyPart 39 = .ok (.aload_n 2, 1) := by decide +kernel
theorem d_Ce_putReplyPart_40 : decode b_Ce_putReplyPart 40 = .ok (.iconst 0, 1) := by decide +kernel
theorem d_Ce_putReplyPart_41 : decode b_Ce_putReplyPart 41 = .ok (.aload_n 1, 1) := by decide +kernel
theorem d_Ce_putReplyPart_42 : decode b_Ce_putReplyPart 42 = .ok (.invokevirtual 313, 3) := by decide +kernel
theorem d_Ce_putReplyPart_45 : decode b_Ce_putReplyPart 45 = .ok (.aload_n 2, 1) := by decide +kernel
theorem d_Ce_putReplyPart_46 : decode b_Ce_putReplyPart 46 = .ok (.iconst 1, 1) := by decide +kernel
theorem d_Ce_putReplyPart_47 : decode b_Ce_putReplyPart 47 = .ok (.invokevirtual 275, 3) := by decide +kernel
theorem d_Ce_putReplyPart_50 : decode b_Ce_putReplyPart 50 = .ok (.istore 5, 2) := by decide +kernel
theorem d_Ce_putReplyPart_52 : decode b_Ce_putReplyPart 52 = .ok (.aload_n 2, 1) := by decide +kernel
theorem d_Ce_putReplyPart_53 : decode b_Ce_putReplyPart 53 = .ok (.bipush 48, 2) := by decide +kernel
theorem d_Ce_putReplyPart_55 : decode b_Ce_putReplyPart 55 = .ok (.invokevirtual 268, 3) := by decide +kernel
theorem d_Ce_putReplyPart_58 : decode b_Ce_putReplyPart 58 = .ok (.istore 6, 2) := by decide +kernel
theorem d_Ce_putReplyPart_60 : decode b_Ce_putReplyPart 60 = .ok (.aload_n 2, 1) := by decide +kernel
theorem d_Ce_putReplyPart_61 : decode b_Ce_putReplyPart 61 = .ok (.bipush 48, 2) := by decide +kernel
theorem d_Ce_putReplyPart_63 : decode b_Ce_putReplyPart 63 = .ok (.invokevirtual 268, 3) := by decide +kernel
theorem d_Ce_putReplyPart_66 : decode b_Ce_putReplyPart 66 = .ok (.istore 7, 2) := by decide +kernel
theorem d_Ce_putReplyPart_68 : decode b_Ce_putReplyPart 68 = .ok (.aload_n 2, 1) := by decide +kernel
theorem d_Ce_putReplyPart_69 : decode b_Ce_putReplyPart 69 = .ok (.iconst 0, 1) := by decide +kernel
theorem d_Ce_putReplyPart_70 : decode b_Ce_putReplyPart 70 = .ok (.lconst 0, 1) := by decide +kernel
theorem d_Ce_putReplyPart_71 : decode b_Ce_putReplyPart 71 = .ok (.invokevirtual 271, 3) := by decide +kernel
theorem d_Ce_putReplyPart_74 : decode b_Ce_putReplyPart 74 = .ok (.aload_n 2, 1) := by decide +kernel
theorem d_Ce_putReplyPart_75 : decode b_Ce_putReplyPart 75 = .ok (.iconst 1, 1) := by decide +kernel
theorem d_Ce_putReplyPart_76 : decode b_Ce_putReplyPart 76 = .ok (.aload_n 0, 1) := by decide +kernel
theorem d_Ce_putReplyPart_77 : decode b_Ce_putReplyPart 77 = .ok (.getfield 18, 3) := by decide +kernel
theorem d_Ce_putReplyPart_80 : decode b_Ce_putReplyPart 80 = .ok (.getfield 112, 3) := by decide +kernel
theorem d_Ce_putReplyPart_83 : decode b_Ce_putReplyPart 83 = .ok (.invokevirtual 306, 3) := by decide +kernel
theorem d_Ce_putReplyPart_86 : decode b_Ce_putReplyPart 86 = .ok (.aload_n 2, 1) := by decide +kernel
theorem d_Ce_putReplyPart_87 : decode b_Ce_putReplyPart 87 = .ok (.iload 7, 2) := by decide +kernel
theorem d_Ce_putReplyPart_89 : decode b_Ce_putReplyPart 89 = .ok (.invokevirtual 281, 3) := by decide +kernel
theorem d_Ce_putReplyPart_92 : decode b_Ce_putReplyPart 92 = .ok (.aload_n 2, 1) := by decide +kernel
theorem d_Ce_putReplyPart_93 : decode b_Ce_putReplyPart 93 = .ok (.iload 6, 2) := by decide +kernel
theorem d_Ce_putReplyPart_95 : decode b_Ce_putReplyPart 95 = .ok (.invokevirtual 281, 3) := by decide +kernel
theorem d_Ce_putReplyPart_98 : decode b_Ce_putReplyPart 98 = .ok (.aload_n 2, 1) := by decide +kernel
theorem d_Ce_putReplyPart_99 : decode b_Ce_putReplyPart 99 = .ok (.iload 5, 2) := by decide +kernel
theorem d_Ce_putReplyPart_101 : decode b_Ce_putReplyPart 101 = .ok (.invokevirtual 281, 3) := by decide +kernel
theorem d_Ce_putReplyPart_104 : decode b_Ce_putReplyPart 104 = .ok (.aload_n 2, 1) := by decide +kernel
theorem d_Ce_putReplyPart_105 : decode b_Ce_putReplyPart 105 = .ok (.iconst 2, 1) := by decide +kernel
theorem d_Ce_putReplyPart_106 : decode b_Ce_putReplyPart 106 = .ok (.aload_n 0, 1) := by decide +kernel
theorem d_Ce_putReplyPart_107 : decode b_Ce_putReplyPart 107 = .ok (.getfield 30, 3) := by decide +kernel
theorem d_Ce_putReplyPart_110 : decode b_Ce_putReplyPart 110 = .ok (.aload_n 0, 1) := by decide +kernel
theorem d_Ce_putReplyPart_111 : decode b_Ce_putReplyPart 111 = .ok (.getfield 30, 3) := by decide +kernel
theorem d_Ce_putReplyPart_114 : decode b_Ce_putReplyPart 114 = .ok (.aload_n 0, 1) := by decide +kernel
theorem d_Ce_putReplyPart_115 : decode b_Ce_putReplyPart 115 = .ok (.getfield 81, 3) := by decide +kernel
theorem d_Ce_putReplyPart_118 : decode b_Ce_putReplyPart 118 = .ok (.bipush 7, 2) := by decide +kernel
theorem d_Ce_putReplyPart_120 : decode b_Ce_putReplyPart 120 = .ok (.invokevirtual 48, 3) := by decide +kernel
theorem d_Ce_putReplyPart_123 : decode b_Ce_putReplyPart 123 = .ok (.invokevirtual 302, 3) := by decide +kernel
theorem d_Ce_putReplyPart_126 : decode b_Ce_putReplyPart 126 = .ok (.aload_n 2, 1) := by decide +kernel
theorem d_Ce_putReplyPart_127 : decode b_Ce_putReplyPart 127 = .ok (.iconst 4, 1) := by decide +kernel
theorem d_Ce_putReplyPart_128 : decode b_Ce_putReplyPart 128 = .ok (.aload_n 0, 1) := by decide +kernel
theorem d_Ce_putReplyPart_129 : decode b_Ce_putReplyPart 129 = .ok (.getfield 247, 3) := by decide +kernel
theorem d_Ce_putReplyPart_132 : decode b_Ce_putReplyPart 132 = .ok (.invokevirtual 310, 3) := by decide +kernel
theorem d_Ce_putReplyPart_135 : decode b_Ce_putReplyPart 135 = .ok (.aload_n 0, 1) := by decide +kernel
theorem d_Ce_putReplyPart_136 : decode b_Ce_putReplyPart 136 = .ok (.aload_n 2, 1) := by decide +kernel
theorem d_Ce_putReplyPart_137 : decode b_Ce_putReplyPart 137 = .ok (.invokevirtual 324, 3) := by decide +kernel
theorem d_Ce_putReplyPart_140 : decode b_Ce_putReplyPart 140 = .ok (.aload_n 2, 1) := by decide +kernel
theorem d_Ce_putReplyPart_141 : decode b_Ce_putReplyPart 141 = .ok (.bipush 9, 2) := by decide +kernel
theorem d_Ce_putReplyPart_143 : decode b_Ce_putReplyPart 143 = .ok (.invokevirtual 285, 3) := by decide +kernel
theorem d_Ce_putReplyPart_146 : decode b_Ce_putReplyPart 146 = .ok (.aload_n 2, 1) := by decide +kernel
theorem d_Ce_putReplyPart_147 : decode b_Ce_putReplyPart 147 = .ok (.bipush 10, 2) := by decide +kernel
theorem d_Ce_putReplyPart_149 : decode b_Ce_putReplyPart 149 = .ok (.aload_n 0, 1) := by decide +kernel
theorem d_Ce_putReplyPart_150 : decode b_Ce_putReplyPart 150 = .ok (.getfield 30, 3) := by decide +kernel
theorem d_Ce_putReplyPart_153 : decode b_Ce_putReplyPart 153 = .ok (.aload_n 0, 1) := by decide +kernel
theorem d_Ce_putReplyPart_154 : decode b_Ce_putReplyPart 154 = .ok (.getfield 30, 3) := by decide +kernel
theorem d_Ce_putReplyPart_157 : decode b_Ce_putReplyPart 157 = .ok (.aload_n 0, 1) := by decide +kernel
theorem d_Ce_putReplyPart_158 : decode b_Ce_putReplyPart 158 = .ok (.getfield 81, 3) := by decide +kernel
theorem d_Ce_putReplyPart_161 : decode b_Ce_putReplyPart 161 = .ok (.iconst 3, 1) := by decide +kernel
theorem d_Ce_putReplyPart_162 : decode b_Ce_putReplyPart 162 = .ok (.invokevirtual 48, 3) := by decide +kernel
theorem d_Ce_putReplyPart_165 : decode b_Ce_putReplyPart 165 = .ok (.invokevirtual 302, 3) := by decide +kernel
theorem d_Ce_putReplyPart_168 : decode b_Ce_putReplyPart 168 = .ok (.aload_n 0, 1) := by decide +kernel
theorem d_Ce_putReplyPart_169 : decode b_Ce_putReplyPart 169 = .ok (.aload_n 2, 1) := by decide +kernel
theorem d_Ce_putReplyPart_170 : decode b_Ce_putReplyPart 170 = .ok (.bipush 11, 2) := by decide +kernel
theorem d_Ce_putReplyPart_172 : decode b_Ce_putReplyPart 172 = .ok (.invokevirtual 328, 3) := by decide +kernel
theorem d_Ce_putReplyPart_175 : decode b_Ce_putReplyPart 175 = .ok (.aload_n 2, 1) := by decide +kernel
theorem d_Ce_putReplyPart_176 : decode b_Ce_putReplyPart 176 = .ok (.iload 4, 2) := by decide +kernel
theorem d_Ce_putReplyPart_178 : decode b_Ce_putReplyPart 178 = .ok (.invokevirtual 281, 3) := by decide +kernel
theorem d_Ce_putReplyPart_181 : decode b_Ce_putReplyPart 181 = .ok (.aload_n 2, 1) := by decide +kernel
theorem d_Ce_putReplyPart_182 : decode b_Ce_putReplyPart 182 = .ok (.iload_n 3, 1) := by decide +kernel
theorem d_Ce_putReplyPart_183 : decode b_Ce_putReplyPart 183 = .ok (.invokevirtual 281, 3) := by decide +kernel
theorem d_Ce_putReplyPart_186 : decode b_Ce_putReplyPart 186 = .ok (.return_, 1) := by decide +kernel
abbrev b_Ce_sealReply : ByteArray := prog_5_method_27_code
def y_Ce_sealReply : MethodName := ⟨R_Ce, "sealReply", "()V"⟩
abbrev k_Ce_sealReply : Cond := .code y_Ce_sealReply b_Ce_sealReply 2 none
theorem ki_Ce_sealReply : k_Ce_sealReply ∈ lw_tg := in_t 1341 (by decide +kernel)
theorem ks_Ce_sealReply : Cond.instanceMethod y_Ce_sealReply ∈ lw_tg := in_t 1340 (by decide +kernel)
theorem kx_Ce_sealReply : Cond.selects R_Ce y_Ce_sealReply y_Ce_sealReply ∈ lw_tg := List.mem_filter.mpr ⟨List.mem_append_left _ (List.mem_of_getElem? (i := 49) (by decide +kernel)), rfl⟩
theorem kl_Ce_Ce_sealReply : Cond.methodLink R_Ce 299 y_Ce_sealReply ∈ lw_tg := in_t 1338 (by decide +kernel)
theorem hd_Ce_sealReply : y_Ce_sealReply.cls = R_Ce ∧ y_Ce_sealReply.cls ≠ "java/lang/invoke/MethodHandle" ∧ y_Ce_sealReply.cls ≠ "java/lang/invoke/VarHandle" ∧ (parseMethodDescriptor y_Ce_sealReply.desc).map (fun d => d.parameters.length) = some 0 := by decide +kernel
theorem d_Ce_sealReply_0 : decode b_Ce_sealReply 0 = .ok (.aload_n 0, 1) := by decide +kernel
theorem d_Ce_sealReply_1 : decode b_Ce_sealReply 1 = .ok (.getfield 65, 3) := by decide +kernel
theorem d_Ce_sealReply_4 : decode b_Ce_sealReply 4 = .ok (.ifCond .eq 35, 3) := by decide +kernel
theorem d_Ce_sealReply_7 : decode b_Ce_sealReply 7 = .ok (.aload_n 0, 1) := by decide +kernel
theorem d_Ce_sealReply_8 : decode b_Ce_sealReply 8 = .ok (.getfield 18, 3) := by decide +kernel
theorem d_Ce_sealReply_11 : decode b_Ce_sealReply 11 = .ok (.aload_n 0, 1) := by decide +kernel
theorem d_Ce_sealReply_12 : decode b_Ce_sealReply 12 = .ok (.getfield 34, 3) := by decide +kernel
theorem d_Ce_sealReply_15 : decode b_Ce_sealReply 15 = .ok (.aload_n 0, 1) := by decide +kernel
theorem d_Ce_sealReply_16 : decode b_Ce_sealReply 16 = .ok (.getfield 37, 3) := by decide +kernel
theorem d_Ce_sealReply_19 : decode b_Ce_sealReply 19 = .ok (.aload_n 0, 1) := by decide +kernel
theorem d_Ce_sealReply_20 : decode b_Ce_sealReply 20 = .ok (.getfield 157, 3) := by decide +kernel
theorem d_Ce_sealReply_23 : decode b_Ce_sealReply 23 = .ok (.i2l, 1) := by decide +kernel
theorem d_Ce_sealReply_24 : decode b_Ce_sealReply 24 = .ok (.invokevirtual 168, 3) := by decide +kernel
theorem d_Ce_sealReply_27 : decode b_Ce_sealReply 27 = .ok (.iconst 3, 1) := by decide +kernel
theorem d_Ce_sealReply_28 : decode b_Ce_sealReply 28 = .ok (.aload_n 0, 1) := by decide +kernel
theorem d_Ce_sealReply_29 : decode b_Ce_sealReply 29 = .ok (.getfield 37, 3) := by decide +kernel
theorem d_Ce_sealReply_32 : decode b_Ce_sealReply 32 = .ok (.getfield 331, 3) := by decide +kernel
theorem d_Ce_sealReply_35 : decode b_Ce_sealReply 35 = .ok (.invokevirtual 334, 3) := by decide +kernel
theorem d_Ce_sealReply_38 : decode b_Ce_sealReply 38 = .ok (.return_, 1) := by decide +kernel
theorem d_Ce_sealReply_39 : decode b_Ce_sealReply 39 = .ok (.aload_n 0, 1) := by decide +kernel
theorem d_Ce_sealReply_40 : decode b_Ce_sealReply 40 = .ok (.getfield 22, 3) := by decide +kernel
theorem d_Ce_sealReply_43 : decode b_Ce_sealReply 43 = .ok (.getfield 181, 3) := by decide +kernel
theorem d_Ce_sealReply_46 : decode b_Ce_sealReply 46 = .ok (.aload_n 0, 1) := by decide +kernel
theorem d_Ce_sealReply_47 : decode b_Ce_sealReply 47 = .ok (.getfield 22, 3) := by decide +kernel
theorem d_Ce_sealReply_50 : decode b_Ce_sealReply 50 = .ok (.getfield 181, 3) := by decide +kernel
theorem d_Ce_sealReply_53 : decode b_Ce_sealReply 53 = .ok (.iconst 0, 1) := by decide +kernel
theorem d_Ce_sealReply_54 : decode b_Ce_sealReply 54 = .ok (.bipush 6, 2) := by decide +kernel
theorem d_Ce_sealReply_56 : decode b_Ce_sealReply 56 = .ok (.invokevirtual 48, 3) := by decide +kernel
theorem d_Ce_sealReply_59 : decode b_Ce_sealReply 59 = .ok (.invokestatic 338, 3) := by decide +kernel
theorem d_Ce_sealReply_62 : decode b_Ce_sealReply 62 = .ok (.astore_n 1, 1) := by decide +kernel
theorem d_Ce_sealReply_63 : decode b_Ce_sealReply 63 = .ok (.aload_n 1, 1) := by decide +kernel
theorem d_Ce_sealReply_64 : decode b_Ce_sealReply 64 = .ok (.arraylength, 1) := by decide +kernel
theorem d_Ce_sealReply_65 : decode b_Ce_sealReply 65 = .ok (.ifCond .le 21, 3) := by decide +kernel
theorem d_Ce_sealReply_68 : decode b_Ce_sealReply 68 = .ok (.aload_n 0, 1) := by decide +kernel
theorem d_Ce_sealReply_69 : decode b_Ce_sealReply 69 = .ok (.getfield 18, 3) := by decide +kernel
theorem d_Ce_sealReply_72 : decode b_Ce_sealReply 72 = .ok (.aload_n 0, 1) := by decide +kernel
theorem d_Ce_sealReply_73 : decode b_Ce_sealReply 73 = .ok (.getfield 34, 3) := by decide +kernel
theorem d_Ce_sealReply_76 : decode b_Ce_sealReply 76 = .ok (.aload_n 1, 1) := by decide +kernel
theorem d_Ce_sealReply_77 : decode b_Ce_sealReply 77 = .ok (.bipush 9, 2) := by decide +kernel
theorem d_Ce_sealReply_79 : decode b_Ce_sealReply 79 = .ok (.iconst 0, 1) := by decide +kernel
theorem d_Ce_sealReply_80 : decode b_Ce_sealReply 80 = .ok (.invokevirtual 334, 3) := by decide +kernel
theorem d_Ce_sealReply_83 : decode b_Ce_sealReply 83 = .ok (.goto 24, 3) := by decide +kernel
theorem d_Ce_sealReply_86 : decode b_Ce_sealReply 86 = .ok (.aload_n 0, 1) := by decide +kernel
theorem d_Ce_sealReply_87 : decode b_Ce_sealReply 87 = .ok (.getfield 18, 3) := by decide +kernel
theorem d_Ce_sealReply_90 : decode b_Ce_sealReply 90 = .ok (.aload_n 0, 1) := by decide +kernel
theorem d_Ce_sealReply_91 : decode b_Ce_sealReply 91 = .ok (.getfield 34, 3) := by decide +kernel
theorem d_Ce_sealReply_94 : decode b_Ce_sealReply 94 = .ok (.aload_n 0, 1) := by decide +kernel
theorem d_Ce_sealReply_95 : decode b_Ce_sealReply 95 = .ok (.getfield 22, 3) := by decide +kernel
theorem d_Ce_sealReply_98 : decode b_Ce_sealReply 98 = .ok (.getfield 184, 3) := by decide +kernel
theorem d_Ce_sealReply_101 : decode b_Ce_sealReply 101 = .ok (.bipush 8, 2) := by decide +kernel
theorem d_Ce_sealReply_103 : decode b_Ce_sealReply 103 = .ok (.iconst 0, 1) := by decide +kernel
theorem d_Ce_sealReply_104 : decode b_Ce_sealReply 104 = .ok (.invokevirtual 334, 3) := by decide +kernel
theorem d_Ce_sealReply_107 : decode b_Ce_sealReply 107 = .ok (.return_, 1) := by decide +kernel
abbrev b_Ce_putInfo : ByteArray := prog_5_method_28_code
def y_Ce_putInfo : MethodName := ⟨R_Ce, "putInfo", "(Z)V"⟩
abbrev k_Ce_putInfo : Cond := .code y_Ce_putInfo b_Ce_putInfo 6 none
theorem ki_Ce_putInfo : k_Ce_putInfo ∈ lw_tg := in_t 1252 (by decide +kernel)
theorem ks_Ce_putInfo : Cond.instanceMethod y_Ce_putInfo ∈ lw_tg := in_t 1251 (by decide +kernel)
theorem kx_Ce_putInfo : Cond.selects R_Ce y_Ce_putInfo y_Ce_putInfo ∈ lw_tg := List.mem_filter.mpr ⟨List.mem_append_left _ (List.mem_of_getElem? (i := 40) (by decide +kernel)), rfl⟩
theorem kl_Ce_Ce_putInfo : Cond.methodLink R_Ce 278 y_Ce_putInfo ∈ lw_tg := in_t 1249 (by decide +kernel)
theorem hd_Ce_putInfo : y_Ce_putInfo.cls = R_Ce ∧ y_Ce_putInfo.cls ≠ "java/lang/invoke/MethodHandle" ∧ y_Ce_putInfo.cls ≠ "java/lang/invoke/VarHandle" ∧ (parseMethodDescriptor y_Ce_putInfo.desc).map (fun d => d.parameters.length) = some 1 := by decide +kernel
theorem d_Ce_putInfo_0 : decode b_Ce_putInfo 0 = .ok (.aload_n 0, 1) := by decide +kernel
theorem d_Ce_putInfo_1 : decode b_Ce_putInfo 1 = .ok (.getfield 34, 3) := by decide +kernel
theorem d_Ce_putInfo_4 : decode b_Ce_putInfo 4 = .ok (.bipush 48, 2) := by decide +kernel
theorem d_Ce_putInfo_6 : decode b_Ce_putInfo 6 = .ok (.invokevirtual 268, 3) := by decide +kernel
theorem d_Ce_putInfo_9 : decode b_Ce_putInfo 9 = .ok (.istore_n 2, 1) := by decide +kernel
theorem d_Ce_putInfo_10 : decode b_Ce_putInfo 10 = .ok (.aload_n 0, 1) := by decide +kernel
theorem d_Ce_putInfo_11 : decode b_Ce_putInfo 11 = .ok (.getfield 34, 3) := by decide +kernel
theorem d_Ce_putInfo_14 : decode b_Ce_putInfo 14 = .ok (.iconst 1, 1) := by decide +kernel
theorem d_Ce_putInfo_15 : decode b_Ce_putInfo 15 = .ok (.ldc2_w 342, 3) := by decide +kernel
theorem d_Ce_putInfo_18 : decode b_Ce_putInfo 18 = .ok (.invokevirtual 271, 3) := by decide +kernel
theorem d_Ce_putInfo_21 : decode b_Ce_putInfo 21 = .ok (.aload_n 0, 1) := by decide +kernel
theorem d_Ce_putInfo_22 : decode b_Ce_putInfo 22 = .ok (.getfield 34, 3) := by decide +kernel
theorem d_Ce_putInfo_25 : decode b_Ce_putInfo 25 = .ok (.iconst 2, 1) := by decide +kernel
theorem d_Ce_putInfo_26 : decode b_Ce_putInfo 26 = .ok (.invokevirtual 275, 3) := by decide +kernel
theorem d_Ce_putInfo_29 : decode b_Ce_putInfo 29 = .ok (.istore_n 3, 1) := by decide +kernel
theorem d_Ce_putInfo_30 : decode b_Ce_putInfo 30 = .ok (.aload_n 0, 1) := by decide +kernel
theorem d_Ce_putInfo_31 : decode b_Ce_putInfo 31 = .ok (.getfield 34, 3) := by decide +kernel
theorem d_Ce_putInfo_34 : decode b_Ce_putInfo 34 = .ok (.iconst 4, 1) := by decide +kernel
theorem d_Ce_putInfo_35 : decode b_Ce_putInfo 35 = .ok (.invokevirtual 268, 3) := by decide +kernel
theorem d_Ce_putInfo_38 : decode b_Ce_putInfo 38 = .ok (.istore 4, 2) := by decide +kernel
theorem d_Ce_putInfo_40 : decode b_Ce_putInfo 40 = .ok (.aload_n 0, 1) := by decide +kernel
theorem d_Ce_putInfo_41 : decode b_Ce_putInfo 41 = .ok (.getfield 34, 3) := by decide +kernel
theorem d_Ce_putInfo_44 : decode b_Ce_putInfo 44 = .ok (.bipush 48, 2) := by decide +kernel
theorem d_Ce_putInfo_46 : decode b_Ce_putInfo 46 = .ok (.invokevirtual 268, 3) := by decide +kernel
theorem d_Ce_putInfo_49 : decode b_Ce_putInfo 49 = .ok (.istore 5, 2) := by decide +kernel
theorem d_Ce_putInfo_51 : decode b_Ce_putInfo 51 = .ok (.aload_n 0, 1) := by decide +kernel
theorem d_Ce_putInfo_52 : decode b_Ce_putInfo 52 = .ok (.aload_n 0, 1) := by decide +kernel
theorem d_Ce_putInfo_53 : decode b_Ce_putInfo 53 = .ok (.getfield 157, 3) := by decide +kernel
theorem d_Ce_putInfo_56 : decode b_Ce_putInfo 56 = .ok (.invokevirtual 344, 3) := by decide +kernel
theorem d_Ce_putInfo_59 : decode b_Ce_putInfo 59 = .ok (.iload_n 1, 1) := by decide +kernel
theorem d_Ce_putInfo_60 : decode b_Ce_putInfo 60 = .ok (.ifCond .eq 28, 3) := by decide +kernel
theorem d_Ce_putInfo_63 : decode b_Ce_putInfo 63 = .ok (.aload_n 0, 1) := by decide +kernel
theorem d_Ce_putInfo_64 : decode b_Ce_putInfo 64 = .ok (.bipush 35, 2) := by decide +kernel
theorem d_Ce_putInfo_66 : decode b_Ce_putInfo 66 = .ok (.aload_n 0, 1) := by decide +kernel
theorem d_Ce_putInfo_67 : decode b_Ce_putInfo 67 = .ok (.getfield 157, 3) := by decide +kernel
theorem d_Ce_putInfo_70 : decode b_Ce_putInfo 70 = .ok (.isub, 1) := by decide +kernel
theorem d_Ce_putInfo_71 : decode b_Ce_putInfo 71 = .ok (.invokevirtual 347, 3) := by decide +kernel
theorem d_Ce_putInfo_74 : decode b_Ce_putInfo 74 = .ok (.ifCond .eq 14, 3) := by decide +kernel
theorem d_Ce_putInfo_77 : decode b_Ce_putInfo 77 = .ok (.aload_n 0, 1) := by decide +kernel
theorem d_Ce_putInfo_78 : decode b_Ce_putInfo 78 = .ok (.bipush 35, 2) := by decide +kernel
theorem d_Ce_putInfo_80 : decode b_Ce_putInfo 80 = .ok (.aload_n 0, 1) := by decide +kernel
theorem d_Ce_putInfo_81 : decode b_Ce_putInfo 81 = .ok (.getfield 157, 3) := by decide +kernel
theorem d_Ce_putInfo_84 : decode b_Ce_putInfo 84 = .ok (.isub, 1) := by decide +kernel
theorem d_Ce_putInfo_85 : decode b_Ce_putInfo 85 = .ok (.invokevirtual 344, 3) := by decide +kernel
theorem d_Ce_putInfo_88 : decode b_Ce_putInfo 88 = .ok (.aload_n 0, 1) := by decide +kernel
theorem d_Ce_putInfo_89 : decode b_Ce_putInfo 89 = .ok (.getfield 34, 3) := by decide +kernel
theorem d_Ce_putInfo_92 : decode b_Ce_putInfo 92 = .ok (.iload 5, 2) := by decide +kernel
theorem d_Ce_putInfo_94 : decode b_Ce_putInfo 94 = .ok (.invokevirtual 281, 3) := by decide +kernel
theorem d_Ce_putInfo_97 : decode b_Ce_putInfo 97 = .ok (.aload_n 0, 1) := by decide +kernel
theorem d_Ce_putInfo_98 : decode b_Ce_putInfo 98 = .ok (.getfield 34, 3) := by decide +kernel
theorem d_Ce_putInfo_101 : decode b_Ce_putInfo 101 = .ok (.iload 4, 2) := by decide +kernel
theorem d_Ce_putInfo_103 : decode b_Ce_putInfo 103 = .ok (.invokevirtual 281, 3) := by decide +kernel
theorem d_Ce_putInfo_106 : decode b_Ce_putInfo 106 = .ok (.aload_n 0, 1) := by decide +kernel
theorem d_Ce_putInfo_107 : decode b_Ce_putInfo 107 = .ok (.getfield 34, 3) := by decide +kernel
theorem d_Ce_putInfo_110 : decode b_Ce_putInfo 110 = .ok (.iload_n 3, 1) := by decide +kernel
theorem d_Ce_putInfo_111 : decode b_Ce_putInfo 111 = .ok (.invokevirtual 281, 3) := by decide +kernel
theorem d_Ce_putInfo_114 : decode b_Ce_putInfo 114 = .ok (.aload_n 0, 1) := by decide +kernel
theorem d_Ce_putInfo_115 : decode b_Ce_putInfo 115 = .ok (.getfield 34, 3) := by decide +kernel
theorem d_Ce_putInfo_118 : decode b_Ce_putInfo 118 = .ok (.iload_n 2, 1) := by decide +kernel
theorem d_Ce_putInfo_119 : decode b_Ce_putInfo 119 = .ok (.invokevirtual 281, 3) := by decide +kernel
theorem d_Ce_putInfo_122 : decode b_Ce_putInfo 122 = .ok (.return_, 1) := by decide +kernel
abbrev b_Ce_putTypeInfo : ByteArray := prog_5_method_29_code
def y_Ce_putTypeInfo : MethodName := ⟨R_Ce, "putTypeInfo", "(I)V"⟩
abbrev k_Ce_putTypeInfo : Cond := .code y_Ce_putTypeInfo b_Ce_putTypeInfo 7 none
theorem ki_Ce_putTypeInfo : k_Ce_putTypeInfo ∈ lw_tg := in_t 1257 (by decide +kernel)
theorem ks_Ce_putTypeInfo : Cond.instanceMethod y_Ce_putTypeInfo ∈ lw_tg := in_t 1256 (by decide +kernel)
theorem kx_Ce_putTypeInfo : Cond.selects R_Ce y_Ce_putTypeInfo y_Ce_putTypeInfo ∈ lw_tg := List.mem_filter.mpr ⟨List.mem_append_left _ (List.mem_of_getElem? (i := 41) (by decide +kernel)), rfl⟩
theorem kl_Ce_Ce_putTypeInfo : Cond.methodLink R_Ce 344 y_Ce_putTypeInfo ∈ lw_tg := in_t 1254 (by decide +kernel)
theorem hd_Ce_putTypeInfo : y_Ce_putTypeInfo.cls = R_Ce ∧ y_Ce_putTypeInfo.cls ≠ "java/lang/invoke/MethodHandle" ∧ y_Ce_putTypeInfo.cls ≠ "java/lang/invoke/VarHandle" ∧ (parseMethodDescriptor y_Ce_putTypeInfo.desc).map (fun d => d.parameters.length) = some 1 := by decide +kernel
theorem d_Ce_putTypeInfo_0 : decode b_Ce_putTypeInfo 0 = .ok (.aload_n 0, 1) := by decide +kernel
theorem d_Ce_putTypeInfo_1 : decode b_Ce_putTypeInfo 1 = .ok (.getfield 34, 3) := by decide +kernel
theorem d_Ce_putTypeInfo_4 : decode b_Ce_putTypeInfo 4 = .ok (.bipush 48, 2) := by decide +kernel
theorem d_Ce_putTypeInfo_6 : decode b_Ce_putTypeInfo 6 = .ok (.invokevirtual 268, 3) := by decide +kernel
theorem d_Ce_putTypeInfo_9 : decode b_Ce_putTypeInfo 9 = .ok (.istore_n 2, 1) := by decide +kernel
theorem d_Ce_putTypeInfo_10 : decode b_Ce_putTypeInfo 10 = .ok (.aload_n 0, 1) := by decide +kernel
theorem d_Ce_putTypeInfo_11 : decode b_Ce_putTypeInfo 11 = .ok (.getfield 34, 3) := by decide +kernel
theorem d_Ce_putTypeInfo_14 : decode b_Ce_putTypeInfo 14 = .ok (.iconst 0, 1) := by decide +kernel
theorem d_Ce_putTypeInfo_15 : decode b_Ce_putTypeInfo 15 = .ok (.iload_n 1, 1) := by decide +kernel
theorem d_Ce_putTypeInfo_16 : decode b_Ce_putTypeInfo 16 = .ok (.i2l, 1) := by decide +kernel
theorem d_Ce_putTypeInfo_17 : decode b_Ce_putTypeInfo 17 = .ok (.invokevirtual 271, 3) := by decide +kernel
theorem d_Ce_putTypeInfo_20 : decode b_Ce_putTypeInfo 20 = .ok (.aload_n 0, 1) := by decide +kernel
theorem d_Ce_putTypeInfo_21 : decode b_Ce_putTypeInfo 21 = .ok (.getfield 34, 3) := by decide +kernel
theorem d_Ce_putTypeInfo_24 : decode b_Ce_putTypeInfo 24 = .ok (.iconst 1, 1) := by decide +kernel
theorem d_Ce_putTypeInfo_25 : decode b_Ce_putTypeInfo 25 = .ok (.invokevirtual 275, 3) := by decide +kernel
theorem d_Ce_putTypeInfo_28 : decode b_Ce_putTypeInfo 28 = .ok (.istore_n 3, 1) := by decide +kernel
theorem d_Ce_putTypeInfo_29 : decode b_Ce_putTypeInfo 29 = .ok (.aload_n 0, 1) := by decide +kernel
theorem d_Ce_putTypeInfo_30 : decode b_Ce_putTypeInfo 30 = .ok (.getfield 34, 3) := by decide +kernel
theorem d_Ce_putTypeInfo_33 : decode b_Ce_putTypeInfo 33 = .ok (.bipush 27, 2) := by decide +kernel
theorem d_Ce_putTypeInfo_35 : decode b_Ce_putTypeInfo 35 = .ok (.invokevirtual 268, 3) := by decide +kernel
theorem d_Ce_putTypeInfo_38 : decode b_Ce_putTypeInfo 38 = .ok (.istore 4, 2) := by decide +kernel
theorem d_Ce_putTypeInfo_40 : decode b_Ce_putTypeInfo 40 = .ok (.aload_n 0, 1) := by decide +kernel
theorem d_Ce_putTypeInfo_41 : decode b_Ce_putTypeInfo 41 = .ok (.getfield 34, 3) := by decide +kernel
theorem d_Ce_putTypeInfo_44 : decode b_Ce_putTypeInfo 44 = .ok (.aload_n 0, 1) := by decide +kernel
theorem d_Ce_putTypeInfo_45 : decode b_Ce_putTypeInfo 45 = .ok (.getfield 37, 3) := by decide +kernel
theorem d_Ce_putTypeInfo_48 : decode b_Ce_putTypeInfo 48 = .ok (.getfield 350, 3) := by decide +kernel
theorem d_Ce_putTypeInfo_51 : decode b_Ce_putTypeInfo 51 = .ok (.invokestatic 353, 3) := by decide +kernel
theorem d_Ce_putTypeInfo_54 : decode b_Ce_putTypeInfo 54 = .ok (.aload_n 0, 1) := by decide +kernel
theorem d_Ce_putTypeInfo_55 : decode b_Ce_putTypeInfo 55 = .ok (.getfield 34, 3) := by decide +kernel
theorem d_Ce_putTypeInfo_58 : decode b_Ce_putTypeInfo 58 = .ok (.iload 4, 2) := by decide +kernel
theorem d_Ce_putTypeInfo_60 : decode b_Ce_putTypeInfo 60 = .ok (.invokevirtual 281, 3) := by decide +kernel
theorem d_Ce_putTypeInfo_63 : decode b_Ce_putTypeInfo 63 = .ok (.aload_n 0, 1) := by decide +kernel
theorem d_Ce_putTypeInfo_64 : decode b_Ce_putTypeInfo 64 = .ok (.getfield 34, 3) := by decide +kernel
theorem d_Ce_putTypeInfo_67 : decode b_Ce_putTypeInfo 67 = .ok (.iload_n 3, 1) := by decide +kernel
theorem d_Ce_putTypeInfo_68 : decode b_Ce_putTypeInfo 68 = .ok (.invokevirtual 281, 3) := by decide +kernel
theorem d_Ce_putTypeInfo_71 : decode b_Ce_putTypeInfo 71 = .ok (.aload_n 0, 1) := by decide +kernel
theorem d_Ce_putTypeInfo_72 : decode b_Ce_putTypeInfo 72 = .ok (.getfield 34, 3) := by decide +kernel
theorem d_Ce_putTypeInfo_75 : decode b_Ce_putTypeInfo 75 = .ok (.iconst 2, 1) := by decide +kernel
theorem d_Ce_putTypeInfo_76 : decode b_Ce_putTypeInfo 76 = .ok (.invokevirtual 275, 3) := by decide +kernel
theorem d_Ce_putTypeInfo_79 : decode b_Ce_putTypeInfo 79 = .ok (.istore 5, 2) := by decide +kernel
theorem d_Ce_putTypeInfo_81 : decode b_Ce_putTypeInfo 81 = .ok (.aload_n 0, 1) := by decide +kernel
theorem d_Ce_putTypeInfo_82 : decode b_Ce_putTypeInfo 82 = .ok (.getfield 34, 3) := by decide +kernel
theorem d_Ce_putTypeInfo_85 : decode b_Ce_putTypeInfo 85 = .ok (.iconst 4, 1) := by decide +kernel
theorem d_Ce_putTypeInfo_86 : decode b_Ce_putTypeInfo 86 = .ok (.invokevirtual 268, 3) := by decide +kernel
theorem d_Ce_putTypeInfo_89 : decode b_Ce_putTypeInfo 89 = .ok (.istore 6, 2) := by decide +kernel
theorem d_Ce_putTypeInfo_91 : decode b_Ce_putTypeInfo 91 = .ok (.aload_n 0, 1) := by decide +kernel
theorem d_Ce_putTypeInfo_92 : decode b_Ce_putTypeInfo 92 = .ok (.getfield 34, 3) := by decide +kernel
theorem d_Ce_putTypeInfo_95 : decode b_Ce_putTypeInfo 95 = .ok (.aload_n 0, 1) := by decide +kernel
theorem d_Ce_putTypeInfo_96 : decode b_Ce_putTypeInfo 96 = .ok (.getfield 37, 3) := by decide +kernel
theorem d_Ce_putTypeInfo_99 : decode b_Ce_putTypeInfo 99 = .ok (.getfield 357, 3) := by decide +kernel
theorem d_Ce_putTypeInfo_102 : decode b_Ce_putTypeInfo 102 = .ok (.invokevirtual 360, 3) := by decide +kernel
theorem d_Ce_putTypeInfo_105 : decode b_Ce_putTypeInfo 105 = .ok (.aload_n 0, 1) := by decide +kernel
theorem d_Ce_putTypeInfo_106 : decode b_Ce_putTypeInfo 106 = .ok (.getfield 34, 3) := by decide +kernel
theorem d_Ce_putTypeInfo_109 : decode b_Ce_putTypeInfo 109 = .ok (.iload 6, 2) := by decide +kernel
theorem d_Ce_putTypeInfo_111 : decode b_Ce_putTypeInfo 111 = .ok (.invokevirtual 281, 3) := by decide +kernel
theorem d_Ce_putTypeInfo_114 : decode b_Ce_putTypeInfo 114 = .ok (.aload_n 0, 1) := by decide +kernel
theorem d_Ce_putTypeInfo_115 : decode b_Ce_putTypeInfo 115 = .ok (.getfield 34, 3) := by decide +kernel
theorem d_Ce_putTypeInfo_118 : decode b_Ce_putTypeInfo 118 = .ok (.iload 5, 2) := by decide +kernel
theorem d_Ce_putTypeInfo_120 : decode b_Ce_putTypeInfo 120 = .ok (.invokevirtual 281, 3) := by decide +kernel
theorem d_Ce_putTypeInfo_123 : decode b_Ce_putTypeInfo 123 = .ok (.aload_n 0, 1) := by decide +kernel
theorem d_Ce_putTypeInfo_124 : decode b_Ce_putTypeInfo 124 = .ok (.getfield 34, 3) := by decide +kernel
theorem d_Ce_putTypeInfo_127 : decode b_Ce_putTypeInfo 127 = .ok (.iload_n 2, 1) := by decide +kernel
theorem d_Ce_putTypeInfo_128 : decode b_Ce_putTypeInfo 128 = .ok (.invokevirtual 281, 3) := by decide +kernel
theorem d_Ce_putTypeInfo_131 : decode b_Ce_putTypeInfo 131 = .ok (.return_, 1) := by decide +kernel
abbrev b_Ce_putError : ByteArray := prog_5_method_30_code
def y_Ce_putError : MethodName := ⟨R_Ce, "putError", "(I)V"⟩
abbrev k_Ce_putError : Cond := .code y_Ce_putError b_Ce_putError 7 none
theorem ki_Ce_putError : k_Ce_putError ∈ lw_tg := in_t 1346 (by decide +kernel)
theorem ks_Ce_putError : Cond.instanceMethod y_Ce_putError ∈ lw_tg := in_t 1344 (by decide +kernel)
theorem kx_Ce_putError : Cond.selects R_Ce y_Ce_putError y_Ce_putError ∈ lw_tg := in_t 1345 (by decide +kernel)
theorem kl_H_Ce_putError : Cond.methodLink R_H 179 y_Ce_putError ∈ lw_tg := in_t 1343 (by decide +kernel)
theorem hd_Ce_putError : y_Ce_putError.cls = R_Ce ∧ y_Ce_putError.cls ≠ "java/lang/invoke/MethodHandle" ∧ y_Ce_putError.cls ≠ "java/lang/invoke/VarHandle" ∧ (parseMethodDescriptor y_Ce_putError.desc).map (fun d => d.parameters.length) = some 1 := by decide +kernel
theorem d_Ce_putError_0 : decode b_Ce_putError 0 = .ok (.aload_n 0, 1) := by decide +kernel
theorem d_Ce_putError_1 : decode b_Ce_putError 1 = .ok (.getfield 76, 3) := by decide +kernel
theorem d_Ce_putError_4 : decode b_Ce_putError 4 = .ok (.ifCond .eq 15, 3) := by decide +kernel
theorem d_Ce_putError_7 : decode b_Ce_putError 7 = .ok (.aload_n 0, 1) := by decide +kernel
theorem d_Ce_putError_8 : decode b_Ce_putError 8 = .ok (.getfield 30, 3) := by decide +kernel
theorem d_Ce_putError_11 : decode b_Ce_putError 11 = .ok (.iconst 0, 1) := by decide +kernel
theorem d_Ce_putError_12 : decode b_Ce_putError 12 = .ok (.iconst 4, 1) := by decide +kernel
theorem d_Ce_putError_13 : decode b_Ce_putError 13 = .ok (.invokevirtual 48, 3) := by decide +kernel
theorem d_Ce_putError_16 : decode b_Ce_putError 16 = .ok (.goto 4, 3) := by decide +kernel
theorem d_Ce_putError_19 : decode b_Ce_putError 19 = .ok (.iconst (-1), 1) := by decide +kernel
theorem d_Ce_putError_20 : decode b_Ce_putError 20 = .ok (.istore_n 2, 1) := by decide +kernel
theorem d_Ce_putError_21 : decode b_Ce_putError 21 = .ok (.aload_n 0, 1) := by decide +kernel
theorem d_Ce_putError_22 : decode b_Ce_putError 22 = .ok (.getfield 65, 3) := by decide +kernel
theorem d_Ce_putError_25 : decode b_Ce_putError 25 = .ok (.ifCond .eq 15, 3) := by decide +kernel
theorem d_Ce_putError_28 : decode b_Ce_putError 28 = .ok (.aload_n 0, 1) := by decide +kernel
theorem d_Ce_putError_29 : decode b_Ce_putError 29 = .ok (.getfield 30, 3) := by decide +kernel
theorem d_Ce_putError_32 : decode b_Ce_putError 32 = .ok (.iload_n 2, 1) := by decide +kernel
theorem d_Ce_putError_33 : decode b_Ce_putError 33 = .ok (.iconst 1, 1) := by decide +kernel
theorem d_Ce_putError_34 : decode b_Ce_putError 34 = .ok (.invokevirtual 48, 3) := by decide +kernel
theorem d_Ce_putError_37 : decode b_Ce_putError 37 = .ok (.goto 4, 3) := by decide +kernel
theorem d_Ce_putError_40 : decode b_Ce_putError 40 = .ok (.iconst (-1), 1) := by decide +kernel
theorem d_Ce_putError_41 : decode b_Ce_putError 41 = .ok (.istore_n 3, 1) := by decide +kernel
theorem d_Ce_putError_42 : decode b_Ce_putError 42 = .ok (.aload_n 0, 1) := by decide +kernel
theorem d_Ce_putError_43 : decode b_Ce_putError 43 = .ok (.getfield 30, 3) := by decide +kernel
theorem d_Ce_putError_46 : decode b_Ce_putError 46 = .ok (.iload_n 2, 1) := by decide +kernel
theorem d_Ce_putError_47 : decode b_Ce_putError 47 = .ok (.iconst 3, 1) := by decide +kernel
theorem d_Ce_putError_48 : decode b_Ce_putError 48 = .ok (.invokevirtual 48, 3) := by decide +kernel
theorem d_Ce_putError_51 : decode b_Ce_putError 51 = .ok (.istore 4, 2) := by decide +kernel
theorem d_Ce_putError_53 : decode b_Ce_putError 53 = .ok (.aload_n 0, 1) := by decide +kernel
theorem d_Ce_putError_54 : decode b_Ce_putError 54 = .ok (.getfield 34, 3) := by decide +kernel
theorem d_Ce_putError_57 : decode b_Ce_putError 57 = .ok (.invokevirtual 265, 3) := by decide +kernel
theorem d_Ce_putError_60 : decode b_Ce_putError 60 = .ok (.aload_n 0, 1) := by decide +kernel
theorem d_Ce_putError_61 : decode b_Ce_putError 61 = .ok (.getfield 34, 3) := by decide +kernel
theorem d_Ce_putError_64 : decode b_Ce_putError 64 = .ok (.bipush 126, 2) := by decide +kernel
theorem d_Ce_putError_66 : decode b_Ce_putError 66 = .ok (.invokevirtual 268, 3) := by decide +kernel
theorem d_Ce_putError_69 : decode b_Ce_putError 69 = .ok (.istore 5, 2) := by decide +kernel
theorem d_Ce_putError_71 : decode b_Ce_putError 71 = .ok (.aload_n 0, 1) := by decide +kernel
theorem d_Ce_putError_72 : decode b_Ce_putError 72 = .ok (.getfield 34, 3) := by decide +kernel
theorem d_Ce_putError_75 : decode b_Ce_putError 75 = .ok (.bipush 48, 2) := by decide +kernel
theorem d_Ce_putError_77 : decode b_Ce_putError 77 = .ok (.invokevirtual 268, 3) := by decide +kernel
theorem d_Ce_putError_80 : decode b_Ce_putError 80 = .ok (.istore 6, 2) := by decide +kernel
theorem d_Ce_putError_82 : decode b_Ce_putError 82 = .ok (.aload_n 0, 1) := by decide +kernel
theorem d_Ce_putError_83 : decode b_Ce_putError 83 = .ok (.getfield 34, 3) := by decide +kernel
theorem d_Ce_putError_86 : decode b_Ce_putError 86 = .ok (.aload_n 0, 1) := by decide +kernel
theorem d_Ce_putError_87 : decode b_Ce_putError 87 = .ok (.getfield 18, 3) := by decide +kernel
theorem d_Ce_putError_90 : decode b_Ce_putError 90 = .ok (.getfield 112, 3) := by decide +kernel
theorem d_Ce_putError_93 : decode b_Ce_putError 93 = .ok (.iload_n 1, 1) := by decide +kernel
theorem d_Ce_putError_94 : decode b_Ce_putError 94 = .ok (.invokevirtual 363, 3) := by decide +kernel
theorem d_Ce_putError_97 : decode b_Ce_putError 97 = .ok (.iload_n 3, 1) := by decide +kernel
theorem d_Ce_putError_98 : decode b_Ce_putError 98 = .ok (.ifCond .lt 39, 3) := by decide +kernel
theorem d_Ce_putError_101 : decode b_Ce_putError 101 = .ok (.aload_n 0, 1) := by decide +kernel
theorem d_Ce_putError_102 : decode b_Ce_putError 102 = .ok (.getfield 34, 3) := by decide +kernel
theorem d_Ce_putError_105 : decode b_Ce_putError 105 = .ok (.bipush 7, 2) := by decide +kernel
theorem d_Ce_putError_107 : decode b_Ce_putError 107 = .ok (.aload_n 0, 1) := by decide +kernel
theorem d_Ce_putError_108 : decode b_Ce_putError 108 = .ok (.getfield 30, 3) := by decide +kernel
theorem d_Ce_putError_111 : decode b_Ce_putError 111 = .ok (.aload_n 0, 1) := by decide +kernel
theorem d_Ce_putError_112 : decode b_Ce_putError 112 = .ok (.getfield 30, 3) := by decide +kernel
theorem d_Ce_putError_115 : decode b_Ce_putError 115 = .ok (.iload_n 2, 1) := by decide +kernel
theorem d_Ce_putError_116 : decode b_Ce_putError 116 = .ok (.iconst 2, 1) := by decide +kernel
theorem d_Ce_putError_117 : decode b_Ce_putError 117 = .ok (.invokevirtual 48, 3) := by decide +kernel
theorem d_Ce_putError_120 : decode b_Ce_putError 120 = .ok (.invokevirtual 302, 3) := by decide +kernel
theorem d_Ce_putError_123 : decode b_Ce_putError 123 = .ok (.aload_n 0, 1) := by decide +kernel
theorem d_Ce_putError_124 : decode b_Ce_putError 124 = .ok (.getfield 34, 3) := by decide +kernel
theorem d_Ce_putError_127 : decode b_Ce_putError 127 = .ok (.bipush 8, 2) := by decide +kernel
theorem d_Ce_putError_129 : decode b_Ce_putError 129 = .ok (.aload_n 0, 1) := by decide +kernel
theorem d_Ce_putError_130 : decode b_Ce_putError 130 = .ok (.getfield 30, 3) := by decide +kernel
theorem d_Ce_putError_133 : decode b_Ce_putError 133 = .ok (.iload_n 3, 1) := by decide +kernel
theorem d_Ce_putError_134 : decode b_Ce_putError 134 = .ok (.invokevirtual 302, 3) := by decide +kernel
theorem d_Ce_putError_137 : decode b_Ce_putError 137 = .ok (.aload_n 0, 1) := by decide +kernel
theorem d_Ce_putError_138 : decode b_Ce_putError 138 = .ok (.getfield 34, 3) := by decide +kernel
theorem d_Ce_putError_141 : decode b_Ce_putError 141 = .ok (.bipush 9, 2) := by decide +kernel
theorem d_Ce_putError_143 : decode b_Ce_putError 143 = .ok (.invokevirtual 285, 3) := by decide +kernel
theorem d_Ce_putError_146 : decode b_Ce_putError 146 = .ok (.iload 4, 2) := by decide +kernel
theorem d_Ce_putError_148 : decode b_Ce_putError 148 = .ok (.ifCond .lt 21, 3) := by decide +kernel
theorem d_Ce_putError_151 : decode b_Ce_putError 151 = .ok (.aload_n 0, 1) := by decide +kernel
theorem d_Ce_putError_152 : decode b_Ce_putError 152 = .ok (.getfield 34, 3) := by decide +kernel
theorem d_Ce_putError_155 : decode b_Ce_putError 155 = .ok (.bipush 10, 2) := by decide +kernel
theorem d_Ce_putError_157 : decode b_Ce_putError 157 = .ok (.aload_n 0, 1) := by decide +kernel
theorem d_Ce_putError_158 : decode b_Ce_putError 158 = .ok (.getfield 30, 3) := by decide +kernel
theorem d_Ce_putError_161 : decode b_Ce_putError 161 = .ok (.iload 4, 2) := by decide +kernel
theorem d_Ce_putError_163 : decode b_Ce_putError 163 = .ok (.invokevirtual 302, 3) := by decide +kernel
theorem d_Ce_putError_166 : decode b_Ce_putError 166 = .ok (.goto 22, 3) := by decide +kernel
theorem d_Ce_putError_169 : decode b_Ce_putError 169 = .ok (.aload_n 0, 1) := by decide +kernel
theorem d_Ce_putError_170 : decode b_Ce_putError 170 = .ok (.getfield 34, 3) := by decide +kernel
theorem d_Ce_putError_173 : decode b_Ce_putError 173 = .ok (.bipush 10, 2) := by decide +kernel
theorem d_Ce_putError_175 : decode b_Ce_putError 175 = .ok (.iconst 2, 1) := by decide +kernel
theorem d_Ce_putError_176 : decode b_Ce_putError 176 = .ok (.aload_n 0, 1) := by decide +kernel
theorem d_Ce_putError_177 : decode b_Ce_putError 177 = .ok (.getfield 26, 3) := by decide +kernel
theorem d_Ce_putError_180 : decode b_Ce_putError 180 = .ok (.iconst 0, 1) := by decide +kernel
theorem d_Ce_putError_181 : decode b_Ce_putError 181 = .ok (.aaload, 1) := by decide +kernel
theorem d_Ce_putError_182 : decode b_Ce_putError 182 = .ok (.getfield 350, 3) := by decide +kernel
theorem d_Ce_putError_185 : decode b_Ce_putError 185 = .ok (.invokevirtual 366, 3) := by decide +kernel
theorem d_Ce_putError_188 : decode b_Ce_putError 188 = .ok (.aload_n 0, 1) := by decide +kernel
theorem d_Ce_putError_189 : decode b_Ce_putError 189 = .ok (.getfield 65, 3) := by decide +kernel
theorem d_Ce_putError_192 : decode b_Ce_putError 192 = .ok (.ifCond .eq 13, 3) := by decide +kernel
theorem d_Ce_putError_195 : decode b_Ce_putError 195 = .ok (.iload_n 1, 1) := by decide +kernel
theorem d_Ce_putError_196 : decode b_Ce_putError 196 = .ok (.bipush 25, 2) := by decide +kernel
theorem d_Ce_putError_198 : decode b_Ce_putError 198 = .ok (.if_icmp .ne 7, 3) := by decide +kernel
theorem d_Ce_putError_201 : decode b_Ce_putError 201 = .ok (.aload_n 0, 1) := by decide +kernel
theorem d_Ce_putError_202 : decode b_Ce_putError 202 = .ok (.invokevirtual 370, 3) := by decide +kernel
theorem d_Ce_putError_205 : decode b_Ce_putError 205 = .ok (.aload_n 0, 1) := by decide +kernel
theorem d_Ce_putError_206 : decode b_Ce_putError 206 = .ok (.getfield 34, 3) := by decide +kernel
theorem d_Ce_putError_209 : decode b_Ce_putError 209 = .ok (.iload 6, 2) := by decide +kernel
theorem d_Ce_putError_211 : decode b_Ce_putError 211 = .ok (.invokevirtual 281, 3) := by decide +kernel
theorem d_Ce_putError_214 : decode b_Ce_putError 214 = .ok (.aload_n 0, 1) := by decide +kernel
theorem d_Ce_putError_215 : decode b_Ce_putError 215 = .ok (.getfield 34, 3) := by decide +kernel
theorem d_Ce_putError_218 : decode b_Ce_putError 218 = .ok (.iload 5, 2) := by decide +kernel
theorem d_Ce_putError_220 : decode b_Ce_putError 220 = .ok (.invokevirtual 281, 3) := by decide +kernel
theorem d_Ce_putError_223 : decode b_Ce_putError 223 = .ok (.return_, 1) := by decide +kernel
abbrev b_Ce_putMethods : ByteArray := prog_5_method_31_code
def y_Ce_putMethods : MethodName := ⟨R_Ce, "putMethods", "()V"⟩
abbrev k_Ce_putMethods : Cond := .code y_Ce_putMethods b_Ce_putMethods 5 none
theorem ki_Ce_putMethods : k_Ce_putMethods ∈ lw_tg := in_t 1361 (by decide +kernel)
theorem ks_Ce_putMethods : Cond.instanceMethod y_Ce_putMethods ∈ lw_tg := in_t 1360 (by decide +kernel)
theorem kx_Ce_putMethods : Cond.selects R_Ce y_Ce_putMethods y_Ce_putMethods ∈ lw_tg := List.mem_filter.mpr ⟨List.mem_append_left _ (List.mem_of_getElem? (i := 50) (by decide +kernel)), rfl⟩
theorem kl_Ce_Ce_putMethods : Cond.methodLink R_Ce 370 y_Ce_putMethods ∈ lw_tg := in_t 1358 (by decide +kernel)
theorem hd_Ce_putMethods : y_Ce_putMethods.cls = R_Ce ∧ y_Ce_putMethods.cls ≠ "java/lang/invoke/MethodHandle" ∧ y_Ce_putMethods.cls ≠ "java/lang/invoke/VarHandle" ∧ (parseMethodDescriptor y_Ce_putMethods.desc).map (fun d => d.parameters.length) = some 0 := by decide +kernel
theorem d_Ce_putMethods_0 : decode b_Ce_putMethods 0 = .ok (.aload_n 0, 1) := by decide +kernel
theorem d_Ce_putMethods_1 : decode b_Ce_putMethods 1 = .ok (.getfield 34, 3) := by decide +kernel
theorem d_Ce_putMethods_4 : decode b_Ce_putMethods 4 = .ok (.bipush 12, 2) := by decide +kernel
theorem d_Ce_putMethods_6 : decode b_Ce_putMethods 6 = .ok (.invokevirtual 275, 3) := by decide +kernel
theorem d_Ce_putMethods_9 : decode b_Ce_putMethods 9 = .ok (.istore_n 1, 1) := by decide +kernel
theorem d_Ce_putMethods_10 : decode b_Ce_putMethods 10 = .ok (.aload_n 0, 1) := by decide +kernel
theorem d_Ce_putMethods_11 : decode b_Ce_putMethods 11 = .ok (.getfield 34, 3) := by decide +kernel
theorem d_Ce_putMethods_14 : decode b_Ce_putMethods 14 = .ok (.iconst 4, 1) := by decide +kernel
theorem d_Ce_putMethods_15 : decode b_Ce_putMethods 15 = .ok (.invokevirtual 268, 3) := by decide +kernel
theorem d_Ce_putMethods_18 : decode b_Ce_putMethods 18 = .ok (.istore_n 2, 1) := by decide +kernel
theorem d_Ce_putMethods_19 : decode b_Ce_putMethods 19 = .ok (.aload_n 0, 1) := by decide +kernel
theorem d_Ce_putMethods_20 : decode b_Ce_putMethods 20 = .ok (.getfield 34, 3) := by decide +kernel
theorem d_Ce_putMethods_23 : decode b_Ce_putMethods 23 = .ok (.bipush 48, 2) := by decide +kernel
theorem d_Ce_putMethods_25 : decode b_Ce_putMethods 25 = .ok (.invokevirtual 268, 3) := by decide +kernel
theorem d_Ce_putMethods_28 : decode b_Ce_putMethods 28 = .ok (.istore_n 3, 1) := by decide +kernel
theorem d_Ce_putMethods_29 : decode b_Ce_putMethods 29 = .ok (.aload_n 0, 1) := by decide +kernel
theorem d_Ce_putMethods_30 : decode b_Ce_putMethods 30 = .ok (.getfield 34, 3) := by decide +kernel
theorem d_Ce_putMethods_33 : decode b_Ce_putMethods 33 = .ok (.bipush 48, 2) := by decide +kernel
theorem d_Ce_putMethods_35 : decode b_Ce_putMethods 35 = .ok (.invokevirtual 268, 3) := by decide +kernel
theorem d_Ce_putMethods_38 : decode b_Ce_putMethods 38 = .ok (.istore 4, 2) := by decide +kernel
theorem d_Ce_putMethods_40 : decode b_Ce_putMethods 40 = .ok (.aload_n 0, 1) := by decide +kernel
theorem d_Ce_putMethods_41 : decode b_Ce_putMethods 41 = .ok (.getfield 34, 3) := by decide +kernel
theorem d_Ce_putMethods_44 : decode b_Ce_putMethods 44 = .ok (.iconst 1, 1) := by decide +kernel
theorem d_Ce_putMethods_45 : decode b_Ce_putMethods 45 = .ok (.ldc2_w 373, 3) := by decide +kernel
theorem d_Ce_putMethods_48 : decode b_Ce_putMethods 48 = .ok (.invokevirtual 271, 3) := by decide +kernel
theorem d_Ce_putMethods_51 : decode b_Ce_putMethods 51 = .ok (.aload_n 0, 1) := by decide +kernel
theorem d_Ce_putMethods_52 : decode b_Ce_putMethods 52 = .ok (.getfield 34, 3) := by decide +kernel
theorem d_Ce_putMethods_55 : decode b_Ce_putMethods 55 = .ok (.iconst 2, 1) := by decide +kernel
theorem d_Ce_putMethods_56 : decode b_Ce_putMethods 56 = .ok (.getstatic 317, 3) := by decide +kernel
theorem d_Ce_putMethods_59 : decode b_Ce_putMethods 59 = .ok (.iconst 0, 1) := by decide +kernel
theorem d_Ce_putMethods_60 : decode b_Ce_putMethods 60 = .ok (.iconst 0, 1) := by decide +kernel
theorem d_Ce_putMethods_61 : decode b_Ce_putMethods 61 = .ok (.invokevirtual 375, 3) := by decide +kernel
theorem d_Ce_putMethods_64 : decode b_Ce_putMethods 64 = .ok (.aload_n 0, 1) := by decide +kernel
theorem d_Ce_putMethods_65 : decode b_Ce_putMethods 65 = .ok (.getfield 34, 3) := by decide +kernel
theorem d_Ce_putMethods_68 : decode b_Ce_putMethods 68 = .ok (.iload 4, 2) := by decide +kernel
theorem d_Ce_putMethods_70 : decode b_Ce_putMethods 70 = .ok (.invokevirtual 281, 3) := by decide +kernel
theorem d_Ce_putMethods_73 : decode b_Ce_putMethods 73 = .ok (.aload_n 0, 1) := by decide +kernel
theorem d_Ce_putMethods_74 : decode b_Ce_putMethods 74 = .ok (.iconst 1, 1) := by decide +kernel
theorem d_Ce_putMethods_75 : decode b_Ce_putMethods 75 = .ok (.invokevirtual 278, 3) := by decide +kernel
theorem d_Ce_putMethods_78 : decode b_Ce_putMethods 78 = .ok (.aload_n 0, 1) := by decide +kernel
theorem d_Ce_putMethods_79 : decode b_Ce_putMethods 79 = .ok (.getfield 34, 3) := by decide +kernel
theorem d_Ce_putMethods_82 : decode b_Ce_putMethods 82 = .ok (.iload_n 3, 1) := by decide +kernel
theorem d_Ce_putMethods_83 : decode b_Ce_putMethods 83 = .ok (.invokevirtual 281, 3) := by decide +kernel
theorem d_Ce_putMethods_86 : decode b_Ce_putMethods 86 = .ok (.aload_n 0, 1) := by decide +kernel
theorem d_Ce_putMethods_87 : decode b_Ce_putMethods 87 = .ok (.getfield 34, 3) := by decide +kernel
theorem d_Ce_putMethods_90 : decode b_Ce_putMethods 90 = .ok (.iload_n 2, 1) := by decide +kernel
theorem d_Ce_putMethods_91 : decode b_Ce_putMethods 91 = .ok (.invokevirtual 281, 3) := by decide +kernel
theorem d_Ce_putMethods_94 : decode b_Ce_putMethods 94 = .ok (.aload_n 0, 1) := by decide +kernel
theorem d_Ce_putMethods_95 : decode b_Ce_putMethods 95 = .ok (.getfield 34, 3) := by decide +kernel
theorem d_Ce_putMethods_98 : decode b_Ce_putMethods 98 = .ok (.iload_n 1, 1) := by decide +kernel
theorem d_Ce_putMethods_99 : decode b_Ce_putMethods 99 = .ok (.invokevirtual 281, 3) := by decide +kernel
theorem d_Ce_putMethods_102 : decode b_Ce_putMethods 102 = .ok (.return_, 1) := by decide +kernel
