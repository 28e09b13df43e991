abbrev b_Ga_init : ByteArray := prog_6_method_1_code
def y_Ga_init : MethodName := ⟨R_Ga, "<init>", "(LRealmHouse$Vault;)V"⟩
abbrev k_Ga_init : Cond := .code y_Ga_init b_Ga_init 2 none
theorem ki_Ga_init : k_Ga_init ∈ lw_tg := in_t 182 (by decide +kernel)
theorem ks_Ga_init : Cond.instanceMethod y_Ga_init ∈ lw_tg := in_t 181 (by decide +kernel)
theorem kl_H_Ga_init : Cond.methodLink R_H 33 y_Ga_init ∈ lw_tg := in_t 180 (by decide +kernel)
theorem hd_Ga_init : y_Ga_init.cls = R_Ga ∧ y_Ga_init.cls ≠ "java/lang/invoke/MethodHandle" ∧ y_Ga_init.cls ≠ "java/lang/invoke/VarHandle" ∧ (parseMethodDescriptor y_Ga_init.desc).map (fun d => d.parameters.length) = some 1 := by decide +kernel
theorem d_Ga_init_0 : decode b_Ga_init 0 = .ok (.aload_n 0, 1) := by decide +kernel
theorem d_Ga_init_1 : decode b_Ga_init 1 = .ok (.invokespecial 3, 3) := by decide +kernel
theorem d_Ga_init_4 : decode b_Ga_init 4 = .ok (.aload_n 0, 1) := by decide +kernel
theorem d_Ga_init_5 : decode b_Ga_init 5 = .ok (.new 9, 3) := by decide +kernel
theorem d_Ga_init_8 : decode b_Ga_init 8 = .ok (.dup, 1) := by decide +kernel
theorem d_Ga_init_9 : decode b_Ga_init 9 = .ok (.sipush 4000, 3) := by decide +kernel
theorem d_Ga_init_12 : decode b_Ga_init 12 = .ok (.invokespecial 11, 3) := by decide +kernel
theorem d_Ga_init_15 : decode b_Ga_init 15 = .ok (.putfield 14, 3) := by decide +kernel
theorem d_Ga_init_18 : decode b_Ga_init 18 = .ok (.aload_n 0, 1) := by decide +kernel
theorem d_Ga_init_19 : decode b_Ga_init 19 = .ok (.new 9, 3) := by decide +kernel
theorem d_Ga_init_22 : decode b_Ga_init 22 = .ok (.dup, 1) := by decide +kernel
theorem d_Ga_init_23 : decode b_Ga_init 23 = .ok (.sipush 4000, 3) := by decide +kernel
theorem d_Ga_init_26 : decode b_Ga_init 26 = .ok (.invokespecial 11, 3) := by decide +kernel
theorem d_Ga_init_29 : decode b_Ga_init 29 = .ok (.putfield 20, 3) := by decide +kernel
theorem d_Ga_init_32 : decode b_Ga_init 32 = .ok (.aload_n 0, 1) := by decide +kernel
theorem d_Ga_init_33 : decode b_Ga_init 33 = .ok (.getstatic 23, 3) := by decide +kernel
theorem d_Ga_init_36 : decode b_Ga_init 36 = .ok (.putfield 27, 3) := by decide +kernel
theorem d_Ga_init_39 : decode b_Ga_init 39 = .ok (.aload_n 0, 1) := by decide +kernel
theorem d_Ga_init_40 : decode b_Ga_init 40 = .ok (.bipush 32, 2) := by decide +kernel
theorem d_Ga_init_42 : decode b_Ga_init 42 = .ok (.putfield 30, 3) := by decide +kernel
theorem d_Ga_init_45 : decode b_Ga_init 45 = .ok (.aload_n 0, 1) := by decide +kernel
theorem d_Ga_init_46 : decode b_Ga_init 46 = .ok (.aload_n 1, 1) := by decide +kernel
theorem d_Ga_init_47 : decode b_Ga_init 47 = .ok (.putfield 34, 3) := by decide +kernel
theorem d_Ga_init_50 : decode b_Ga_init 50 = .ok (.return_, 1) := by decide +kernel
abbrev b_Ga_judge : ByteArray := prog_6_method_2_code
def y_Ga_judge : MethodName := ⟨R_Ga, "judge", "(LRealmHouse$Bytes;IILRealmHouse$Principal;LRealmHouse$Seen;I)I"⟩
abbrev k_Ga_judge : Cond := .code y_Ga_judge b_Ga_judge 9 (some .int)
theorem ki_Ga_judge : k_Ga_judge ∈ lw_tg := in_t 961 (by decide +kernel)
theorem ks_Ga_judge : Cond.instanceMethod y_Ga_judge ∈ lw_tg := in_t 959 (by decide +kernel)
theorem kx_Ga_judge : Cond.selects R_Ga y_Ga_judge y_Ga_judge ∈ lw_tg := in_t 960 (by decide +kernel)
theorem kl_H_Ga_judge : Cond.methodLink R_H 167 y_Ga_judge ∈ lw_tg := in_t 958 (by decide +kernel)
theorem hd_Ga_judge : y_Ga_judge.cls = R_Ga ∧ y_Ga_judge.cls ≠ "java/lang/invoke/MethodHandle" ∧ y_Ga_judge.cls ≠ "java/lang/invoke/VarHandle" ∧ (parseMethodDescriptor y_Ga_judge.desc).map (fun d => d.parameters.length) = some 6 := by decide +kernel
theorem d_Ga_judge_0 : decode b_Ga_judge 0 = .ok (.aload_n 1, 1) := by decide +kernel
theorem d_Ga_judge_1 : decode b_Ga_judge 1 = .ok (.sipush 366, 3) := by decide +kernel
theorem d_Ga_judge_4 : decode b_Ga_judge 4 = .ok (.iload_n 2, 1) := by decide +kernel
theorem d_Ga_judge_5 : decode b_Ga_judge 5 = .ok (.iload_n 3, 1) := by decide +kernel
theorem d_Ga_judge_6 : decode b_Ga_judge 6 = .ok (.invokevirtual 38, 3) := by decide +kernel
theorem d_Ga_judge_9 : decode b_Ga_judge 9 = .ok (.ifCond .ne 6, 3) := by decide +kernel
theorem d_Ga_judge_12 : decode b_Ga_judge 12 = .ok (.bipush 60, 2) := by decide +kernel
theorem d_Ga_judge_14 : decode b_Ga_judge 14 = .ok (.ireturn, 1) := by decide +kernel
theorem d_Ga_judge_15 : decode b_Ga_judge 15 = .ok (.aload_n 1, 1) := by decide +kernel
theorem d_Ga_judge_16 : decode b_Ga_judge 16 = .ok (.aload_n 1, 1) := by decide +kernel
theorem d_Ga_judge_17 : decode b_Ga_judge 17 = .ok (.iload_n 2, 1) := by decide +kernel
theorem d_Ga_judge_18 : decode b_Ga_judge 18 = .ok (.iconst 0, 1) := by decide +kernel
theorem d_Ga_judge_19 : decode b_Ga_judge 19 = .ok (.invokevirtual 42, 3) := by decide +kernel
theorem d_Ga_judge_22 : decode b_Ga_judge 22 = .ok (.invokevirtual 46, 3) := by decide +kernel
theorem d_Ga_judge_25 : decode b_Ga_judge 25 = .ok (.ldc2_w 50, 3) := by decide +kernel
theorem d_Ga_judge_28 : decode b_Ga_judge 28 = .ok (.lcmp, 1) := by decide +kernel
theorem d_Ga_judge_29 : decode b_Ga_judge 29 = .ok (.ifCond .eq 5, 3) := by decide +kernel
theorem d_Ga_judge_32 : decode b_Ga_judge 32 = .ok (.iconst 3, 1) := by decide +kernel
theorem d_Ga_judge_33 : decode b_Ga_judge 33 = .ok (.ireturn, 1) := by decide +kernel
theorem d_Ga_judge_34 : decode b_Ga_judge 34 = .ok (.aload_n 1, 1) := by decide +kernel
theorem d_Ga_judge_35 : decode b_Ga_judge 35 = .ok (.aload_n 1, 1) := by decide +kernel
theorem d_Ga_judge_36 : decode b_Ga_judge 36 = .ok (.iload_n 2, 1) := by decide +kernel
theorem d_Ga_judge_37 : decode b_Ga_judge 37 = .ok (.iconst 1, 1) := by decide +kernel
theorem d_Ga_judge_38 : decode b_Ga_judge 38 = .ok (.invokevirtual 42, 3) := by decide +kernel
theorem d_Ga_judge_41 : decode b_Ga_judge 41 = .ok (.invokevirtual 46, 3) := by decide +kernel
theorem d_Ga_judge_44 : decode b_Ga_judge 44 = .ok (.ldc2_w 52, 3) := by decide +kernel
theorem d_Ga_judge_47 : decode b_Ga_judge 47 = .ok (.lcmp, 1) := by decide +kernel
theorem d_Ga_judge_48 : decode b_Ga_judge 48 = .ok (.ifCond .eq 6, 3) := by decide +kernel
theorem d_Ga_judge_51 : decode b_Ga_judge 51 = .ok (.bipush 40, 2) := by decide +kernel
theorem d_Ga_judge_53 : decode b_Ga_judge 53 = .ok (.ireturn, 1) := by decide +kernel
theorem d_Ga_judge_54 : decode b_Ga_judge 54 = .ok (.aload_n 1, 1) := by decide +kernel
theorem d_Ga_judge_55 : decode b_Ga_judge 55 = .ok (.iload_n 2, 1) := by decide +kernel
theorem d_Ga_judge_56 : decode b_Ga_judge 56 = .ok (.iconst 2, 1) := by decide +kernel
theorem d_Ga_judge_57 : decode b_Ga_judge 57 = .ok (.invokevirtual 42, 3) := by decide +kernel
theorem d_Ga_judge_60 : decode b_Ga_judge 60 = .ok (.istore 7, 2) := by decide +kernel
theorem d_Ga_judge_62 : decode b_Ga_judge 62 = .ok (.iload 6, 2) := by decide +kernel
theorem d_Ga_judge_64 : decode b_Ga_judge 64 = .ok (.bipush 11, 2) := by decide +kernel
theorem d_Ga_judge_66 : decode b_Ga_judge 66 = .ok (.if_icmp .ne 27, 3) := by decide +kernel
theorem d_Ga_judge_69 : decode b_Ga_judge 69 = .ok (.aload_n 1, 1) := by decide +kernel
theorem d_Ga_judge_70 : decode b_Ga_judge 70 = .ok (.iload 7, 2) := by decide +kernel
theorem d_Ga_judge_72 : decode b_Ga_judge 72 = .ok (.invokevirtual 54, 3) := by decide +kernel
theorem d_Ga_judge_75 : decode b_Ga_judge 75 = .ok (.ldc 58, 2) := by decide +kernel
theorem d_Ga_judge_77 : decode b_Ga_judge 77 = .ok (.iand, 1) := by decide +kernel
theorem d_Ga_judge_78 : decode b_Ga_judge 78 = .ok (.ifCond .ne 12, 3) := by decide +kernel
theorem d_Ga_judge_81 : decode b_Ga_judge 81 = .ok (.aload_n 1, 1) := by decide +kernel
theorem d_Ga_judge_82 : decode b_Ga_judge 82 = .ok (.iload 7, 2) := by decide +kernel
theorem d_Ga_judge_84 : decode b_Ga_judge 84 = .ok (.invokevirtual 59, 3) := by decide +kernel
theorem d_Ga_judge_87 : decode b_Ga_judge 87 = .ok (.ifCond .eq 6, 3) := by decide +kernel
theorem d_Ga_judge_90 : decode b_Ga_judge 90 = .ok (.bipush 13, 2) := by decide +kernel
theorem d_Ga_judge_92 : decode b_Ga_judge 92 = .ok (.ireturn, 1) := by decide +kernel
theorem d_Ga_judge_93 : decode b_Ga_judge 93 = .ok (.aload_n 0, 1) := by decide +kernel
theorem d_Ga_judge_94 : decode b_Ga_judge 94 = .ok (.aload_n 1, 1) := by decide +kernel
theorem d_Ga_judge_95 : decode b_Ga_judge 95 = .ok (.aload_n 1, 1) := by decide +kernel
theorem d_Ga_judge_96 : decode b_Ga_judge 96 = .ok (.iload_n 2, 1) := by decide +kernel
theorem d_Ga_judge_97 : decode b_Ga_judge 97 = .ok (.iconst 3, 1) := by decide +kernel
theorem d_Ga_judge_98 : decode b_Ga_judge 98 = .ok (.invokevirtual 42, 3) := by decide +kernel
theorem d_Ga_judge_101 : decode b_Ga_judge 101 = .ok (.aload 4, 2) := by decide +kernel
theorem d_Ga_judge_103 : decode b_Ga_judge 103 = .ok (.invokevirtual 63, 3) := by decide +kernel
theorem d_Ga_judge_106 : decode b_Ga_judge 106 = .ok (.istore 8, 2) := by decide +kernel
theorem d_Ga_judge_108 : decode b_Ga_judge 108 = .ok (.iload 8, 2) := by decide +kernel
theorem d_Ga_judge_110 : decode b_Ga_judge 110 = .ok (.ifCond .ne 18, 3) := by decide +kernel
theorem d_Ga_judge_113 : decode b_Ga_judge 113 = .ok (.aload_n 0, 1) := by decide +kernel
theorem d_Ga_judge_114 : decode b_Ga_judge 114 = .ok (.aload_n 1, 1) := by decide +kernel
theorem d_Ga_judge_115 : decode b_Ga_judge 115 = .ok (.aload_n 1, 1) := by decide +kernel
theorem d_Ga_judge_116 : decode b_Ga_judge 116 = .ok (.iload_n 2, 1) := by decide +kernel
theorem d_Ga_judge_117 : decode b_Ga_judge 117 = .ok (.iconst 4, 1) := by decide +kernel
theorem d_Ga_judge_118 : decode b_Ga_judge 118 = .ok (.invokevirtual 42, 3) := by decide +kernel
theorem d_Ga_judge_121 : decode b_Ga_judge 121 = .ok (.iload 6, 2) := by decide +kernel
theorem d_Ga_judge_123 : decode b_Ga_judge 123 = .ok (.invokevirtual 67, 3) := by decide +kernel
theorem d_Ga_judge_126 : decode b_Ga_judge 126 = .ok (.istore 8, 2) := by decide +kernel
theorem d_Ga_judge_128 : decode b_Ga_judge 128 = .ok (.iload 8, 2) := by decide +kernel
theorem d_Ga_judge_130 : decode b_Ga_judge 130 = .ok (.ifCond .ne 12, 3) := by decide +kernel
theorem d_Ga_judge_133 : decode b_Ga_judge 133 = .ok (.aload_n 0, 1) := by decide +kernel
theorem d_Ga_judge_134 : decode b_Ga_judge 134 = .ok (.aload 5, 2) := by decide +kernel
theorem d_Ga_judge_136 : decode b_Ga_judge 136 = .ok (.invokevirtual 71, 3) := by decide +kernel
theorem d_Ga_judge_139 : decode b_Ga_judge 139 = .ok (.goto 5, 3) := by decide +kernel
theorem d_Ga_judge_142 : decode b_Ga_judge 142 = .ok (.iload 8, 2) := by decide +kernel
theorem d_Ga_judge_144 : decode b_Ga_judge 144 = .ok (.ireturn, 1) := by decide +kernel
abbrev b_Ga_openTicket : ByteArray := prog_6_method_3_code
def y_Ga_openTicket : MethodName := ⟨R_Ga, "openTicket", "(LRealmHouse$Bytes;ILRealmHouse$Principal;)I"⟩
abbrev k_Ga_openTicket : Cond := .code y_Ga_openTicket b_Ga_openTicket 10 (some .int)
theorem ki_Ga_openTicket : k_Ga_openTicket ∈ lw_tg := in_t 976 (by decide +kernel)
theorem ks_Ga_openTicket : Cond.instanceMethod y_Ga_openTicket ∈ lw_tg := in_t 975 (by decide +kernel)
theorem kx_Ga_openTicket : Cond.selects R_Ga y_Ga_openTicket y_Ga_openTicket ∈ lw_tg := List.mem_filter.mpr ⟨List.mem_append_left _ (List.mem_of_getElem? (i := 18) (by decide +kernel)), rfl⟩
theorem kl_Ga_Ga_openTicket : Cond.methodLink R_Ga 63 y_Ga_openTicket ∈ lw_tg := in_t 973 (by decide +kernel)
theorem hd_Ga_openTicket : y_Ga_openTicket.cls = R_Ga ∧ y_Ga_openTicket.cls ≠ "java/lang/invoke/MethodHandle" ∧ y_Ga_openTicket.cls ≠ "java/lang/invoke/VarHandle" ∧ (parseMethodDescriptor y_Ga_openTicket.desc).map (fun d => d.parameters.length) = some 3 := by decide +kernel
theorem d_Ga_openTicket_0 : decode b_Ga_openTicket 0 = .ok (.aload_n 1, 1) := by decide +kernel
theorem d_Ga_openTicket_1 : decode b_Ga_openTicket 1 = .ok (.aload_n 1, 1) := by decide +kernel
theorem d_Ga_openTicket_2 : decode b_Ga_openTicket 2 = .ok (.iload_n 2, 1) := by decide +kernel
theorem d_Ga_openTicket_3 : decode b_Ga_openTicket 3 = .ok (.iconst 0, 1) := by decide +kernel
theorem d_Ga_openTicket_4 : decode b_Ga_openTicket 4 = .ok (.invokevirtual 42, 3) := by decide +kernel
theorem d_Ga_openTicket_7 : decode b_Ga_openTicket 7 = .ok (.invokevirtual 46, 3) := by decide +kernel
theorem d_Ga_openTicket_10 : decode b_Ga_openTicket 10 = .ok (.ldc2_w 50, 3) := by decide +kernel
theorem d_Ga_openTicket_13 : decode b_Ga_openTicket 13 = .ok (.lcmp, 1) := by decide +kernel
theorem d_Ga_openTicket_14 : decode b_Ga_openTicket 14 = .ok (.ifCond .eq 6, 3) := by decide +kernel
theorem d_Ga_openTicket_17 : decode b_Ga_openTicket 17 = .ok (.bipush 39, 2) := by decide +kernel
theorem d_Ga_openTicket_19 : decode b_Ga_openTicket 19 = .ok (.ireturn, 1) := by decide +kernel
theorem d_Ga_openTicket_20 : decode b_Ga_openTicket 20 = .ok (.aload_n 1, 1) := by decide +kernel
theorem d_Ga_openTicket_21 : decode b_Ga_openTicket 21 = .ok (.aload_n 1, 1) := by decide +kernel
theorem d_Ga_openTicket_22 : decode b_Ga_openTicket 22 = .ok (.iload_n 2, 1) := by decide +kernel
theorem d_Ga_openTicket_23 : decode b_Ga_openTicket 23 = .ok (.iconst 1, 1) := by decide +kernel
theorem d_Ga_openTicket_24 : decode b_Ga_openTicket 24 = .ok (.invokevirtual 42, 3) := by decide +kernel
theorem d_Ga_openTicket_27 : decode b_Ga_openTicket 27 = .ok (.invokevirtual 75, 3) := by decide +kernel
theorem d_Ga_openTicket_30 : decode b_Ga_openTicket 30 = .ok (.ifCond .eq 20, 3) := by decide +kernel
theorem d_Ga_openTicket_33 : decode b_Ga_openTicket 33 = .ok (.aload_n 1, 1) := by decide +kernel
theorem d_Ga_openTicket_34 : decode b_Ga_openTicket 34 = .ok (.aload_n 1, 1) := by decide +kernel
theorem d_Ga_openTicket_35 : decode b_Ga_openTicket 35 = .ok (.iload_n 2, 1) := by decide +kernel
theorem d_Ga_openTicket_36 : decode b_Ga_openTicket 36 = .ok (.iconst 2, 1) := by decide +kernel
theorem d_Ga_openTicket_37 : decode b_Ga_openTicket 37 = .ok (.invokevirtual 42, 3) := by decide +kernel
theorem d_Ga_openTicket_40 : decode b_Ga_openTicket 40 = .ok (.aload_n 3, 1) := by decide +kernel
theorem d_Ga_openTicket_41 : decode b_Ga_openTicket 41 = .ok (.getfield 78, 3) := by decide +kernel
theorem d_Ga_openTicket_44 : decode b_Ga_openTicket 44 = .ok (.invokevirtual 83, 3) := by decide +kernel
theorem d_Ga_openTicket_47 : decode b_Ga_openTicket 47 = .ok (.ifCond .ne 6, 3) := by decide +kernel
theorem d_Ga_openTicket_50 : decode b_Ga_openTicket 50 = .ok (.bipush 35, 2) := by decide +kernel
theorem d_Ga_openTicket_52 : decode b_Ga_openTicket 52 = .ok (.ireturn, 1) := by decide +kernel
theorem d_Ga_openTicket_53 : decode b_Ga_openTicket 53 = .ok (.aload_n 1, 1) := by decide +kernel
theorem d_Ga_openTicket_54 : decode b_Ga_openTicket 54 = .ok (.iload_n 2, 1) := by decide +kernel
theorem d_Ga_openTicket_55 : decode b_Ga_openTicket 55 = .ok (.iconst 3, 1) := by decide +kernel
theorem d_Ga_openTicket_56 : decode b_Ga_openTicket 56 = .ok (.invokevirtual 42, 3) := by decide +kernel
theorem d_Ga_openTicket_59 : decode b_Ga_openTicket 59 = .ok (.istore 4, 2) := by decide +kernel
theorem d_Ga_openTicket_61 : decode b_Ga_openTicket 61 = .ok (.aload_n 1, 1) := by decide +kernel
theorem d_Ga_openTicket_62 : decode b_Ga_openTicket 62 = .ok (.iload 4, 2) := by decide +kernel
theorem d_Ga_openTicket_64 : decode b_Ga_openTicket 64 = .ok (.iconst 1, 1) := by decide +kernel
theorem d_Ga_openTicket_65 : decode b_Ga_openTicket 65 = .ok (.invokevirtual 42, 3) := by decide +kernel
theorem d_Ga_openTicket_68 : decode b_Ga_openTicket 68 = .ok (.istore 5, 2) := by decide +kernel
theorem d_Ga_openTicket_70 : decode b_Ga_openTicket 70 = .ok (.iload 5, 2) := by decide +kernel
theorem d_Ga_openTicket_72 : decode b_Ga_openTicket 72 = .ok (.ifCond .ge 11, 3) := by decide +kernel
theorem d_Ga_openTicket_75 : decode b_Ga_openTicket 75 = .ok (.aload_n 3, 1) := by decide +kernel
theorem d_Ga_openTicket_76 : decode b_Ga_openTicket 76 = .ok (.getfield 87, 3) := by decide +kernel
theorem d_Ga_openTicket_79 : decode b_Ga_openTicket 79 = .ok (.i2l, 1) := by decide +kernel
theorem d_Ga_openTicket_80 : decode b_Ga_openTicket 80 = .ok (.goto 9, 3) := by decide +kernel
theorem d_Ga_openTicket_83 : decode b_Ga_openTicket 83 = .ok (.aload_n 1, 1) := by decide +kernel
theorem d_Ga_openTicket_84 : decode b_Ga_openTicket 84 = .ok (.iload 5, 2) := by decide +kernel
theorem d_Ga_openTicket_86 : decode b_Ga_openTicket 86 = .ok (.invokevirtual 46, 3) := by decide +kernel
theorem d_Ga_openTicket_89 : decode b_Ga_openTicket 89 = .ok (.lstore 6, 2) := by decide +kernel
theorem d_Ga_openTicket_91 : decode b_Ga_openTicket 91 = .ok (.aload_n 3, 1) := by decide +kernel
theorem d_Ga_openTicket_92 : decode b_Ga_openTicket 92 = .ok (.lload 6, 2) := by decide +kernel
theorem d_Ga_openTicket_94 : decode b_Ga_openTicket 94 = .ok (.invokevirtual 90, 3) := by decide +kernel
theorem d_Ga_openTicket_97 : decode b_Ga_openTicket 97 = .ok (.ifCond .ne 6, 3) := by decide +kernel
theorem d_Ga_openTicket_100 : decode b_Ga_openTicket 100 = .ok (.bipush 44, 2) := by decide +kernel
theorem d_Ga_openTicket_102 : decode b_Ga_openTicket 102 = .ok (.ireturn, 1) := by decide +kernel
theorem d_Ga_openTicket_103 : decode b_Ga_openTicket 103 = .ok (.aload_n 1, 1) := by decide +kernel
theorem d_Ga_openTicket_104 : decode b_Ga_openTicket 104 = .ok (.aload_n 1, 1) := by decide +kernel
theorem d_Ga_openTicket_105 : decode b_Ga_openTicket 105 = .ok (.iload 4, 2) := by decide +kernel
theorem d_Ga_openTicket_107 : decode b_Ga_openTicket 107 = .ok (.iconst 0, 1) := by decide +kernel
theorem d_Ga_openTicket_108 : decode b_Ga_openTicket 108 = .ok (.invokevirtual 42, 3) := by decide +kernel
theorem d_Ga_openTicket_111 : decode b_Ga_openTicket 111 = .ok (.invokevirtual 46, 3) := by decide +kernel
theorem d_Ga_openTicket_114 : decode b_Ga_openTicket 114 = .ok (.lstore 8, 2) := by decide +kernel
theorem d_Ga_openTicket_116 : decode b_Ga_openTicket 116 = .ok (.lload 8, 2) := by decide +kernel
theorem d_Ga_openTicket_118 : decode b_Ga_openTicket 118 = .ok (.ldc2_w 94, 3) := by decide +kernel
theorem d_Ga_openTicket_121 : decode b_Ga_openTicket 121 = .ok (.lcmp, 1) := by decide +kernel
theorem d_Ga_openTicket_122 : decode b_Ga_openTicket 122 = .ok (.ifCond .eq 15, 3) := by decide +kernel
theorem d_Ga_openTicket_125 : decode b_Ga_openTicket 125 = .ok (.lload 8, 2) := by decide +kernel
theorem d_Ga_openTicket_127 : decode b_Ga_openTicket 127 = .ok (.ldc2_w 96, 3) := by decide +kernel
theorem d_Ga_openTicket_130 : decode b_Ga_openTicket 130 = .ok (.lcmp, 1) := by decide +kernel
theorem d_Ga_openTicket_131 : decode b_Ga_openTicket 131 = .ok (.ifCond .eq 6, 3) := by decide +kernel
theorem d_Ga_openTicket_134 : decode b_Ga_openTicket 134 = .ok (.bipush 14, 2) := by decide +kernel
theorem d_Ga_openTicket_136 : decode b_Ga_openTicket 136 = .ok (.ireturn, 1) := by decide +kernel
theorem d_Ga_openTicket_137 : decode b_Ga_openTicket 137 = .ok (.aload_n 0, 1) := by decide +kernel
theorem d_Ga_openTicket_138 : decode b_Ga_openTicket 138 = .ok (.getfield 34, 3) := by decide +kernel
theorem d_Ga_openTicket_141 : decode b_Ga_openTicket 141 = .ok (.aload_n 1, 1) := by decide +kernel
theorem d_Ga_openTicket_142 : decode b_Ga_openTicket 142 = .ok (.iload 4, 2) := by decide +kernel
theorem d_Ga_openTicket_144 : decode b_Ga_openTicket 144 = .ok (.aload_n 3, 1) := by decide +kernel
theorem d_Ga_openTicket_145 : decode b_Ga_openTicket 145 = .ok (.lload 6, 2) := by decide +kernel
theorem d_Ga_openTicket_147 : decode b_Ga_openTicket 147 = .ok (.lload 8, 2) := by decide +kernel
theorem d_Ga_openTicket_149 : decode b_Ga_openTicket 149 = .ok (.invokevirtual 98, 3) := by decide +kernel
theorem d_Ga_openTicket_152 : decode b_Ga_openTicket 152 = .ok (.iconst 2, 1) := by decide +kernel
theorem d_Ga_openTicket_153 : decode b_Ga_openTicket 153 = .ok (.aload_n 0, 1) := by decide +kernel
theorem d_Ga_openTicket_154 : decode b_Ga_openTicket 154 = .ok (.getfield 14, 3) := by decide +kernel
theorem d_Ga_openTicket_157 : decode b_Ga_openTicket 157 = .ok (.invokevirtual 102, 3) := by decide +kernel
theorem d_Ga_openTicket_160 : decode b_Ga_openTicket 160 = .ok (.ifCond .ne 6, 3) := by decide +kernel
theorem d_Ga_openTicket_163 : decode b_Ga_openTicket 163 = .ok (.bipush 31, 2) := by decide +kernel
theorem d_Ga_openTicket_165 : decode b_Ga_openTicket 165 = .ok (.ireturn, 1) := by decide +kernel
theorem d_Ga_openTicket_166 : decode b_Ga_openTicket 166 = .ok (.aload_n 0, 1) := by decide +kernel
theorem d_Ga_openTicket_167 : decode b_Ga_openTicket 167 = .ok (.getfield 14, 3) := by decide +kernel
theorem d_Ga_openTicket_170 : decode b_Ga_openTicket 170 = .ok (.sipush 355, 3) := by decide +kernel
theorem d_Ga_openTicket_173 : decode b_Ga_openTicket 173 = .ok (.iconst 0, 1) := by decide +kernel
theorem d_Ga_openTicket_174 : decode b_Ga_openTicket 174 = .ok (.aload_n 0, 1) := by decide +kernel
theorem d_Ga_openTicket_175 : decode b_Ga_openTicket 175 = .ok (.getfield 14, 3) := by decide +kernel
theorem d_Ga_openTicket_178 : decode b_Ga_openTicket 178 = .ok (.getfield 108, 3) := by decide +kernel
theorem d_Ga_openTicket_181 : decode b_Ga_openTicket 181 = .ok (.invokevirtual 38, 3) := by decide +kernel
theorem d_Ga_openTicket_184 : decode b_Ga_openTicket 184 = .ok (.ifCond .eq 43, 3) := by decide +kernel
theorem d_Ga_openTicket_187 : decode b_Ga_openTicket 187 = .ok (.aload_n 0, 1) := by decide +kernel
theorem d_Ga_openTicket_188 : decode b_Ga_openTicket 188 = .ok (.getfield 14, 3) := by decide +kernel
theorem d_Ga_openTicket_191 : decode b_Ga_openTicket 191 = .ok (.aload_n 0, 1) := by decide +kernel
theorem d_Ga_openTicket_192 : decode b_Ga_openTicket 192 = .ok (.getfield 14, 3) := by decide +kernel
theorem d_Ga_openTicket_195 : decode b_Ga_openTicket 195 = .ok (.iconst 0, 1) := by decide +kernel
theorem d_Ga_openTicket_196 : decode b_Ga_openTicket 196 = .ok (.iconst 2, 1) := by decide +kernel
theorem d_Ga_openTicket_197 : decode b_Ga_openTicket 197 = .ok (.invokevirtual 42, 3) := by decide +kernel
theorem d_Ga_openTicket_200 : decode b_Ga_openTicket 200 = .ok (.invokevirtual 75, 3) := by decide +kernel
theorem d_Ga_openTicket_203 : decode b_Ga_openTicket 203 = .ok (.ifCond .eq 24, 3) := by decide +kernel
theorem d_Ga_openTicket_206 : decode b_Ga_openTicket 206 = .ok (.aload_n 0, 1) := by decide +kernel
theorem d_Ga_openTicket_207 : decode b_Ga_openTicket 207 = .ok (.getfield 14, 3) := by decide +kernel
theorem d_Ga_openTicket_210 : decode b_Ga_openTicket 210 = .ok (.aload_n 0, 1) := by decide +kernel
theorem d_Ga_openTicket_211 : decode b_Ga_openTicket 211 = .ok (.getfield 14, 3) := by decide +kernel
theorem d_Ga_openTicket_214 : decode b_Ga_openTicket 214 = .ok (.iconst 0, 1) := by decide +kernel
theorem d_Ga_openTicket_215 : decode b_Ga_openTicket 215 = .ok (.iconst 3, 1) := by decide +kernel
theorem d_Ga_openTicket_216 : decode b_Ga_openTicket 216 = .ok (.invokevirtual 42, 3) := by decide +kernel
theorem d_Ga_openTicket_219 : decode b_Ga_openTicket 219 = .ok (.invokevirtual 111, 3) := by decide +kernel
theorem d_Ga_openTicket_222 : decode b_Ga_openTicket 222 = .ok (.bipush 40, 2) := by decide +kernel
theorem d_Ga_openTicket_224 : decode b_Ga_openTicket 224 = .ok (.if_icmp .le 6, 3) := by decide +kernel
theorem d_Ga_openTicket_227 : decode b_Ga_openTicket 227 = .ok (.bipush 60, 2) := by decide +kernel
theorem d_Ga_openTicket_229 : decode b_Ga_openTicket 229 = .ok (.ireturn, 1) := by decide +kernel
theorem d_Ga_openTicket_230 : decode b_Ga_openTicket 230 = .ok (.aload_n 0, 1) := by decide +kernel
theorem d_Ga_openTicket_231 : decode b_Ga_openTicket 231 = .ok (.aload_n 0, 1) := by decide +kernel
theorem d_Ga_openTicket_232 : decode b_Ga_openTicket 232 = .ok (.getfield 14, 3) := by decide +kernel
theorem d_Ga_openTicket_235 : decode b_Ga_openTicket 235 = .ok (.aload_n 0, 1) := by decide +kernel
theorem d_Ga_openTicket_236 : decode b_Ga_openTicket 236 = .ok (.getfield 14, 3) := by decide +kernel
theorem d_Ga_openTicket_239 : decode b_Ga_openTicket 239 = .ok (.iconst 0, 1) := by decide +kernel
theorem d_Ga_openTicket_240 : decode b_Ga_openTicket 240 = .ok (.iconst 1, 1) := by decide +kernel
theorem d_Ga_openTicket_241 : decode b_Ga_openTicket 241 = .ok (.invokevirtual 42, 3) := by decide +kernel
theorem d_Ga_openTicket_244 : decode b_Ga_openTicket 244 = .ok (.invokestatic 114, 3) := by decide +kernel
theorem d_Ga_openTicket_247 : decode b_Ga_openTicket 247 = .ok (.putfield 27, 3) := by decide +kernel
theorem d_Ga_openTicket_250 : decode b_Ga_openTicket 250 = .ok (.aload_n 0, 1) := by decide +kernel
theorem d_Ga_openTicket_251 : decode b_Ga_openTicket 251 = .ok (.getfield 27, 3) := by decide +kernel
theorem d_Ga_openTicket_254 : decode b_Ga_openTicket 254 = .ok (.arraylength, 1) := by decide +kernel
theorem d_Ga_openTicket_255 : decode b_Ga_openTicket 255 = .ok (.ifCond .ne 8, 3) := by decide +kernel
theorem d_Ga_openTicket_258 : decode b_Ga_openTicket 258 = .ok (.bipush 14, 2) := by decide +kernel
theorem d_Ga_openTicket_260 : decode b_Ga_openTicket 260 = .ok (.goto 4, 3) := by decide +kernel
theorem d_Ga_openTicket_263 : decode b_Ga_openTicket 263 = .ok (.iconst 0, 1) := by decide +kernel
theorem d_Ga_openTicket_264 : decode b_Ga_openTicket 264 = .ok (.ireturn, 1) := by decide +kernel
abbrev b_Ga_openProof : ByteArray := prog_6_method_4_code
def y_Ga_openProof : MethodName := ⟨R_Ga, "openProof", "(LRealmHouse$Bytes;II)I"⟩
abbrev k_Ga_openProof : Cond := .code y_Ga_openProof b_Ga_openProof 4 (some .int)
theorem ki_Ga_openProof : k_Ga_openProof ∈ lw_tg := in_t 1060 (by decide +kernel)
theorem ks_Ga_openProof : Cond.instanceMethod y_Ga_openProof ∈ lw_tg := in_t 1059 (by decide +kernel)
theorem kx_Ga_openProof : Cond.selects R_Ga y_Ga_openProof y_Ga_openProof ∈ lw_tg := List.mem_filter.mpr ⟨List.mem_append_left _ (List.mem_of_getElem? (i := 24) (by decide +kernel)), rfl⟩
theorem kl_Ga_Ga_openProof : Cond.methodLink R_Ga 67 y_Ga_openProof ∈ lw_tg := in_t 1057 (by decide +kernel)
theorem hd_Ga_openProof : y_Ga_openProof.cls = R_Ga ∧ y_Ga_openProof.cls ≠ "java/lang/invoke/MethodHandle" ∧ y_Ga_openProof.cls ≠ "java/lang/invoke/VarHandle" ∧ (parseMethodDescriptor y_Ga_openProof.desc).map (fun d => d.parameters.length) = some 3 := by decide +kernel
theorem d_Ga_openProof_0 : decode b_Ga_openProof 0 = .ok (.aload_n 0, 1) := by decide +kernel
theorem d_Ga_openProof_1 : decode b_Ga_openProof 1 = .ok (.getfield 34, 3) := by decide +kernel
theorem d_Ga_openProof_4 : decode b_Ga_openProof 4 = .ok (.aload_n 1, 1) := by decide +kernel
theorem d_Ga_openProof_5 : decode b_Ga_openProof 5 = .ok (.iload_n 2, 1) := by decide +kernel
theorem d_Ga_openProof_6 : decode b_Ga_openProof 6 = .ok (.aload_n 0, 1) := by decide +kernel
theorem d_Ga_openProof_7 : decode b_Ga_openProof 7 = .ok (.getfield 27, 3) := by decide +kernel
theorem d_Ga_openProof_10 : decode b_Ga_openProof 10 = .ok (.iload_n 3, 1) := by decide +kernel
theorem d_Ga_openProof_11 : decode b_Ga_openProof 11 = .ok (.aload_n 0, 1) := by decide +kernel
theorem d_Ga_openProof_12 : decode b_Ga_openProof 12 = .ok (.getfield 20, 3) := by decide +kernel
theorem d_Ga_openProof_15 : decode b_Ga_openProof 15 = .ok (.invokevirtual 102, 3) := by decide +kernel
theorem d_Ga_openProof_18 : decode b_Ga_openProof 18 = .ok (.ifCond .ne 6, 3) := by decide +kernel
theorem d_Ga_openProof_21 : decode b_Ga_openProof 21 = .ok (.bipush 31, 2) := by decide +kernel
theorem d_Ga_openProof_23 : decode b_Ga_openProof 23 = .ok (.ireturn, 1) := by decide +kernel
theorem d_Ga_openProof_24 : decode b_Ga_openProof 24 = .ok (.aload_n 0, 1) := by decide +kernel
theorem d_Ga_openProof_25 : decode b_Ga_openProof 25 = .ok (.getfield 20, 3) := by decide +kernel
theorem d_Ga_openProof_28 : decode b_Ga_openProof 28 = .ok (.sipush 354, 3) := by decide +kernel
theorem d_Ga_openProof_31 : decode b_Ga_openProof 31 = .ok (.iconst 0, 1) := by decide +kernel
theorem d_Ga_openProof_32 : decode b_Ga_openProof 32 = .ok (.aload_n 0, 1) := by decide +kernel
theorem d_Ga_openProof_33 : decode b_Ga_openProof 33 = .ok (.getfield 20, 3) := by decide +kernel
theorem d_Ga_openProof_36 : decode b_Ga_openProof 36 = .ok (.getfield 108, 3) := by decide +kernel
theorem d_Ga_openProof_39 : decode b_Ga_openProof 39 = .ok (.invokevirtual 38, 3) := by decide +kernel
theorem d_Ga_openProof_42 : decode b_Ga_openProof 42 = .ok (.ifCond .ne 6, 3) := by decide +kernel
theorem d_Ga_openProof_45 : decode b_Ga_openProof 45 = .ok (.bipush 60, 2) := by decide +kernel
theorem d_Ga_openProof_47 : decode b_Ga_openProof 47 = .ok (.ireturn, 1) := by decide +kernel
theorem d_Ga_openProof_48 : decode b_Ga_openProof 48 = .ok (.aload_n 0, 1) := by decide +kernel
theorem d_Ga_openProof_49 : decode b_Ga_openProof 49 = .ok (.getfield 20, 3) := by decide +kernel
theorem d_Ga_openProof_52 : decode b_Ga_openProof 52 = .ok (.aload_n 0, 1) := by decide +kernel
theorem d_Ga_openProof_53 : decode b_Ga_openProof 53 = .ok (.getfield 20, 3) := by decide +kernel
theorem d_Ga_openProof_56 : decode b_Ga_openProof 56 = .ok (.iconst 0, 1) := by decide +kernel
theorem d_Ga_openProof_57 : decode b_Ga_openProof 57 = .ok (.iconst 1, 1) := by decide +kernel
theorem d_Ga_openProof_58 : decode b_Ga_openProof 58 = .ok (.invokevirtual 42, 3) := by decide +kernel
theorem d_Ga_openProof_61 : decode b_Ga_openProof 61 = .ok (.invokevirtual 75, 3) := by decide +kernel
theorem d_Ga_openProof_64 : decode b_Ga_openProof 64 = .ok (.ifCond .eq 35, 3) := by decide +kernel
theorem d_Ga_openProof_67 : decode b_Ga_openProof 67 = .ok (.aload_n 0, 1) := by decide +kernel
theorem d_Ga_openProof_68 : decode b_Ga_openProof 68 = .ok (.getfield 20, 3) := by decide +kernel
theorem d_Ga_openProof_71 : decode b_Ga_openProof 71 = .ok (.aload_n 0, 1) := by decide +kernel
theorem d_Ga_openProof_72 : decode b_Ga_openProof 72 = .ok (.getfield 20, 3) := by decide +kernel
theorem d_Ga_openProof_75 : decode b_Ga_openProof 75 = .ok (.iconst 0, 1) := by decide +kernel
theorem d_Ga_openProof_76 : decode b_Ga_openProof 76 = .ok (.iconst 2, 1) := by decide +kernel
theorem d_Ga_openProof_77 : decode b_Ga_openProof 77 = .ok (.invokevirtual 42, 3) := by decide +kernel
theorem d_Ga_openProof_80 : decode b_Ga_openProof 80 = .ok (.aload_n 0, 1) := by decide +kernel
theorem d_Ga_openProof_81 : decode b_Ga_openProof 81 = .ok (.getfield 14, 3) := by decide +kernel
theorem d_Ga_openProof_84 : decode b_Ga_openProof 84 = .ok (.aload_n 0, 1) := by decide +kernel
theorem d_Ga_openProof_85 : decode b_Ga_openProof 85 = .ok (.getfield 14, 3) := by decide +kernel
theorem d_Ga_openProof_88 : decode b_Ga_openProof 88 = .ok (.iconst 0, 1) := by decide +kernel
theorem d_Ga_openProof_89 : decode b_Ga_openProof 89 = .ok (.iconst 3, 1) := by decide +kernel
theorem d_Ga_openProof_90 : decode b_Ga_openProof 90 = .ok (.invokevirtual 42, 3) := by decide +kernel
theorem d_Ga_openProof_93 : decode b_Ga_openProof 93 = .ok (.invokevirtual 118, 3) := by decide +kernel
theorem d_Ga_openProof_96 : decode b_Ga_openProof 96 = .ok (.ifCond .ne 6, 3) := by decide +kernel
theorem d_Ga_openProof_99 : decode b_Ga_openProof 99 = .ok (.bipush 36, 2) := by decide +kernel
theorem d_Ga_openProof_101 : decode b_Ga_openProof 101 = .ok (.ireturn, 1) := by decide +kernel
theorem d_Ga_openProof_102 : decode b_Ga_openProof 102 = .ok (.aload_n 0, 1) := by decide +kernel
theorem d_Ga_openProof_103 : decode b_Ga_openProof 103 = .ok (.getfield 20, 3) := by decide +kernel
theorem d_Ga_openProof_106 : decode b_Ga_openProof 106 = .ok (.aload_n 0, 1) := by decide +kernel
theorem d_Ga_openProof_107 : decode b_Ga_openProof 107 = .ok (.getfield 20, 3) := by decide +kernel
theorem d_Ga_openProof_110 : decode b_Ga_openProof 110 = .ok (.iconst 0, 1) := by decide +kernel
theorem d_Ga_openProof_111 : decode b_Ga_openProof 111 = .ok (.iconst 5, 1) := by decide +kernel
theorem d_Ga_openProof_112 : decode b_Ga_openProof 112 = .ok (.invokevirtual 42, 3) := by decide +kernel
theorem d_Ga_openProof_115 : decode b_Ga_openProof 115 = .ok (.invokevirtual 122, 3) := by decide +kernel
theorem d_Ga_openProof_118 : decode b_Ga_openProof 118 = .ok (.aload_n 0, 1) := by decide +kernel
theorem d_Ga_openProof_119 : decode b_Ga_openProof 119 = .ok (.getfield 34, 3) := by decide +kernel
theorem d_Ga_openProof_122 : decode b_Ga_openProof 122 = .ok (.getfield 125, 3) := by decide +kernel
theorem d_Ga_openProof_125 : decode b_Ga_openProof 125 = .ok (.isub, 1) := by decide +kernel
theorem d_Ga_openProof_126 : decode b_Ga_openProof 126 = .ok (.invokestatic 128, 3) := by decide +kernel
theorem d_Ga_openProof_129 : decode b_Ga_openProof 129 = .ok (.sipush 300, 3) := by decide +kernel
theorem d_Ga_openProof_132 : decode b_Ga_openProof 132 = .ok (.if_icmp .le 8, 3) := by decide +kernel
theorem d_Ga_openProof_135 : decode b_Ga_openProof 135 = .ok (.bipush 37, 2) := by decide +kernel
theorem d_Ga_openProof_137 : decode b_Ga_openProof 137 = .ok (.goto 4, 3) := by decide +kernel
theorem d_Ga_openProof_140 : decode b_Ga_openProof 140 = .ok (.iconst 0, 1) := by decide +kernel
theorem d_Ga_openProof_141 : decode b_Ga_openProof 141 = .ok (.ireturn, 1) := by decide +kernel
abbrev b_Ga_keep : ByteArray := prog_6_method_5_code
def y_Ga_keep : MethodName := ⟨R_Ga, "keep", "(LRealmHouse$Seen;)I"⟩
abbrev k_Ga_keep : Cond := .code y_Ga_keep b_Ga_keep 7 (some .int)
theorem ki_Ga_keep : k_Ga_keep ∈ lw_tg := in_t 1076 (by decide +kernel)
theorem ks_Ga_keep : Cond.instanceMethod y_Ga_keep ∈ lw_tg := in_t 1075 (by decide +kernel)
theorem kx_Ga_keep : Cond.selects R_Ga y_Ga_keep y_Ga_keep ∈ lw_tg := List.mem_filter.mpr ⟨List.mem_append_left _ (List.mem_of_getElem? (i := 25) (by decide +kernel)), rfl⟩
theorem kl_Ga_Ga_keep : Cond.methodLink R_Ga 71 y_Ga_keep ∈ lw_tg := in_t 1073 (by decide +kernel)
theorem hd_Ga_keep : y_Ga_keep.cls = R_Ga ∧ y_Ga_keep.cls ≠ "java/lang/invoke/MethodHandle" ∧ y_Ga_keep.cls ≠ "java/lang/invoke/VarHandle" ∧ (parseMethodDescriptor y_Ga_keep.desc).map (fun d => d.parameters.length) = some 1 := by decide +kernel
theorem d_Ga_keep_0 : decode b_Ga_keep 0 = .ok (.aload_n 0, 1) := by decide +kernel
theorem d_Ga_keep_1 : decode b_Ga_keep 1 = .ok (.getfield 20, 3) := by decide +kernel
theorem d_Ga_keep_4 : decode b_Ga_keep 4 = .ok (.aload_n 0, 1) := by decide +kernel
theorem d_Ga_keep_5 : decode b_Ga_keep 5 = .ok (.getfield 20, 3) := by decide +kernel
theorem d_Ga_keep_8 : decode b_Ga_keep 8 = .ok (.iconst 0, 1) := by decide +kernel
theorem d_Ga_keep_9 : decode b_Ga_keep 9 = .ok (.iconst 2, 1) := by decide +kernel
theorem d_Ga_keep_10 : decode b_Ga_keep 10 = .ok (.invokevirtual 42, 3) := by decide +kernel
theorem d_Ga_keep_13 : decode b_Ga_keep 13 = .ok (.iconst 1, 1) := by decide +kernel
theorem d_Ga_keep_14 : decode b_Ga_keep 14 = .ok (.invokevirtual 42, 3) := by decide +kernel
theorem d_Ga_keep_17 : decode b_Ga_keep 17 = .ok (.istore_n 2, 1) := by decide +kernel
theorem d_Ga_keep_18 : decode b_Ga_keep 18 = .ok (.aload_n 0, 1) := by decide +kernel
theorem d_Ga_keep_19 : decode b_Ga_keep 19 = .ok (.getfield 20, 3) := by decide +kernel
theorem d_Ga_keep_22 : decode b_Ga_keep 22 = .ok (.iload_n 2, 1) := by decide +kernel
theorem d_Ga_keep_23 : decode b_Ga_keep 23 = .ok (.invokevirtual 133, 3) := by decide +kernel
theorem d_Ga_keep_26 : decode b_Ga_keep 26 = .ok (.istore_n 3, 1) := by decide +kernel
theorem d_Ga_keep_27 : decode b_Ga_keep 27 = .ok (.aload_n 0, 1) := by decide +kernel
theorem d_Ga_keep_28 : decode b_Ga_keep 28 = .ok (.getfield 20, 3) := by decide +kernel
theorem d_Ga_keep_31 : decode b_Ga_keep 31 = .ok (.iload_n 2, 1) := by decide +kernel
theorem d_Ga_keep_32 : decode b_Ga_keep 32 = .ok (.aload_n 0, 1) := by decide +kernel
theorem d_Ga_keep_33 : decode b_Ga_keep 33 = .ok (.getfield 20, 3) := by decide +kernel
theorem d_Ga_keep_36 : decode b_Ga_keep 36 = .ok (.getfield 108, 3) := by decide +kernel
theorem d_Ga_keep_39 : decode b_Ga_keep 39 = .ok (.invokevirtual 136, 3) := by decide +kernel
theorem d_Ga_keep_42 : decode b_Ga_keep 42 = .ok (.istore 4, 2) := by decide +kernel
theorem d_Ga_keep_44 : decode b_Ga_keep 44 = .ok (.aload_n 0, 1) := by decide +kernel
theorem d_Ga_keep_45 : decode b_Ga_keep 45 = .ok (.getfield 20, 3) := by decide +kernel
theorem d_Ga_keep_48 : decode b_Ga_keep 48 = .ok (.aload_n 0, 1) := by decide +kernel
theorem d_Ga_keep_49 : decode b_Ga_keep 49 = .ok (.getfield 20, 3) := by decide +kernel
theorem d_Ga_keep_52 : decode b_Ga_keep 52 = .ok (.iconst 0, 1) := by decide +kernel
theorem d_Ga_keep_53 : decode b_Ga_keep 53 = .ok (.iconst 5, 1) := by decide +kernel
theorem d_Ga_keep_54 : decode b_Ga_keep 54 = .ok (.invokevirtual 42, 3) := by decide +kernel
theorem d_Ga_keep_57 : decode b_Ga_keep 57 = .ok (.invokevirtual 122, 3) := by decide +kernel
theorem d_Ga_keep_60 : decode b_Ga_keep 60 = .ok (.istore 5, 2) := by decide +kernel
theorem d_Ga_keep_62 : decode b_Ga_keep 62 = .ok (.aload_n 0, 1) := by decide +kernel
theorem d_Ga_keep_63 : decode b_Ga_keep 63 = .ok (.getfield 20, 3) := by decide +kernel
theorem d_Ga_keep_66 : decode b_Ga_keep 66 = .ok (.aload_n 0, 1) := by decide +kernel
theorem d_Ga_keep_67 : decode b_Ga_keep 67 = .ok (.getfield 20, 3) := by decide +kernel
theorem d_Ga_keep_70 : decode b_Ga_keep 70 = .ok (.iconst 0, 1) := by decide +kernel
theorem d_Ga_keep_71 : decode b_Ga_keep 71 = .ok (.iconst 4, 1) := by decide +kernel
theorem d_Ga_keep_72 : decode b_Ga_keep 72 = .ok (.invokevirtual 42, 3) := by decide +kernel
theorem d_Ga_keep_75 : decode b_Ga_keep 75 = .ok (.invokevirtual 46, 3) := by decide +kernel
theorem d_Ga_keep_78 : decode b_Ga_keep 78 = .ok (.l2i, 1) := by decide +kernel
theorem d_Ga_keep_79 : decode b_Ga_keep 79 = .ok (.istore 6, 2) := by decide +kernel
theorem d_Ga_keep_81 : decode b_Ga_keep 81 = .ok (.aload_n 1, 1) := by decide +kernel
theorem d_Ga_keep_82 : decode b_Ga_keep 82 = .ok (.aload_n 0, 1) := by decide +kernel
theorem d_Ga_keep_83 : decode b_Ga_keep 83 = .ok (.getfield 34, 3) := by decide +kernel
theorem d_Ga_keep_86 : decode b_Ga_keep 86 = .ok (.getfield 125, 3) := by decide +kernel
theorem d_Ga_keep_89 : decode b_Ga_keep 89 = .ok (.invokevirtual 139, 3) := by decide +kernel
theorem d_Ga_keep_92 : decode b_Ga_keep 92 = .ok (.aload_n 1, 1) := by decide +kernel
theorem d_Ga_keep_93 : decode b_Ga_keep 93 = .ok (.aload_n 0, 1) := by decide +kernel
theorem d_Ga_keep_94 : decode b_Ga_keep 94 = .ok (.getfield 20, 3) := by decide +kernel
theorem d_Ga_keep_97 : decode b_Ga_keep 97 = .ok (.iload_n 3, 1) := by decide +kernel
theorem d_Ga_keep_98 : decode b_Ga_keep 98 = .ok (.iload 4, 2) := by decide +kernel
theorem d_Ga_keep_100 : decode b_Ga_keep 100 = .ok (.iload 5, 2) := by decide +kernel
theorem d_Ga_keep_102 : decode b_Ga_keep 102 = .ok (.iload 6, 2) := by decide +kernel
theorem d_Ga_keep_104 : decode b_Ga_keep 104 = .ok (.invokevirtual 144, 3) := by decide +kernel
theorem d_Ga_keep_107 : decode b_Ga_keep 107 = .ok (.ifCond .eq 6, 3) := by decide +kernel
theorem d_Ga_keep_110 : decode b_Ga_keep 110 = .ok (.bipush 34, 2) := by decide +kernel
theorem d_Ga_keep_112 : decode b_Ga_keep 112 = .ok (.ireturn, 1) := by decide +kernel
theorem d_Ga_keep_113 : decode b_Ga_keep 113 = .ok (.aload_n 1, 1) := by decide +kernel
theorem d_Ga_keep_114 : decode b_Ga_keep 114 = .ok (.aload_n 0, 1) := by decide +kernel
theorem d_Ga_keep_115 : decode b_Ga_keep 115 = .ok (.getfield 20, 3) := by decide +kernel
theorem d_Ga_keep_118 : decode b_Ga_keep 118 = .ok (.iload_n 3, 1) := by decide +kernel
theorem d_Ga_keep_119 : decode b_Ga_keep 119 = .ok (.iload 4, 2) := by decide +kernel
theorem d_Ga_keep_121 : decode b_Ga_keep 121 = .ok (.iload 5, 2) := by decide +kernel
theorem d_Ga_keep_123 : decode b_Ga_keep 123 = .ok (.iload 6, 2) := by decide +kernel
theorem d_Ga_keep_125 : decode b_Ga_keep 125 = .ok (.aload_n 0, 1) := by decide +kernel
theorem d_Ga_keep_126 : decode b_Ga_keep 126 = .ok (.getfield 30, 3) := by decide +kernel
theorem d_Ga_keep_129 : decode b_Ga_keep 129 = .ok (.invokevirtual 148, 3) := by decide +kernel
theorem d_Ga_keep_132 : decode b_Ga_keep 132 = .ok (.ifCond .eq 7, 3) := by decide +kernel
theorem d_Ga_keep_135 : decode b_Ga_keep 135 = .ok (.iconst 0, 1) := by decide +kernel
theorem d_Ga_keep_136 : decode b_Ga_keep 136 = .ok (.goto 5, 3) := by decide +kernel
theorem d_Ga_keep_139 : decode b_Ga_keep 139 = .ok (.bipush 29, 2) := by decide +kernel
theorem d_Ga_keep_141 : decode b_Ga_keep 141 = .ok (.ireturn, 1) := by decide +kernel
abbrev b_Ga_startTime : ByteArray := prog_6_method_6_code
def y_Ga_startTime : MethodName := ⟨R_Ga, "startTime", "()I"⟩
abbrev k_Ga_startTime : Cond := .code y_Ga_startTime b_Ga_startTime 2 (some .int)
theorem ki_Ga_startTime : k_Ga_startTime ∈ lw_tg := in_t 1154 (by decide +kernel)
theorem ks_Ga_startTime : Cond.instanceMethod y_Ga_startTime ∈ lw_tg := in_t 1152 (by decide +kernel)
theorem kx_Ga_startTime : Cond.selects R_Ga y_Ga_startTime y_Ga_startTime ∈ lw_tg := in_t 1153 (by decide +kernel)
theorem kl_Ce_Ga_startTime : Cond.methodLink R_Ce 237 y_Ga_startTime ∈ lw_tg := in_t 1151 (by decide +kernel)
theorem kl_Ga_Ga_startTime : Cond.methodLink R_Ga 151 y_Ga_startTime ∈ lw_tg := in_t 1213 (by decide +kernel)
theorem hd_Ga_startTime : y_Ga_startTime.cls = R_Ga ∧ y_Ga_startTime.cls ≠ "java/lang/invoke/MethodHandle" ∧ y_Ga_startTime.cls ≠ "java/lang/invoke/VarHandle" ∧ (parseMethodDescriptor y_Ga_startTime.desc).map (fun d => d.parameters.length) = some 0 := by decide +kernel
theorem d_Ga_startTime_0 : decode b_Ga_startTime 0 = .ok (.aload_n 0, 1) := by decide +kernel
theorem d_Ga_startTime_1 : decode b_Ga_startTime 1 = .ok (.getfield 14, 3) := by decide +kernel
theorem d_Ga_startTime_4 : decode b_Ga_startTime 4 = .ok (.iconst 0, 1) := by decide +kernel
theorem d_Ga_startTime_5 : decode b_Ga_startTime 5 = .ok (.bipush 6, 2) := by decide +kernel
theorem d_Ga_startTime_7 : decode b_Ga_startTime 7 = .ok (.invokevirtual 42, 3) := by decide +kernel
theorem d_Ga_startTime_10 : decode b_Ga_startTime 10 = .ok (.istore_n 1, 1) := by decide +kernel
theorem d_Ga_startTime_11 : decode b_Ga_startTime 11 = .ok (.aload_n 0, 1) := by decide +kernel
theorem d_Ga_startTime_12 : decode b_Ga_startTime 12 = .ok (.getfield 14, 3) := by decide +kernel
theorem d_Ga_startTime_15 : decode b_Ga_startTime 15 = .ok (.iload_n 1, 1) := by decide +kernel
theorem d_Ga_startTime_16 : decode b_Ga_startTime 16 = .ok (.ifCond .lt 7, 3) := by decide +kernel
theorem d_Ga_startTime_19 : decode b_Ga_startTime 19 = .ok (.iload_n 1, 1) := by decide +kernel
theorem d_Ga_startTime_20 : decode b_Ga_startTime 20 = .ok (.goto 12, 3) := by decide +kernel
theorem d_Ga_startTime_23 : decode b_Ga_startTime 23 = .ok (.aload_n 0, 1) := by decide +kernel
theorem d_Ga_startTime_24 : decode b_Ga_startTime 24 = .ok (.getfield 14, 3) := by decide +kernel
theorem d_Ga_startTime_27 : decode b_Ga_startTime 27 = .ok (.iconst 0, 1) := by decide +kernel
theorem d_Ga_startTime_28 : decode b_Ga_startTime 28 = .ok (.iconst 5, 1) := by decide +kernel
theorem d_Ga_startTime_29 : decode b_Ga_startTime 29 = .ok (.invokevirtual 42, 3) := by decide +kernel
theorem d_Ga_startTime_32 : decode b_Ga_startTime 32 = .ok (.invokevirtual 122, 3) := by decide +kernel
theorem d_Ga_startTime_35 : decode b_Ga_startTime 35 = .ok (.ireturn, 1) := by decide +kernel
abbrev b_Ga_judgeTimes : ByteArray := prog_6_method_7_code
def y_Ga_judgeTimes : MethodName := ⟨R_Ga, "judgeTimes", "()I"⟩
abbrev k_Ga_judgeTimes : Cond := .code y_Ga_judgeTimes b_Ga_judgeTimes 1 (some .int)
theorem ki_Ga_judgeTimes : k_Ga_judgeTimes ∈ lw_tg := in_t 1212 (by decide +kernel)
theorem ks_Ga_judgeTimes : Cond.instanceMethod y_Ga_judgeTimes ∈ lw_tg := in_t 1210 (by decide +kernel)
theorem kx_Ga_judgeTimes : Cond.selects R_Ga y_Ga_judgeTimes y_Ga_judgeTimes ∈ lw_tg := in_t 1211 (by decide +kernel)
theorem kl_Ce_Ga_judgeTimes : Cond.methodLink R_Ce 135 y_Ga_judgeTimes ∈ lw_tg := in_t 1209 (by decide +kernel)
theorem kl_Ga_Ga_judgeTimes : Cond.methodLink R_Ga 155 y_Ga_judgeTimes ∈ lw_tg := in_t 1565 (by decide +kernel)
theorem hd_Ga_judgeTimes : y_Ga_judgeTimes.cls = R_Ga ∧ y_Ga_judgeTimes.cls ≠ "java/lang/invoke/MethodHandle" ∧ y_Ga_judgeTimes.cls ≠ "java/lang/invoke/VarHandle" ∧ (parseMethodDescriptor y_Ga_judgeTimes.desc).map (fun d => d.parameters.length) = some 0 := by decide +kernel
theorem d_Ga_judgeTimes_0 : decode b_Ga_judgeTimes 0 = .ok (.aload_n 0, 1) := by decide +kernel
theorem d_Ga_judgeTimes_1 : decode b_Ga_judgeTimes 1 = .ok (.invokevirtual 151, 3) := by decide +kernel
theorem d_Ga_judgeTimes_4 : decode b_Ga_judgeTimes 4 = .ok (.aload_n 0, 1) := by decide +kernel
theorem d_Ga_judgeTimes_5 : decode b_Ga_judgeTimes 5 = .ok (.getfield 34, 3) := by decide +kernel
theorem d_Ga_judgeTimes_8 : decode b_Ga_judgeTimes 8 = .ok (.getfield 125, 3) := by decide +kernel
theorem d_Ga_judgeTimes_11 : decode b_Ga_judgeTimes 11 = .ok (.isub, 1) := by decide +kernel
theorem d_Ga_judgeTimes_12 : decode b_Ga_judgeTimes 12 = .ok (.sipush 300, 3) := by decide +kernel
theorem d_Ga_judgeTimes_15 : decode b_Ga_judgeTimes 15 = .ok (.if_icmp .le 6, 3) := by decide +kernel
theorem d_Ga_judgeTimes_18 : decode b_Ga_judgeTimes 18 = .ok (.bipush 33, 2) := by decide +kernel
theorem d_Ga_judgeTimes_20 : decode b_Ga_judgeTimes 20 = .ok (.ireturn, 1) := by decide +kernel
theorem d_Ga_judgeTimes_21 : decode b_Ga_judgeTimes 21 = .ok (.aload_n 0, 1) := by decide +kernel
theorem d_Ga_judgeTimes_22 : decode b_Ga_judgeTimes 22 = .ok (.getfield 14, 3) := by decide +kernel
theorem d_Ga_judgeTimes_25 : decode b_Ga_judgeTimes 25 = .ok (.aload_n 0, 1) := by decide +kernel
theorem d_Ga_judgeTimes_26 : decode b_Ga_judgeTimes 26 = .ok (.getfield 14, 3) := by decide +kernel
theorem d_Ga_judgeTimes_29 : decode b_Ga_judgeTimes 29 = .ok (.iconst 0, 1) := by decide +kernel
theorem d_Ga_judgeTimes_30 : decode b_Ga_judgeTimes 30 = .ok (.bipush 7, 2) := by decide +kernel
theorem d_Ga_judgeTimes_32 : decode b_Ga_judgeTimes 32 = .ok (.invokevirtual 42, 3) := by decide +kernel
theorem d_Ga_judgeTimes_35 : decode b_Ga_judgeTimes 35 = .ok (.invokevirtual 122, 3) := by decide +kernel
theorem d_Ga_judgeTimes_38 : decode b_Ga_judgeTimes 38 = .ok (.aload_n 0, 1) := by decide +kernel
theorem d_Ga_judgeTimes_39 : decode b_Ga_judgeTimes 39 = .ok (.getfield 34, 3) := by decide +kernel
theorem d_Ga_judgeTimes_42 : decode b_Ga_judgeTimes 42 = .ok (.getfield 125, 3) := by decide +kernel
theorem d_Ga_judgeTimes_45 : decode b_Ga_judgeTimes 45 = .ok (.if_icmp .gt 8, 3) := by decide +kernel
theorem d_Ga_judgeTimes_48 : decode b_Ga_judgeTimes 48 = .ok (.bipush 32, 2) := by decide +kernel
theorem d_Ga_judgeTimes_50 : decode b_Ga_judgeTimes 50 = .ok (.goto 4, 3) := by decide +kernel
theorem d_Ga_judgeTimes_53 : decode b_Ga_judgeTimes 53 = .ok (.iconst 0, 1) := by decide +kernel
theorem d_Ga_judgeTimes_54 : decode b_Ga_judgeTimes 54 = .ok (.ireturn, 1) := by decide +kernel
abbrev b_Ga_judgeVisit : ByteArray := prog_6_method_8_code
def y_Ga_judgeVisit : MethodName := ⟨R_Ga, "judgeVisit", "(LRealmHouse$Principal;Z)I"⟩
abbrev k_Ga_judgeVisit : Cond := .code y_Ga_judgeVisit b_Ga_judgeVisit 5 (some .int)
theorem ki_Ga_judgeVisit : k_Ga_judgeVisit ∈ lw_tg := in_t 1564 (by decide +kernel)
theorem ks_Ga_judgeVisit : Cond.instanceMethod y_Ga_judgeVisit ∈ lw_tg := in_t 1562 (by decide +kernel)
theorem kx_Ga_judgeVisit : Cond.selects R_Ga y_Ga_judgeVisit y_Ga_judgeVisit ∈ lw_tg := in_t 1563 (by decide +kernel)
theorem kl_H_Ga_judgeVisit : Cond.methodLink R_H 241 y_Ga_judgeVisit ∈ lw_tg := in_t 1561 (by decide +kernel)
theorem hd_Ga_judgeVisit : y_Ga_judgeVisit.cls = R_Ga ∧ y_Ga_judgeVisit.cls ≠ "java/lang/invoke/MethodHandle" ∧ y_Ga_judgeVisit.cls ≠ "java/lang/invoke/VarHandle" ∧ (parseMethodDescriptor y_Ga_judgeVisit.desc).map (fun d => d.parameters.length) = some 2 := by decide +kernel
theorem d_Ga_judgeVisit_0 : decode b_Ga_judgeVisit 0 = .ok (.aload_n 0, 1) := by decide +kernel
theorem d_Ga_judgeVisit_1 : decode b_Ga_judgeVisit 1 = .ok (.invokevirtual 155, 3) := by decide +kernel
theorem d_Ga_judgeVisit_4 : decode b_Ga_judgeVisit 4 = .ok (.istore_n 3, 1) := by decide +kernel
theorem d_Ga_judgeVisit_5 : decode b_Ga_judgeVisit 5 = .ok (.aload_n 0, 1) := by decide +kernel
theorem d_Ga_judgeVisit_6 : decode b_Ga_judgeVisit 6 = .ok (.getfield 20, 3) := by decide +kernel
theorem d_Ga_judgeVisit_9 : decode b_Ga_judgeVisit 9 = .ok (.iconst 0, 1) := by decide +kernel
theorem d_Ga_judgeVisit_10 : decode b_Ga_judgeVisit 10 = .ok (.bipush 6, 2) := by decide +kernel
theorem d_Ga_judgeVisit_12 : decode b_Ga_judgeVisit 12 = .ok (.invokevirtual 42, 3) := by decide +kernel
theorem d_Ga_judgeVisit_15 : decode b_Ga_judgeVisit 15 = .ok (.istore 4, 2) := by decide +kernel
theorem d_Ga_judgeVisit_17 : decode b_Ga_judgeVisit 17 = .ok (.iload_n 3, 1) := by decide +kernel
theorem d_Ga_judgeVisit_18 : decode b_Ga_judgeVisit 18 = .ok (.ifCond .eq 5, 3) := by decide +kernel
theorem d_Ga_judgeVisit_21 : decode b_Ga_judgeVisit 21 = .ok (.iload_n 3, 1) := by decide +kernel
theorem d_Ga_judgeVisit_22 : decode b_Ga_judgeVisit 22 = .ok (.ireturn, 1) := by decide +kernel
theorem d_Ga_judgeVisit_23 : decode b_Ga_judgeVisit 23 = .ok (.iload 4, 2) := by decide +kernel
theorem d_Ga_judgeVisit_25 : decode b_Ga_judgeVisit 25 = .ok (.ifCond .lt 19, 3) := by decide +kernel
theorem d_Ga_judgeVisit_28 : decode b_Ga_judgeVisit 28 = .ok (.aload_n 0, 1) := by decide +kernel
theorem d_Ga_judgeVisit_29 : decode b_Ga_judgeVisit 29 = .ok (.getfield 20, 3) := by decide +kernel
theorem d_Ga_judgeVisit_32 : decode b_Ga_judgeVisit 32 = .ok (.iload 4, 2) := by decide +kernel
theorem d_Ga_judgeVisit_34 : decode b_Ga_judgeVisit 34 = .ok (.invokestatic 114, 3) := by decide +kernel
theorem d_Ga_judgeVisit_37 : decode b_Ga_judgeVisit 37 = .ok (.arraylength, 1) := by decide +kernel
theorem d_Ga_judgeVisit_38 : decode b_Ga_judgeVisit 38 = .ok (.ifCond .ne 6, 3) := by decide +kernel
theorem d_Ga_judgeVisit_41 : decode b_Ga_judgeVisit 41 = .ok (.bipush 14, 2) := by decide +kernel
theorem d_Ga_judgeVisit_43 : decode b_Ga_judgeVisit 43 = .ok (.ireturn, 1) := by decide +kernel
theorem d_Ga_judgeVisit_44 : decode b_Ga_judgeVisit 44 = .ok (.aload_n 1, 1) := by decide +kernel
theorem d_Ga_judgeVisit_45 : decode b_Ga_judgeVisit 45 = .ok (.bipush 32, 2) := by decide +kernel
theorem d_Ga_judgeVisit_47 : decode b_Ga_judgeVisit 47 = .ok (.invokevirtual 158, 3) := by decide +kernel
theorem d_Ga_judgeVisit_50 : decode b_Ga_judgeVisit 50 = .ok (.ifCond .eq 6, 3) := by decide +kernel
theorem d_Ga_judgeVisit_53 : decode b_Ga_judgeVisit 53 = .ok (.bipush 18, 2) := by decide +kernel
theorem d_Ga_judgeVisit_55 : decode b_Ga_judgeVisit 55 = .ok (.ireturn, 1) := by decide +kernel
theorem d_Ga_judgeVisit_56 : decode b_Ga_judgeVisit 56 = .ok (.iload_n 2, 1) := by decide +kernel
theorem d_Ga_judgeVisit_57 : decode b_Ga_judgeVisit 57 = .ok (.ifCond .eq 7, 3) := by decide +kernel
theorem d_Ga_judgeVisit_60 : decode b_Ga_judgeVisit 60 = .ok (.iconst 0, 1) := by decide +kernel
theorem d_Ga_judgeVisit_61 : decode b_Ga_judgeVisit 61 = .ok (.goto 5, 3) := by decide +kernel
theorem d_Ga_judgeVisit_64 : decode b_Ga_judgeVisit 64 = .ok (.bipush 29, 2) := by decide +kernel
theorem d_Ga_judgeVisit_66 : decode b_Ga_judgeVisit 66 = .ok (.ireturn, 1) := by decide +kernel
