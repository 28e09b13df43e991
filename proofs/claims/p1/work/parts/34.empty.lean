/-! A principal's keys and rules; an empty tape before the gate and the centre. -/
def rulR (a2 a3 : Int32) : Int32 := if ((a2 = nI 0 ∧ nI 1 ≤ a3 ∧ a3 ≤ nI 1000000) ∨ (a2 = nI 1 ∧ nI 1 ≤ a3 ∧ a3 ≤ nI 10000000) ∨ (a2 = nI 2 ∧ nI 0 ≤ a3 ∧ a3 ≤ nI 63) ∨ (a2 = nI 3 ∧ nI 0 ≤ a3 ∧ a3 ≤ nI 2000000000)) then nI 1 else nI 0
abbrev b_By_field : ByteArray := prog_4_method_33_code
def y_By_field : MethodName := ⟨R_By, "field", "(II)I"⟩
abbrev k_By_field : Cond := .code y_By_field b_By_field 8 (some .int)
theorem ki_By_field : k_By_field ∈ lw_tg := in_t 928 (by decide +kernel)
theorem ks_By_field : Cond.instanceMethod y_By_field ∈ lw_tg := in_t 926 (by decide +kernel)
theorem kx_By_field : Cond.selects R_By y_By_field y_By_field ∈ lw_tg := in_t 927 (by decide +kernel)
theorem kl_Ce_By_field : Cond.methodLink R_Ce 48 y_By_field ∈ lw_tg := in_t 925 (by decide +kernel)
theorem kl_Ga_By_field : Cond.methodLink R_Ga 42 y_By_field ∈ lw_tg := in_t 963 (by decide +kernel)
theorem kl_By_By_field : Cond.methodLink R_By 140 y_By_field ∈ lw_tg := in_t 982 (by decide +kernel)
theorem kl_Va_By_field : Cond.methodLink R_Va 61 y_By_field ∈ lw_tg := in_t 1003 (by decide +kernel)
theorem kl_Ag_By_field : Cond.methodLink R_Ag 246 y_By_field ∈ lw_tg := in_t 1485 (by decide +kernel)
theorem kl_Ti_By_field : Cond.methodLink R_Ti 52 y_By_field ∈ lw_tg := in_t 1521 (by decide +kernel)
theorem kl_H_By_field : Cond.methodLink R_H 249 y_By_field ∈ lw_tg := in_t 1576 (by decide +kernel)
theorem kl_So_By_field : Cond.methodLink R_So 45 y_By_field ∈ lw_tg := in_t 1583 (by decide +kernel)
theorem hd_By_field : y_By_field.cls = R_By ∧ y_By_field.cls ≠ "java/lang/invoke/MethodHandle" ∧ y_By_field.cls ≠ "java/lang/invoke/VarHandle" ∧ (parseMethodDescriptor y_By_field.desc).map (fun d => d.parameters.length) = some 2 := by decide +kernel
theorem d_By_field_0 : decode b_By_field 0 = .ok (.iload_n 1, 1) := by decide +kernel
theorem d_By_field_1 : decode b_By_field 1 = .ok (.ifCond .lt 24, 3) := by decide +kernel
theorem d_By_field_4 : decode b_By_field 4 = .ok (.iload_n 1, 1) := by decide +kernel
theorem d_By_field_5 : decode b_By_field 5 = .ok (.aload_n 0, 1) := by decide +kernel
theorem d_By_field_6 : decode b_By_field 6 = .ok (.getfield 21, 3) := by decide +kernel
theorem d_By_field_9 : decode b_By_field 9 = .ok (.if_icmp .ge 16, 3) := by decide +kernel
theorem d_By_field_12 : decode b_By_field 12 = .ok (.aload_n 0, 1) := by decide +kernel
theorem d_By_field_13 : decode b_By_field 13 = .ok (.getfield 15, 3) := by decide +kernel
theorem d_By_field_16 : decode b_By_field 16 = .ok (.iload_n 1, 1) := by decide +kernel
theorem d_By_field_17 : decode b_By_field 17 = .ok (.baload, 1) := by decide +kernel
theorem d_By_field_18 : decode b_By_field 18 = .ok (.sipush 224, 3) := by decide +kernel
theorem d_By_field_21 : decode b_By_field 21 = .ok (.iand, 1) := by decide +kernel
theorem d_By_field_22 : decode b_By_field 22 = .ok (.goto 4, 3) := by decide +kernel
theorem d_By_field_25 : decode b_By_field 25 = .ok (.iconst 0, 1) := by decide +kernel
theorem d_By_field_26 : decode b_By_field 26 = .ok (.istore_n 3, 1) := by decide +kernel
theorem d_By_field_27 : decode b_By_field 27 = .ok (.iload_n 3, 1) := by decide +kernel
theorem d_By_field_28 : decode b_By_field 28 = .ok (.bipush 96, 2) := by decide +kernel
theorem d_By_field_30 : decode b_By_field 30 = .ok (.if_icmp .ne 11, 3) := by decide +kernel
theorem d_By_field_33 : decode b_By_field 33 = .ok (.aload_n 0, 1) := by decide +kernel
theorem d_By_field_34 : decode b_By_field 34 = .ok (.iload_n 1, 1) := by decide +kernel
theorem d_By_field_35 : decode b_By_field 35 = .ok (.invokevirtual 126, 3) := by decide +kernel
theorem d_By_field_38 : decode b_By_field 38 = .ok (.goto 4, 3) := by decide +kernel
theorem d_By_field_41 : decode b_By_field 41 = .ok (.iload_n 1, 1) := by decide +kernel
theorem d_By_field_42 : decode b_By_field 42 = .ok (.istore 4, 2) := by decide +kernel
theorem d_By_field_44 : decode b_By_field 44 = .ok (.aload_n 0, 1) := by decide +kernel
theorem d_By_field_45 : decode b_By_field 45 = .ok (.iload 4, 2) := by decide +kernel
theorem d_By_field_47 : decode b_By_field 47 = .ok (.aload_n 0, 1) := by decide +kernel
theorem d_By_field_48 : decode b_By_field 48 = .ok (.getfield 21, 3) := by decide +kernel
theorem d_By_field_51 : decode b_By_field 51 = .ok (.invokevirtual 98, 3) := by decide +kernel
theorem d_By_field_54 : decode b_By_field 54 = .ok (.istore 5, 2) := by decide +kernel
theorem d_By_field_56 : decode b_By_field 56 = .ok (.aload_n 0, 1) := by decide +kernel
theorem d_By_field_57 : decode b_By_field 57 = .ok (.iload 4, 2) := by decide +kernel
theorem d_By_field_59 : decode b_By_field 59 = .ok (.invokevirtual 126, 3) := by decide +kernel
theorem d_By_field_62 : decode b_By_field 62 = .ok (.istore 6, 2) := by decide +kernel
theorem d_By_field_64 : decode b_By_field 64 = .ok (.iconst 0, 1) := by decide +kernel
theorem d_By_field_65 : decode b_By_field 65 = .ok (.istore 7, 2) := by decide +kernel
theorem d_By_field_67 : decode b_By_field 67 = .ok (.iload 7, 2) := by decide +kernel
theorem d_By_field_69 : decode b_By_field 69 = .ok (.bipush 13, 2) := by decide +kernel
theorem d_By_field_71 : decode b_By_field 71 = .ok (.if_icmp .ge 57, 3) := by decide +kernel
theorem d_By_field_74 : decode b_By_field 74 = .ok (.iload 6, 2) := by decide +kernel
theorem d_By_field_76 : decode b_By_field 76 = .ok (.ifCond .lt 52, 3) := by decide +kernel
theorem d_By_field_79 : decode b_By_field 79 = .ok (.iload 6, 2) := by decide +kernel
theorem d_By_field_81 : decode b_By_field 81 = .ok (.iload 5, 2) := by decide +kernel
theorem d_By_field_83 : decode b_By_field 83 = .ok (.if_icmp .ge 45, 3) := by decide +kernel
theorem d_By_field_86 : decode b_By_field 86 = .ok (.aload_n 0, 1) := by decide +kernel
theorem d_By_field_87 : decode b_By_field 87 = .ok (.getfield 15, 3) := by decide +kernel
theorem d_By_field_90 : decode b_By_field 90 = .ok (.iload 6, 2) := by decide +kernel
theorem d_By_field_92 : decode b_By_field 92 = .ok (.baload, 1) := by decide +kernel
theorem d_By_field_93 : decode b_By_field 93 = .ok (.sipush 255, 3) := by decide +kernel
theorem d_By_field_96 : decode b_By_field 96 = .ok (.iand, 1) := by decide +kernel
theorem d_By_field_97 : decode b_By_field 97 = .ok (.sipush 160, 3) := by decide +kernel
theorem d_By_field_100 : decode b_By_field 100 = .ok (.iload_n 2, 1) := by decide +kernel
theorem d_By_field_101 : decode b_By_field 101 = .ok (.iadd, 1) := by decide +kernel
theorem d_By_field_102 : decode b_By_field 102 = .ok (.if_icmp .ne 10, 3) := by decide +kernel
theorem d_By_field_105 : decode b_By_field 105 = .ok (.aload_n 0, 1) := by decide +kernel
theorem d_By_field_106 : decode b_By_field 106 = .ok (.iload 6, 2) := by decide +kernel
theorem d_By_field_108 : decode b_By_field 108 = .ok (.invokevirtual 126, 3) := by decide +kernel
theorem d_By_field_111 : decode b_By_field 111 = .ok (.ireturn, 1) := by decide +kernel
theorem d_By_field_112 : decode b_By_field 112 = .ok (.aload_n 0, 1) := by decide +kernel
theorem d_By_field_113 : decode b_By_field 113 = .ok (.iload 6, 2) := by decide +kernel
theorem d_By_field_115 : decode b_By_field 115 = .ok (.iload 5, 2) := by decide +kernel
theorem d_By_field_117 : decode b_By_field 117 = .ok (.invokevirtual 98, 3) := by decide +kernel
theorem d_By_field_120 : decode b_By_field 120 = .ok (.istore 6, 2) := by decide +kernel
theorem d_By_field_122 : decode b_By_field 122 = .ok (.iinc 7 1, 3) := by decide +kernel
theorem d_By_field_125 : decode b_By_field 125 = .ok (.goto (-58), 3) := by decide +kernel
theorem d_By_field_128 : decode b_By_field 128 = .ok (.iconst (-1), 1) := by decide +kernel
theorem d_By_field_129 : decode b_By_field 129 = .ok (.ireturn, 1) := by decide +kernel
abbrev b_Ga_judge : ByteArray := prog_6_method_2_code
def y_Ga_judge : MethodName := ⟨R_Ga, "judge", "(LRealmHouse$Bytes;IILRealmHouse$Principal;LRealmHouse$Seen;I)I"⟩
abbrev k_Ga_judge : Cond := .code y_Ga_judge b_Ga_judge 9 (some .int)
theorem ki_Ga_judge : k_Ga_judge ∈ lw_tg := in_t 961 (by decide +kernel)
theorem ks_Ga_judge : Cond.instanceMethod y_Ga_judge ∈ lw_tg := in_t 959 (by decide +kernel)
theorem kx_Ga_judge : Cond.selects R_Ga y_Ga_judge y_Ga_judge ∈ lw_tg := in_t 960 (by decide +kernel)
theorem kl_H_Ga_judge : Cond.methodLink R_H 167 y_Ga_judge ∈ lw_tg := in_t 958 (by decide +kernel)
theorem hd_Ga_judge : y_Ga_judge.cls = R_Ga ∧ y_Ga_judge.cls ≠ "java/lang/invoke/MethodHandle" ∧ y_Ga_judge.cls ≠ "java/lang/invoke/VarHandle" ∧ (parseMethodDescriptor y_Ga_judge.desc).map (fun d => d.parameters.length) = some 6 := by decide +kernel
theorem d_Ga_judge_0 : decode b_Ga_judge 0 = .ok (.aload_n 1, 1) := by decide +kernel
theorem d_Ga_judge_1 : decode b_Ga_judge 1 = .ok (.sipush 366, 3) := by decide +kernel
theorem d_Ga_judge_4 : decode b_Ga_judge 4 = .ok (.iload_n 2, 1) := by decide +kernel
theorem d_Ga_judge_5 : decode b_Ga_judge 5 = .ok (.iload_n 3, 1) := by decide +kernel
theorem d_Ga_judge_6 : decode b_Ga_judge 6 = .ok (.invokevirtual 38, 3) := by decide +kernel
theorem d_Ga_judge_9 : decode b_Ga_judge 9 = .ok (.ifCond .ne 6, 3) := by decide +kernel
theorem d_Ga_judge_12 : decode b_Ga_judge 12 = .ok (.bipush 60, 2) := by decide +kernel
theorem d_Ga_judge_14 : decode b_Ga_judge 14 = .ok (.ireturn, 1) := by decide +kernel
theorem d_Ga_judge_15 : decode b_Ga_judge 15 = .ok (.aload_n 1, 1) := by decide +kernel
theorem d_Ga_judge_16 : decode b_Ga_judge 16 = .ok (.aload_n 1, 1) := by decide +kernel
theorem d_Ga_judge_17 : decode b_Ga_judge 17 = .ok (.iload_n 2, 1) := by decide +kernel
theorem d_Ga_judge_18 : decode b_Ga_judge 18 = .ok (.iconst 0, 1) := by decide +kernel
theorem d_Ga_judge_19 : decode b_Ga_judge 19 = .ok (.invokevirtual 42, 3) := by decide +kernel
theorem d_Ga_judge_22 : decode b_Ga_judge 22 = .ok (.invokevirtual 46, 3) := by decide +kernel
theorem d_Ga_judge_25 : decode b_Ga_judge 25 = .ok (.ldc2_w 50, 3) := by decide +kernel
theorem cl_Ga_50 : Cond.constantLong R_Ga 50 (5) ∈ lw_tg := in_t 965 (by decide +kernel)
theorem d_Ga_judge_28 : decode b_Ga_judge 28 = .ok (.lcmp, 1) := by decide +kernel
theorem d_Ga_judge_29 : decode b_Ga_judge 29 = .ok (.ifCond .eq 5, 3) := by decide +kernel
theorem d_Ga_judge_32 : decode b_Ga_judge 32 = .ok (.iconst 3, 1) := by decide +kernel
theorem d_Ga_judge_33 : decode b_Ga_judge 33 = .ok (.ireturn, 1) := by decide +kernel
theorem d_Ga_judge_34 : decode b_Ga_judge 34 = .ok (.aload_n 1, 1) := by decide +kernel
theorem d_Ga_judge_35 : decode b_Ga_judge 35 = .ok (.aload_n 1, 1) := by decide +kernel
theorem d_Ga_judge_36 : decode b_Ga_judge 36 = .ok (.iload_n 2, 1) := by decide +kernel
theorem d_Ga_judge_37 : decode b_Ga_judge 37 = .ok (.iconst 1, 1) := by decide +kernel
theorem d_Ga_judge_38 : decode b_Ga_judge 38 = .ok (.invokevirtual 42, 3) := by decide +kernel
theorem d_Ga_judge_41 : decode b_Ga_judge 41 = .ok (.invokevirtual 46, 3) := by decide +kernel
theorem d_Ga_judge_44 : decode b_Ga_judge 44 = .ok (.ldc2_w 52, 3) := by decide +kernel
theorem cl_Ga_52 : Cond.constantLong R_Ga 52 (14) ∈ lw_tg := in_t 966 (by decide +kernel)
theorem d_Ga_judge_47 : decode b_Ga_judge 47 = .ok (.lcmp, 1) := by decide +kernel
theorem d_Ga_judge_48 : decode b_Ga_judge 48 = .ok (.ifCond .eq 6, 3) := by decide +kernel
theorem d_Ga_judge_51 : decode b_Ga_judge 51 = .ok (.bipush 40, 2) := by decide +kernel
theorem d_Ga_judge_53 : decode b_Ga_judge 53 = .ok (.ireturn, 1) := by decide +kernel
theorem d_Ga_judge_54 : decode b_Ga_judge 54 = .ok (.aload_n 1, 1) := by decide +kernel
theorem d_Ga_judge_55 : decode b_Ga_judge 55 = .ok (.iload_n 2, 1) := by decide +kernel
theorem d_Ga_judge_56 : decode b_Ga_judge 56 = .ok (.iconst 2, 1) := by decide +kernel
theorem d_Ga_judge_57 : decode b_Ga_judge 57 = .ok (.invokevirtual 42, 3) := by decide +kernel
theorem d_Ga_judge_60 : decode b_Ga_judge 60 = .ok (.istore 7, 2) := by decide +kernel
theorem d_Ga_judge_62 : decode b_Ga_judge 62 = .ok (.iload 6, 2) := by decide +kernel
theorem d_Ga_judge_64 : decode b_Ga_judge 64 = .ok (.bipush 11, 2) := by decide +kernel
theorem d_Ga_judge_66 : decode b_Ga_judge 66 = .ok (.if_icmp .ne 27, 3) := by decide +kernel
theorem d_Ga_judge_69 : decode b_Ga_judge 69 = .ok (.aload_n 1, 1) := by decide +kernel
theorem d_Ga_judge_70 : decode b_Ga_judge 70 = .ok (.iload 7, 2) := by decide +kernel
theorem d_Ga_judge_72 : decode b_Ga_judge 72 = .ok (.invokevirtual 54, 3) := by decide +kernel
theorem d_Ga_judge_75 : decode b_Ga_judge 75 = .ok (.ldc 58, 2) := by decide +kernel
theorem cn_Ga_58 : Cond.constant R_Ga 58 (-536870913) ∈ lw_tg := in_t 968 (by decide +kernel)
theorem d_Ga_judge_77 : decode b_Ga_judge 77 = .ok (.iand, 1) := by decide +kernel
theorem d_Ga_judge_78 : decode b_Ga_judge 78 = .ok (.ifCond .ne 12, 3) := by decide +kernel
theorem d_Ga_judge_81 : decode b_Ga_judge 81 = .ok (.aload_n 1, 1) := by decide +kernel
theorem d_Ga_judge_82 : decode b_Ga_judge 82 = .ok (.iload 7, 2) := by decide +kernel
theorem d_Ga_judge_84 : decode b_Ga_judge 84 = .ok (.invokevirtual 59, 3) := by decide +kernel
theorem d_Ga_judge_87 : decode b_Ga_judge 87 = .ok (.ifCond .eq 6, 3) := by decide +kernel
theorem d_Ga_judge_90 : decode b_Ga_judge 90 = .ok (.bipush 13, 2) := by decide +kernel
theorem d_Ga_judge_92 : decode b_Ga_judge 92 = .ok (.ireturn, 1) := by decide +kernel
theorem d_Ga_judge_93 : decode b_Ga_judge 93 = .ok (.aload_n 0, 1) := by decide +kernel
theorem d_Ga_judge_94 : decode b_Ga_judge 94 = .ok (.aload_n 1, 1) := by decide +kernel
theorem d_Ga_judge_95 : decode b_Ga_judge 95 = .ok (.aload_n 1, 1) := by decide +kernel
theorem d_Ga_judge_96 : decode b_Ga_judge 96 = .ok (.iload_n 2, 1) := by decide +kernel
theorem d_Ga_judge_97 : decode b_Ga_judge 97 = .ok (.iconst 3, 1) := by decide +kernel
theorem d_Ga_judge_98 : decode b_Ga_judge 98 = .ok (.invokevirtual 42, 3) := by decide +kernel
theorem d_Ga_judge_101 : decode b_Ga_judge 101 = .ok (.aload 4, 2) := by decide +kernel
theorem d_Ga_judge_103 : decode b_Ga_judge 103 = .ok (.invokevirtual 63, 3) := by decide +kernel
theorem d_Ga_judge_106 : decode b_Ga_judge 106 = .ok (.istore 8, 2) := by decide +kernel
theorem d_Ga_judge_108 : decode b_Ga_judge 108 = .ok (.iload 8, 2) := by decide +kernel
theorem d_Ga_judge_110 : decode b_Ga_judge 110 = .ok (.ifCond .ne 18, 3) := by decide +kernel
theorem d_Ga_judge_113 : decode b_Ga_judge 113 = .ok (.aload_n 0, 1) := by decide +kernel
theorem d_Ga_judge_114 : decode b_Ga_judge 114 = .ok (.aload_n 1, 1) := by decide +kernel
theorem d_Ga_judge_115 : decode b_Ga_judge 115 = .ok (.aload_n 1, 1) := by decide +kernel
theorem d_Ga_judge_116 : decode b_Ga_judge 116 = .ok (.iload_n 2, 1) := by decide +kernel
theorem d_Ga_judge_117 : decode b_Ga_judge 117 = .ok (.iconst 4, 1) := by decide +kernel
theorem d_Ga_judge_118 : decode b_Ga_judge 118 = .ok (.invokevirtual 42, 3) := by decide +kernel
theorem d_Ga_judge_121 : decode b_Ga_judge 121 = .ok (.iload 6, 2) := by decide +kernel
theorem d_Ga_judge_123 : decode b_Ga_judge 123 = .ok (.invokevirtual 67, 3) := by decide +kernel
theorem d_Ga_judge_126 : decode b_Ga_judge 126 = .ok (.istore 8, 2) := by decide +kernel
theorem d_Ga_judge_128 : decode b_Ga_judge 128 = .ok (.iload 8, 2) := by decide +kernel
theorem d_Ga_judge_130 : decode b_Ga_judge 130 = .ok (.ifCond .ne 12, 3) := by decide +kernel
theorem d_Ga_judge_133 : decode b_Ga_judge 133 = .ok (.aload_n 0, 1) := by decide +kernel
theorem d_Ga_judge_134 : decode b_Ga_judge 134 = .ok (.aload 5, 2) := by decide +kernel
theorem d_Ga_judge_136 : decode b_Ga_judge 136 = .ok (.invokevirtual 71, 3) := by decide +kernel
theorem d_Ga_judge_139 : decode b_Ga_judge 139 = .ok (.goto 5, 3) := by decide +kernel
theorem d_Ga_judge_142 : decode b_Ga_judge 142 = .ok (.iload 8, 2) := by decide +kernel
theorem d_Ga_judge_144 : decode b_Ga_judge 144 = .ok (.ireturn, 1) := by decide +kernel
abbrev b_Ce_init : ByteArray := prog_5_method_1_code
def y_Ce_init : MethodName := ⟨R_Ce, "<init>", "(LRealmHouse$Vault;LRealmHouse$Gate;[LRealmHouse$Principal;LRealmHouse$Bytes;LRealmHouse$Bytes;)V"⟩
abbrev k_Ce_init : Cond := .code y_Ce_init b_Ce_init 6 none
theorem ki_Ce_init : k_Ce_init ∈ lw_tg := in_t 656 (by decide +kernel)
theorem ks_Ce_init : Cond.instanceMethod y_Ce_init ∈ lw_tg := in_t 655 (by decide +kernel)
theorem kl_H_Ce_init : Cond.methodLink R_H 74 y_Ce_init ∈ lw_tg := in_t 654 (by decide +kernel)
theorem hd_Ce_init : y_Ce_init.cls = R_Ce ∧ y_Ce_init.cls ≠ "java/lang/invoke/MethodHandle" ∧ y_Ce_init.cls ≠ "java/lang/invoke/VarHandle" ∧ (parseMethodDescriptor y_Ce_init.desc).map (fun d => d.parameters.length) = some 5 := by decide +kernel
theorem d_Ce_init_0 : decode b_Ce_init 0 = .ok (.aload_n 0, 1) := by decide +kernel
theorem d_Ce_init_1 : decode b_Ce_init 1 = .ok (.invokespecial 3, 3) := by decide +kernel
theorem d_Ce_init_4 : decode b_Ce_init 4 = .ok (.aload_n 0, 1) := by decide +kernel
theorem d_Ce_init_5 : decode b_Ce_init 5 = .ok (.new 9, 3) := by decide +kernel
theorem d_Ce_init_8 : decode b_Ce_init 8 = .ok (.dup, 1) := by decide +kernel
theorem d_Ce_init_9 : decode b_Ce_init 9 = .ok (.invokespecial 11, 3) := by decide +kernel
theorem d_Ce_init_12 : decode b_Ce_init 12 = .ok (.putfield 12, 3) := by decide +kernel
theorem lk_Ce_12 : Cond.fieldLink R_Ce 12 R_Ce (F_Ce 5).2.1 (F_Ce 5).2.2.1 ∈ lw_tg := in_t 665 (by decide +kernel)
theorem d_Ce_init_15 : decode b_Ce_init 15 = .ok (.aload_n 0, 1) := by decide +kernel
theorem d_Ce_init_16 : decode b_Ce_init 16 = .ok (.aload_n 1, 1) := by decide +kernel
theorem d_Ce_init_17 : decode b_Ce_init 17 = .ok (.putfield 18, 3) := by decide +kernel
theorem lk_Ce_18 : Cond.fieldLink R_Ce 18 R_Ce (F_Ce 0).2.1 (F_Ce 0).2.2.1 ∈ lw_tg := in_t 660 (by decide +kernel)
theorem d_Ce_init_20 : decode b_Ce_init 20 = .ok (.aload_n 0, 1) := by decide +kernel
theorem d_Ce_init_21 : decode b_Ce_init 21 = .ok (.aload_n 2, 1) := by decide +kernel
theorem d_Ce_init_22 : decode b_Ce_init 22 = .ok (.putfield 22, 3) := by decide +kernel
theorem lk_Ce_22 : Cond.fieldLink R_Ce 22 R_Ce (F_Ce 1).2.1 (F_Ce 1).2.2.1 ∈ lw_tg := in_t 661 (by decide +kernel)
theorem d_Ce_init_25 : decode b_Ce_init 25 = .ok (.aload_n 0, 1) := by decide +kernel
theorem d_Ce_init_26 : decode b_Ce_init 26 = .ok (.aload_n 3, 1) := by decide +kernel
theorem d_Ce_init_27 : decode b_Ce_init 27 = .ok (.putfield 26, 3) := by decide +kernel
theorem lk_Ce_26 : Cond.fieldLink R_Ce 26 R_Ce (F_Ce 2).2.1 (F_Ce 2).2.2.1 ∈ lw_tg := in_t 662 (by decide +kernel)
theorem d_Ce_init_30 : decode b_Ce_init 30 = .ok (.aload_n 0, 1) := by decide +kernel
theorem d_Ce_init_31 : decode b_Ce_init 31 = .ok (.aload 4, 2) := by decide +kernel
theorem d_Ce_init_33 : decode b_Ce_init 33 = .ok (.putfield 30, 3) := by decide +kernel
theorem lk_Ce_30 : Cond.fieldLink R_Ce 30 R_Ce (F_Ce 3).2.1 (F_Ce 3).2.2.1 ∈ lw_tg := in_t 663 (by decide +kernel)
theorem d_Ce_init_36 : decode b_Ce_init 36 = .ok (.aload_n 0, 1) := by decide +kernel
theorem d_Ce_init_37 : decode b_Ce_init 37 = .ok (.aload 5, 2) := by decide +kernel
theorem d_Ce_init_39 : decode b_Ce_init 39 = .ok (.putfield 34, 3) := by decide +kernel
theorem lk_Ce_34 : Cond.fieldLink R_Ce 34 R_Ce (F_Ce 4).2.1 (F_Ce 4).2.2.1 ∈ lw_tg := in_t 664 (by decide +kernel)
theorem d_Ce_init_42 : decode b_Ce_init 42 = .ok (.aload_n 0, 1) := by decide +kernel
theorem d_Ce_init_43 : decode b_Ce_init 43 = .ok (.aload_n 3, 1) := by decide +kernel
theorem d_Ce_init_44 : decode b_Ce_init 44 = .ok (.iconst 0, 1) := by decide +kernel
theorem d_Ce_init_45 : decode b_Ce_init 45 = .ok (.aaload, 1) := by decide +kernel
theorem d_Ce_init_46 : decode b_Ce_init 46 = .ok (.putfield 37, 3) := by decide +kernel
theorem lk_Ce_37 : Cond.fieldLink R_Ce 37 R_Ce (F_Ce 10).2.1 (F_Ce 10).2.2.1 ∈ lw_tg := in_t 672 (by decide +kernel)
theorem d_Ce_init_49 : decode b_Ce_init 49 = .ok (.aload_n 0, 1) := by decide +kernel
theorem d_Ce_init_50 : decode b_Ce_init 50 = .ok (.aload_n 3, 1) := by decide +kernel
theorem d_Ce_init_51 : decode b_Ce_init 51 = .ok (.iconst 0, 1) := by decide +kernel
theorem d_Ce_init_52 : decode b_Ce_init 52 = .ok (.aaload, 1) := by decide +kernel
theorem d_Ce_init_53 : decode b_Ce_init 53 = .ok (.putfield 41, 3) := by decide +kernel
theorem lk_Ce_41 : Cond.fieldLink R_Ce 41 R_Ce (F_Ce 11).2.1 (F_Ce 11).2.2.1 ∈ lw_tg := in_t 673 (by decide +kernel)
theorem d_Ce_init_56 : decode b_Ce_init 56 = .ok (.return_, 1) := by decide +kernel
abbrev b_Ce_judge : ByteArray := prog_5_method_4_code
def y_Ce_judge : MethodName := ⟨R_Ce, "judge", "()I"⟩
abbrev k_Ce_judge : Cond := .code y_Ce_judge b_Ce_judge 2 (some .int)
theorem ki_Ce_judge : k_Ce_judge ∈ lw_tg := in_t 841 (by decide +kernel)
theorem ks_Ce_judge : Cond.instanceMethod y_Ce_judge ∈ lw_tg := in_t 839 (by decide +kernel)
theorem kx_Ce_judge : Cond.selects R_Ce y_Ce_judge y_Ce_judge ∈ lw_tg := in_t 840 (by decide +kernel)
theorem kl_H_Ce_judge : Cond.methodLink R_H 148 y_Ce_judge ∈ lw_tg := in_t 838 (by decide +kernel)
theorem hd_Ce_judge : y_Ce_judge.cls = R_Ce ∧ y_Ce_judge.cls ≠ "java/lang/invoke/MethodHandle" ∧ y_Ce_judge.cls ≠ "java/lang/invoke/VarHandle" ∧ (parseMethodDescriptor y_Ce_judge.desc).map (fun d => d.parameters.length) = some 0 := by decide +kernel
theorem d_Ce_judge_0 : decode b_Ce_judge 0 = .ok (.aload_n 0, 1) := by decide +kernel
theorem d_Ce_judge_1 : decode b_Ce_judge 1 = .ok (.getfield 30, 3) := by decide +kernel
theorem d_Ce_judge_4 : decode b_Ce_judge 4 = .ok (.iconst 0, 1) := by decide +kernel
theorem d_Ce_judge_5 : decode b_Ce_judge 5 = .ok (.invokevirtual 61, 3) := by decide +kernel
theorem d_Ce_judge_8 : decode b_Ce_judge 8 = .ok (.istore_n 1, 1) := by decide +kernel
theorem d_Ce_judge_9 : decode b_Ce_judge 9 = .ok (.aload_n 0, 1) := by decide +kernel
theorem d_Ce_judge_10 : decode b_Ce_judge 10 = .ok (.iload_n 1, 1) := by decide +kernel
theorem d_Ce_judge_11 : decode b_Ce_judge 11 = .ok (.bipush 106, 2) := by decide +kernel
theorem d_Ce_judge_13 : decode b_Ce_judge 13 = .ok (.if_icmp .ne 7, 3) := by decide +kernel
theorem d_Ce_judge_16 : decode b_Ce_judge 16 = .ok (.iconst 1, 1) := by decide +kernel
theorem d_Ce_judge_17 : decode b_Ce_judge 17 = .ok (.goto 4, 3) := by decide +kernel
theorem d_Ce_judge_20 : decode b_Ce_judge 20 = .ok (.iconst 0, 1) := by decide +kernel
theorem d_Ce_judge_21 : decode b_Ce_judge 21 = .ok (.putfield 65, 3) := by decide +kernel
theorem lk_Ce_65 : Cond.fieldLink R_Ce 65 R_Ce (F_Ce 6).2.1 (F_Ce 6).2.2.1 ∈ lw_tg := in_t 667 (by decide +kernel)
theorem d_Ce_judge_24 : decode b_Ce_judge 24 = .ok (.aload_n 0, 1) := by decide +kernel
theorem d_Ce_judge_25 : decode b_Ce_judge 25 = .ok (.aload_n 0, 1) := by decide +kernel
theorem d_Ce_judge_26 : decode b_Ce_judge 26 = .ok (.getfield 65, 3) := by decide +kernel
theorem d_Ce_judge_29 : decode b_Ce_judge 29 = .ok (.ifCond .ne 9, 3) := by decide +kernel
theorem d_Ce_judge_32 : decode b_Ce_judge 32 = .ok (.iload_n 1, 1) := by decide +kernel
theorem d_Ce_judge_33 : decode b_Ce_judge 33 = .ok (.bipush 108, 2) := by decide +kernel
theorem d_Ce_judge_35 : decode b_Ce_judge 35 = .ok (.if_icmp .ne 30, 3) := by decide +kernel
theorem d_Ce_judge_38 : decode b_Ce_judge 38 = .ok (.aload_n 0, 1) := by decide +kernel
theorem d_Ce_judge_39 : decode b_Ce_judge 39 = .ok (.getfield 30, 3) := by decide +kernel
theorem d_Ce_judge_42 : decode b_Ce_judge 42 = .ok (.sipush 256, 3) := by decide +kernel
theorem d_Ce_judge_45 : decode b_Ce_judge 45 = .ok (.iload_n 1, 1) := by decide +kernel
theorem d_Ce_judge_46 : decode b_Ce_judge 46 = .ok (.iadd, 1) := by decide +kernel
theorem d_Ce_judge_47 : decode b_Ce_judge 47 = .ok (.iconst 0, 1) := by decide +kernel
theorem d_Ce_judge_48 : decode b_Ce_judge 48 = .ok (.aload_n 0, 1) := by decide +kernel
theorem d_Ce_judge_49 : decode b_Ce_judge 49 = .ok (.getfield 30, 3) := by decide +kernel
theorem d_Ce_judge_52 : decode b_Ce_judge 52 = .ok (.getfield 69, 3) := by decide +kernel
theorem lk_Ce_69 : Cond.fieldLink R_Ce 69 R_By (F_By 1).2.1 (F_By 1).2.2.1 ∈ lw_tg := in_t 55 (by decide +kernel)
theorem d_Ce_judge_55 : decode b_Ce_judge 55 = .ok (.invokevirtual 72, 3) := by decide +kernel
theorem d_Ce_judge_58 : decode b_Ce_judge 58 = .ok (.ifCond .eq 7, 3) := by decide +kernel
theorem d_Ce_judge_61 : decode b_Ce_judge 61 = .ok (.iconst 1, 1) := by decide +kernel
theorem d_Ce_judge_62 : decode b_Ce_judge 62 = .ok (.goto 4, 3) := by decide +kernel
theorem d_Ce_judge_65 : decode b_Ce_judge 65 = .ok (.iconst 0, 1) := by decide +kernel
theorem d_Ce_judge_66 : decode b_Ce_judge 66 = .ok (.putfield 76, 3) := by decide +kernel
theorem lk_Ce_76 : Cond.fieldLink R_Ce 76 R_Ce (F_Ce 7).2.1 (F_Ce 7).2.2.1 ∈ lw_tg := in_t 669 (by decide +kernel)
theorem d_Ce_judge_69 : decode b_Ce_judge 69 = .ok (.aload_n 0, 1) := by decide +kernel
theorem d_Ce_judge_70 : decode b_Ce_judge 70 = .ok (.getfield 76, 3) := by decide +kernel
theorem d_Ce_judge_73 : decode b_Ce_judge 73 = .ok (.ifCond .ne 6, 3) := by decide +kernel
theorem d_Ce_judge_76 : decode b_Ce_judge 76 = .ok (.bipush 60, 2) := by decide +kernel
theorem d_Ce_judge_78 : decode b_Ce_judge 78 = .ok (.ireturn, 1) := by decide +kernel
theorem d_Ce_judge_79 : decode b_Ce_judge 79 = .ok (.aload_n 0, 1) := by decide +kernel
theorem d_Ce_judge_80 : decode b_Ce_judge 80 = .ok (.getfield 30, 3) := by decide +kernel
theorem d_Ce_judge_83 : decode b_Ce_judge 83 = .ok (.aload_n 0, 1) := by decide +kernel
theorem d_Ce_judge_84 : decode b_Ce_judge 84 = .ok (.getfield 30, 3) := by decide +kernel
theorem d_Ce_judge_87 : decode b_Ce_judge 87 = .ok (.iconst 0, 1) := by decide +kernel
theorem d_Ce_judge_88 : decode b_Ce_judge 88 = .ok (.iconst 1, 1) := by decide +kernel
theorem d_Ce_judge_89 : decode b_Ce_judge 89 = .ok (.invokevirtual 48, 3) := by decide +kernel
theorem d_Ce_judge_92 : decode b_Ce_judge 92 = .ok (.invokevirtual 57, 3) := by decide +kernel
theorem d_Ce_judge_95 : decode b_Ce_judge 95 = .ok (.ldc2_w 79, 3) := by decide +kernel
theorem cl_Ce_79 : Cond.constantLong R_Ce 79 (5) ∈ lw_tg := in_t 933 (by decide +kernel)
theorem d_Ce_judge_98 : decode b_Ce_judge 98 = .ok (.lcmp, 1) := by decide +kernel
theorem d_Ce_judge_99 : decode b_Ce_judge 99 = .ok (.ifCond .eq 5, 3) := by decide +kernel
theorem d_Ce_judge_102 : decode b_Ce_judge 102 = .ok (.iconst 3, 1) := by decide +kernel
theorem d_Ce_judge_103 : decode b_Ce_judge 103 = .ok (.ireturn, 1) := by decide +kernel
theorem d_Ce_judge_104 : decode b_Ce_judge 104 = .ok (.aload_n 0, 1) := by decide +kernel
theorem d_Ce_judge_105 : decode b_Ce_judge 105 = .ok (.getfield 30, 3) := by decide +kernel
theorem d_Ce_judge_108 : decode b_Ce_judge 108 = .ok (.aload_n 0, 1) := by decide +kernel
theorem d_Ce_judge_109 : decode b_Ce_judge 109 = .ok (.getfield 30, 3) := by decide +kernel
theorem d_Ce_judge_112 : decode b_Ce_judge 112 = .ok (.iconst 0, 1) := by decide +kernel
theorem d_Ce_judge_113 : decode b_Ce_judge 113 = .ok (.iconst 2, 1) := by decide +kernel
theorem d_Ce_judge_114 : decode b_Ce_judge 114 = .ok (.invokevirtual 48, 3) := by decide +kernel
theorem d_Ce_judge_117 : decode b_Ce_judge 117 = .ok (.invokevirtual 57, 3) := by decide +kernel
theorem d_Ce_judge_120 : decode b_Ce_judge 120 = .ok (.aload_n 0, 1) := by decide +kernel
theorem d_Ce_judge_121 : decode b_Ce_judge 121 = .ok (.getfield 65, 3) := by decide +kernel
theorem d_Ce_judge_124 : decode b_Ce_judge 124 = .ok (.ifCond .eq 8, 3) := by decide +kernel
theorem d_Ce_judge_127 : decode b_Ce_judge 127 = .ok (.bipush 10, 2) := by decide +kernel
theorem d_Ce_judge_129 : decode b_Ce_judge 129 = .ok (.goto 5, 3) := by decide +kernel
theorem d_Ce_judge_132 : decode b_Ce_judge 132 = .ok (.bipush 12, 2) := by decide +kernel
theorem d_Ce_judge_134 : decode b_Ce_judge 134 = .ok (.i2l, 1) := by decide +kernel
theorem d_Ce_judge_135 : decode b_Ce_judge 135 = .ok (.lcmp, 1) := by decide +kernel
theorem d_Ce_judge_136 : decode b_Ce_judge 136 = .ok (.ifCond .eq 6, 3) := by decide +kernel
theorem d_Ce_judge_139 : decode b_Ce_judge 139 = .ok (.bipush 40, 2) := by decide +kernel
theorem d_Ce_judge_141 : decode b_Ce_judge 141 = .ok (.ireturn, 1) := by decide +kernel
theorem d_Ce_judge_142 : decode b_Ce_judge 142 = .ok (.aload_n 0, 1) := by decide +kernel
theorem d_Ce_judge_143 : decode b_Ce_judge 143 = .ok (.aload_n 0, 1) := by decide +kernel
theorem d_Ce_judge_144 : decode b_Ce_judge 144 = .ok (.getfield 30, 3) := by decide +kernel
theorem d_Ce_judge_147 : decode b_Ce_judge 147 = .ok (.iconst 0, 1) := by decide +kernel
theorem d_Ce_judge_148 : decode b_Ce_judge 148 = .ok (.iconst 4, 1) := by decide +kernel
theorem d_Ce_judge_149 : decode b_Ce_judge 149 = .ok (.invokevirtual 48, 3) := by decide +kernel
theorem d_Ce_judge_152 : decode b_Ce_judge 152 = .ok (.putfield 81, 3) := by decide +kernel
theorem lk_Ce_81 : Cond.fieldLink R_Ce 81 R_Ce (F_Ce 8).2.1 (F_Ce 8).2.2.1 ∈ lw_tg := in_t 670 (by decide +kernel)
theorem d_Ce_judge_155 : decode b_Ce_judge 155 = .ok (.aload_n 0, 1) := by decide +kernel
theorem d_Ce_judge_156 : decode b_Ce_judge 156 = .ok (.aload_n 0, 1) := by decide +kernel
theorem d_Ce_judge_157 : decode b_Ce_judge 157 = .ok (.getfield 30, 3) := by decide +kernel
theorem d_Ce_judge_160 : decode b_Ce_judge 160 = .ok (.aload_n 0, 1) := by decide +kernel
theorem d_Ce_judge_161 : decode b_Ce_judge 161 = .ok (.getfield 30, 3) := by decide +kernel
theorem d_Ce_judge_164 : decode b_Ce_judge 164 = .ok (.aload_n 0, 1) := by decide +kernel
theorem d_Ce_judge_165 : decode b_Ce_judge 165 = .ok (.getfield 81, 3) := by decide +kernel
theorem d_Ce_judge_168 : decode b_Ce_judge 168 = .ok (.iconst 0, 1) := by decide +kernel
theorem d_Ce_judge_169 : decode b_Ce_judge 169 = .ok (.invokevirtual 48, 3) := by decide +kernel
theorem d_Ce_judge_172 : decode b_Ce_judge 172 = .ok (.invokevirtual 84, 3) := by decide +kernel
theorem d_Ce_judge_175 : decode b_Ce_judge 175 = .ok (.putfield 44, 3) := by decide +kernel
theorem lk_Ce_44 : Cond.fieldLink R_Ce 44 R_Ce (F_Ce 9).2.1 (F_Ce 9).2.2.1 ∈ lw_tg := in_t 671 (by decide +kernel)
theorem d_Ce_judge_178 : decode b_Ce_judge 178 = .ok (.aload_n 0, 1) := by decide +kernel
theorem d_Ce_judge_179 : decode b_Ce_judge 179 = .ok (.getfield 30, 3) := by decide +kernel
theorem d_Ce_judge_182 : decode b_Ce_judge 182 = .ok (.aload_n 0, 1) := by decide +kernel
theorem d_Ce_judge_183 : decode b_Ce_judge 183 = .ok (.getfield 81, 3) := by decide +kernel
theorem d_Ce_judge_186 : decode b_Ce_judge 186 = .ok (.iconst 3, 1) := by decide +kernel
theorem d_Ce_judge_187 : decode b_Ce_judge 187 = .ok (.invokevirtual 48, 3) := by decide +kernel
theorem d_Ce_judge_190 : decode b_Ce_judge 190 = .ok (.ifCond .ge 6, 3) := by decide +kernel
theorem d_Ce_judge_193 : decode b_Ce_judge 193 = .ok (.bipush 7, 2) := by decide +kernel
theorem d_Ce_judge_195 : decode b_Ce_judge 195 = .ok (.ireturn, 1) := by decide +kernel
theorem d_Ce_judge_196 : decode b_Ce_judge 196 = .ok (.aload_n 0, 1) := by decide +kernel
theorem d_Ce_judge_197 : decode b_Ce_judge 197 = .ok (.getfield 30, 3) := by decide +kernel
theorem d_Ce_judge_200 : decode b_Ce_judge 200 = .ok (.aload_n 0, 1) := by decide +kernel
theorem d_Ce_judge_201 : decode b_Ce_judge 201 = .ok (.getfield 30, 3) := by decide +kernel
theorem d_Ce_judge_204 : decode b_Ce_judge 204 = .ok (.aload_n 0, 1) := by decide +kernel
theorem d_Ce_judge_205 : decode b_Ce_judge 205 = .ok (.getfield 81, 3) := by decide +kernel
theorem d_Ce_judge_208 : decode b_Ce_judge 208 = .ok (.iconst 2, 1) := by decide +kernel
theorem d_Ce_judge_209 : decode b_Ce_judge 209 = .ok (.invokevirtual 48, 3) := by decide +kernel
theorem d_Ce_judge_212 : decode b_Ce_judge 212 = .ok (.invokevirtual 87, 3) := by decide +kernel
theorem d_Ce_judge_215 : decode b_Ce_judge 215 = .ok (.ifCond .ne 6, 3) := by decide +kernel
theorem d_Ce_judge_218 : decode b_Ce_judge 218 = .ok (.bipush 68, 2) := by decide +kernel
theorem d_Ce_judge_220 : decode b_Ce_judge 220 = .ok (.ireturn, 1) := by decide +kernel
theorem d_Ce_judge_221 : decode b_Ce_judge 221 = .ok (.aload_n 0, 1) := by decide +kernel
theorem d_Ce_judge_222 : decode b_Ce_judge 222 = .ok (.getfield 65, 3) := by decide +kernel
theorem d_Ce_judge_225 : decode b_Ce_judge 225 = .ok (.ifCond .ne 16, 3) := by decide +kernel
theorem d_Ce_judge_228 : decode b_Ce_judge 228 = .ok (.aload_n 0, 1) := by decide +kernel
theorem d_Ce_judge_229 : decode b_Ce_judge 229 = .ok (.iconst 1, 1) := by decide +kernel
theorem d_Ce_judge_230 : decode b_Ce_judge 230 = .ok (.invokevirtual 91, 3) := by decide +kernel
theorem d_Ce_judge_233 : decode b_Ce_judge 233 = .ok (.ifCond .ge 8, 3) := by decide +kernel
theorem d_Ce_judge_236 : decode b_Ce_judge 236 = .ok (.bipush 25, 2) := by decide +kernel
theorem d_Ce_judge_238 : decode b_Ce_judge 238 = .ok (.goto 4, 3) := by decide +kernel
theorem d_Ce_judge_241 : decode b_Ce_judge 241 = .ok (.iconst 0, 1) := by decide +kernel
theorem d_Ce_judge_242 : decode b_Ce_judge 242 = .ok (.ireturn, 1) := by decide +kernel
abbrev b_Ce_putError : ByteArray := prog_5_method_30_code
def y_Ce_putError : MethodName := ⟨R_Ce, "putError", "(I)V"⟩
abbrev k_Ce_putError : Cond := .code y_Ce_putError b_Ce_putError 7 none
theorem ki_Ce_putError : k_Ce_putError ∈ lw_tg := in_t 1346 (by decide +kernel)
theorem ks_Ce_putError : Cond.instanceMethod y_Ce_putError ∈ lw_tg := in_t 1344 (by decide +kernel)
theorem kx_Ce_putError : Cond.selects R_Ce y_Ce_putError y_Ce_putError ∈ lw_tg := in_t 1345 (by decide +kernel)
theorem kl_H_Ce_putError : Cond.methodLink R_H 179 y_Ce_putError ∈ lw_tg := in_t 1343 (by decide +kernel)
theorem hd_Ce_putError : y_Ce_putError.cls = R_Ce ∧ y_Ce_putError.cls ≠ "java/lang/invoke/MethodHandle" ∧ y_Ce_putError.cls ≠ "java/lang/invoke/VarHandle" ∧ (parseMethodDescriptor y_Ce_putError.desc).map (fun d => d.parameters.length) = some 1 := by decide +kernel
theorem d_Ce_putError_0 : decode b_Ce_putError 0 = .ok (.aload_n 0, 1) := by decide +kernel
theorem d_Ce_putError_1 : decode b_Ce_putError 1 = .ok (.getfield 76, 3) := by decide +kernel
theorem d_Ce_putError_4 : decode b_Ce_putError 4 = .ok (.ifCond .eq 15, 3) := by decide +kernel
theorem d_Ce_putError_7 : decode b_Ce_putError 7 = .ok (.aload_n 0, 1) := by decide +kernel
theorem d_Ce_putError_8 : decode b_Ce_putError 8 = .ok (.getfield 30, 3) := by decide +kernel
theorem d_Ce_putError_11 : decode b_Ce_putError 11 = .ok (.iconst 0, 1) := by decide +kernel
theorem d_Ce_putError_12 : decode b_Ce_putError 12 = .ok (.iconst 4, 1) := by decide +kernel
theorem d_Ce_putError_13 : decode b_Ce_putError 13 = .ok (.invokevirtual 48, 3) := by decide +kernel
theorem d_Ce_putError_16 : decode b_Ce_putError 16 = .ok (.goto 4, 3) := by decide +kernel
theorem d_Ce_putError_19 : decode b_Ce_putError 19 = .ok (.iconst (-1), 1) := by decide +kernel
theorem d_Ce_putError_20 : decode b_Ce_putError 20 = .ok (.istore_n 2, 1) := by decide +kernel
theorem d_Ce_putError_21 : decode b_Ce_putError 21 = .ok (.aload_n 0, 1) := by decide +kernel
theorem d_Ce_putError_22 : decode b_Ce_putError 22 = .ok (.getfield 65, 3) := by decide +kernel
theorem d_Ce_putError_25 : decode b_Ce_putError 25 = .ok (.ifCond .eq 15, 3) := by decide +kernel
theorem d_Ce_putError_28 : decode b_Ce_putError 28 = .ok (.aload_n 0, 1) := by decide +kernel
theorem d_Ce_putError_29 : decode b_Ce_putError 29 = .ok (.getfield 30, 3) := by decide +kernel
theorem d_Ce_putError_32 : decode b_Ce_putError 32 = .ok (.iload_n 2, 1) := by decide +kernel
theorem d_Ce_putError_33 : decode b_Ce_putError 33 = .ok (.iconst 1, 1) := by decide +kernel
theorem d_Ce_putError_34 : decode b_Ce_putError 34 = .ok (.invokevirtual 48, 3) := by decide +kernel
theorem d_Ce_putError_37 : decode b_Ce_putError 37 = .ok (.goto 4, 3) := by decide +kernel
theorem d_Ce_putError_40 : decode b_Ce_putError 40 = .ok (.iconst (-1), 1) := by decide +kernel
theorem d_Ce_putError_41 : decode b_Ce_putError 41 = .ok (.istore_n 3, 1) := by decide +kernel
theorem d_Ce_putError_42 : decode b_Ce_putError 42 = .ok (.aload_n 0, 1) := by decide +kernel
theorem d_Ce_putError_43 : decode b_Ce_putError 43 = .ok (.getfield 30, 3) := by decide +kernel
theorem d_Ce_putError_46 : decode b_Ce_putError 46 = .ok (.iload_n 2, 1) := by decide +kernel
theorem d_Ce_putError_47 : decode b_Ce_putError 47 = .ok (.iconst 3, 1) := by decide +kernel
theorem d_Ce_putError_48 : decode b_Ce_putError 48 = .ok (.invokevirtual 48, 3) := by decide +kernel
theorem d_Ce_putError_51 : decode b_Ce_putError 51 = .ok (.istore 4, 2) := by decide +kernel
theorem d_Ce_putError_53 : decode b_Ce_putError 53 = .ok (.aload_n 0, 1) := by decide +kernel
theorem d_Ce_putError_54 : decode b_Ce_putError 54 = .ok (.getfield 34, 3) := by decide +kernel
theorem d_Ce_putError_57 : decode b_Ce_putError 57 = .ok (.invokevirtual 265, 3) := by decide +kernel
theorem d_Ce_putError_60 : decode b_Ce_putError 60 = .ok (.aload_n 0, 1) := by decide +kernel
theorem d_Ce_putError_61 : decode b_Ce_putError 61 = .ok (.getfield 34, 3) := by decide +kernel
theorem d_Ce_putError_64 : decode b_Ce_putError 64 = .ok (.bipush 126, 2) := by decide +kernel
theorem d_Ce_putError_66 : decode b_Ce_putError 66 = .ok (.invokevirtual 268, 3) := by decide +kernel
theorem d_Ce_putError_69 : decode b_Ce_putError 69 = .ok (.istore 5, 2) := by decide +kernel
theorem d_Ce_putError_71 : decode b_Ce_putError 71 = .ok (.aload_n 0, 1) := by decide +kernel
theorem d_Ce_putError_72 : decode b_Ce_putError 72 = .ok (.getfield 34, 3) := by decide +kernel
theorem d_Ce_putError_75 : decode b_Ce_putError 75 = .ok (.bipush 48, 2) := by decide +kernel
theorem d_Ce_putError_77 : decode b_Ce_putError 77 = .ok (.invokevirtual 268, 3) := by decide +kernel
theorem d_Ce_putError_80 : decode b_Ce_putError 80 = .ok (.istore 6, 2) := by decide +kernel
theorem d_Ce_putError_82 : decode b_Ce_putError 82 = .ok (.aload_n 0, 1) := by decide +kernel
theorem d_Ce_putError_83 : decode b_Ce_putError 83 = .ok (.getfield 34, 3) := by decide +kernel
theorem d_Ce_putError_86 : decode b_Ce_putError 86 = .ok (.aload_n 0, 1) := by decide +kernel
theorem d_Ce_putError_87 : decode b_Ce_putError 87 = .ok (.getfield 18, 3) := by decide +kernel
theorem d_Ce_putError_90 : decode b_Ce_putError 90 = .ok (.getfield 112, 3) := by decide +kernel
theorem lk_Ce_112 : Cond.fieldLink R_Ce 112 R_Va (F_Va 0).2.1 (F_Va 0).2.2.1 ∈ lw_tg := in_t 130 (by decide +kernel)
theorem d_Ce_putError_93 : decode b_Ce_putError 93 = .ok (.iload_n 1, 1) := by decide +kernel
theorem d_Ce_putError_94 : decode b_Ce_putError 94 = .ok (.invokevirtual 363, 3) := by decide +kernel
theorem d_Ce_putError_97 : decode b_Ce_putError 97 = .ok (.iload_n 3, 1) := by decide +kernel
theorem d_Ce_putError_98 : decode b_Ce_putError 98 = .ok (.ifCond .lt 39, 3) := by decide +kernel
theorem d_Ce_putError_101 : decode b_Ce_putError 101 = .ok (.aload_n 0, 1) := by decide +kernel
theorem d_Ce_putError_102 : decode b_Ce_putError 102 = .ok (.getfield 34, 3) := by decide +kernel
theorem d_Ce_putError_105 : decode b_Ce_putError 105 = .ok (.bipush 7, 2) := by decide +kernel
theorem d_Ce_putError_107 : decode b_Ce_putError 107 = .ok (.aload_n 0, 1) := by decide +kernel
theorem d_Ce_putError_108 : decode b_Ce_putError 108 = .ok (.getfield 30, 3) := by decide +kernel
theorem d_Ce_putError_111 : decode b_Ce_putError 111 = .ok (.aload_n 0, 1) := by decide +kernel
theorem d_Ce_putError_112 : decode b_Ce_putError 112 = .ok (.getfield 30, 3) := by decide +kernel
theorem d_Ce_putError_115 : decode b_Ce_putError 115 = .ok (.iload_n 2, 1) := by decide +kernel
theorem d_Ce_putError_116 : decode b_Ce_putError 116 = .ok (.iconst 2, 1) := by decide +kernel
theorem d_Ce_putError_117 : decode b_Ce_putError 117 = .ok (.invokevirtual 48, 3) := by decide +kernel
theorem d_Ce_putError_120 : decode b_Ce_putError 120 = .ok (.invokevirtual 302, 3) := by decide +kernel
theorem d_Ce_putError_123 : decode b_Ce_putError 123 = .ok (.aload_n 0, 1) := by decide +kernel
theorem d_Ce_putError_124 : decode b_Ce_putError 124 = .ok (.getfield 34, 3) := by decide +kernel
theorem d_Ce_putError_127 : decode b_Ce_putError 127 = .ok (.bipush 8, 2) := by decide +kernel
theorem d_Ce_putError_129 : decode b_Ce_putError 129 = .ok (.aload_n 0, 1) := by decide +kernel
theorem d_Ce_putError_130 : decode b_Ce_putError 130 = .ok (.getfield 30, 3) := by decide +kernel
theorem d_Ce_putError_133 : decode b_Ce_putError 133 = .ok (.iload_n 3, 1) := by decide +kernel
theorem d_Ce_putError_134 : decode b_Ce_putError 134 = .ok (.invokevirtual 302, 3) := by decide +kernel
theorem d_Ce_putError_137 : decode b_Ce_putError 137 = .ok (.aload_n 0, 1) := by decide +kernel
theorem d_Ce_putError_138 : decode b_Ce_putError 138 = .ok (.getfield 34, 3) := by decide +kernel
theorem d_Ce_putError_141 : decode b_Ce_putError 141 = .ok (.bipush 9, 2) := by decide +kernel
theorem d_Ce_putError_143 : decode b_Ce_putError 143 = .ok (.invokevirtual 285, 3) := by decide +kernel
theorem d_Ce_putError_146 : decode b_Ce_putError 146 = .ok (.iload 4, 2) := by decide +kernel
theorem d_Ce_putError_148 : decode b_Ce_putError 148 = .ok (.ifCond .lt 21, 3) := by decide +kernel
theorem d_Ce_putError_151 : decode b_Ce_putError 151 = .ok (.aload_n 0, 1) := by decide +kernel
theorem d_Ce_putError_152 : decode b_Ce_putError 152 = .ok (.getfield 34, 3) := by decide +kernel
theorem d_Ce_putError_155 : decode b_Ce_putError 155 = .ok (.bipush 10, 2) := by decide +kernel
theorem d_Ce_putError_157 : decode b_Ce_putError 157 = .ok (.aload_n 0, 1) := by decide +kernel
theorem d_Ce_putError_158 : decode b_Ce_putError 158 = .ok (.getfield 30, 3) := by decide +kernel
theorem d_Ce_putError_161 : decode b_Ce_putError 161 = .ok (.iload 4, 2) := by decide +kernel
theorem d_Ce_putError_163 : decode b_Ce_putError 163 = .ok (.invokevirtual 302, 3) := by decide +kernel
theorem d_Ce_putError_166 : decode b_Ce_putError 166 = .ok (.goto 22, 3) := by decide +kernel
theorem d_Ce_putError_169 : decode b_Ce_putError 169 = .ok (.aload_n 0, 1) := by decide +kernel
theorem d_Ce_putError_170 : decode b_Ce_putError 170 = .ok (.getfield 34, 3) := by decide +kernel
theorem d_Ce_putError_173 : decode b_Ce_putError 173 = .ok (.bipush 10, 2) := by decide +kernel
theorem d_Ce_putError_175 : decode b_Ce_putError 175 = .ok (.iconst 2, 1) := by decide +kernel
theorem d_Ce_putError_176 : decode b_Ce_putError 176 = .ok (.aload_n 0, 1) := by decide +kernel
theorem d_Ce_putError_177 : decode b_Ce_putError 177 = .ok (.getfield 26, 3) := by decide +kernel
theorem d_Ce_putError_180 : decode b_Ce_putError 180 = .ok (.iconst 0, 1) := by decide +kernel
theorem d_Ce_putError_181 : decode b_Ce_putError 181 = .ok (.aaload, 1) := by decide +kernel
theorem d_Ce_putError_182 : decode b_Ce_putError 182 = .ok (.getfield 350, 3) := by decide +kernel
theorem lk_Ce_350 : Cond.fieldLink R_Ce 350 R_Pr (F_Pr 0).2.1 (F_Pr 0).2.2.1 ∈ lw_tg := in_t 246 (by decide +kernel)
theorem d_Ce_putError_185 : decode b_Ce_putError 185 = .ok (.invokevirtual 366, 3) := by decide +kernel
theorem d_Ce_putError_188 : decode b_Ce_putError 188 = .ok (.aload_n 0, 1) := by decide +kernel
theorem d_Ce_putError_189 : decode b_Ce_putError 189 = .ok (.getfield 65, 3) := by decide +kernel
theorem d_Ce_putError_192 : decode b_Ce_putError 192 = .ok (.ifCond .eq 13, 3) := by decide +kernel
theorem d_Ce_putError_195 : decode b_Ce_putError 195 = .ok (.iload_n 1, 1) := by decide +kernel
theorem d_Ce_putError_196 : decode b_Ce_putError 196 = .ok (.bipush 25, 2) := by decide +kernel
theorem d_Ce_putError_198 : decode b_Ce_putError 198 = .ok (.if_icmp .ne 7, 3) := by decide +kernel
theorem d_Ce_putError_201 : decode b_Ce_putError 201 = .ok (.aload_n 0, 1) := by decide +kernel
theorem d_Ce_putError_202 : decode b_Ce_putError 202 = .ok (.invokevirtual 370, 3) := by decide +kernel
theorem d_Ce_putError_205 : decode b_Ce_putError 205 = .ok (.aload_n 0, 1) := by decide +kernel
theorem d_Ce_putError_206 : decode b_Ce_putError 206 = .ok (.getfield 34, 3) := by decide +kernel
theorem d_Ce_putError_209 : decode b_Ce_putError 209 = .ok (.iload 6, 2) := by decide +kernel
theorem d_Ce_putError_211 : decode b_Ce_putError 211 = .ok (.invokevirtual 281, 3) := by decide +kernel
theorem d_Ce_putError_214 : decode b_Ce_putError 214 = .ok (.aload_n 0, 1) := by decide +kernel
theorem d_Ce_putError_215 : decode b_Ce_putError 215 = .ok (.getfield 34, 3) := by decide +kernel
theorem d_Ce_putError_218 : decode b_Ce_putError 218 = .ok (.iload 5, 2) := by decide +kernel
theorem d_Ce_putError_220 : decode b_Ce_putError 220 = .ok (.invokevirtual 281, 3) := by decide +kernel
theorem d_Ce_putError_223 : decode b_Ce_putError 223 = .ok (.return_, 1) := by decide +kernel
theorem ol_Ce : Cond.methodLink R_Ce 3 Lib.objectInit ∈ lw_tg := in_t 657 (by decide +kernel)
theorem ck_Ce_9 : Cond.classLink R_Ce 9 R_Se ∈ lw_tg := in_t 658 (by decide +kernel)
set_option maxHeartbeats 4000000 in
set_option maxRecDepth 100000 in
theorem c_Pr_rekey (l : Launch) (D : va_G) (E : cE) (T : cT) (L : List Nat) (f : pF) (sz : Nat) (st0 : Nat) (a4 : Int32) (N M M3 pr v ho wd bl hst inn out mac o tw ke sta mo tu b r b2 r2 b3 r3 sno l18 l17 d18 d17 txo dro se coo deo un kp ver fl rd n n3 n5 : Nat) (pth prd lif ren flg xpy now ssz cat crw tot : Int32) (g_wd g_bl g_hst g_inn g_out g_mac g_tw g_ke g_sta g_mo g_tu g_r g_r2 g_r3 : Nat → Int32) (m_pr : pr ∈ L) (m_v : v ∈ L) (m_ho : ho ∈ L) (m_wd : wd ∈ L) (m_bl : bl ∈ L) (m_hst : hst ∈ L) (m_inn : inn ∈ L) (m_out : out ∈ L) (m_mac : mac ∈ L) (m_o : o ∈ L) (m_tw : tw ∈ L) (m_ke : ke ∈ L) (m_sta : sta ∈ L) (m_mo : mo ∈ L) (m_tu : tu ∈ L) (m_b : b ∈ L) (m_r : r ∈ L) (m_b2 : b2 ∈ L) (m_r2 : r2 ∈ L) (m_b3 : b3 ∈ L) (m_r3 : r3 ∈ L) (e_pr : f pr = .inr (7, [.ref b2, .ref sno, .int pth, .int (nI ver), .int prd, .ref l18, .ref l17, .ref d18, .ref d17, .int lif, .int ren, .int flg, .int xpy])) (e_v : f v = .inr (11, [.int now, .ref txo, .ref dro, .ref ho, .ref o, .ref se, .int ssz, .ref coo, .int cat, .int crw, .ref deo, .ref tu, .ref b])) (e_ho : f ho = .inr (6, [.ref wd, .ref bl, .ref hst, .ref inn, .ref out, .int (nI fl), .int tot, .ref mac])) (e_wd : f wd = .inl (E.2.1, 80, .inl g_wd)) (e_bl : f bl = .inl (E.1, 64, .inl g_bl)) (e_hst : f hst = .inl (E.2.1, 5, .inl g_hst)) (e_inn : f inn = .inl (E.2.1, 5, .inl g_inn)) (e_out : f out = .inl (E.2.1, 5, .inl g_out)) (e_mac : f mac = .inl (E.1, 20, .inl g_mac)) (e_o : f o = .inr (1, [.ref un, .ref tw, .ref ke, .int (nI rd), .ref sta, .ref mo, .ref kp])) (e_tw : f tw = .inl (E.2.1, 256, .inl g_tw)) (e_ke : f ke = .inl (E.2.1, 240, .inl g_ke)) (e_sta : f sta = .inl (E.2.1, 16, .inl g_sta)) (e_mo : f mo = .inl (E.2.1, 16, .inl g_mo)) (e_tu : f tu = .inl (E.1, 20, .inl g_tu)) (e_b : f b = .inr (3, [.ref r, .int (nI n)])) (e_r : f r = .inl (E.1, N, .inl g_r)) (e_b2 : f b2 = .inr (3, [.ref r2, .int (nI n3)])) (e_r2 : f r2 = .inl (E.1, M, .inl g_r2)) (e_b3 : f b3 = .inr (3, [.ref r3, .int (nI n5)])) (e_r3 : f r3 = .inl (E.1, M3, .inl g_r3)) (f_bl : fB g_bl) (f_mac : fB g_mac) (f_tw : by8 g_tw) (f_ke : by8 g_ke) (f_sta : by8 g_sta) (f_mo : by8 g_mo) (f_tu : fB g_tu) (f_r : fB g_r) (f_r2 : fB g_r2) (f_r3 : fB g_r3) (ap_wd_bl : wd ≠ bl) (ap_wd_hst : wd ≠ hst) (ap_wd_inn : wd ≠ inn) (ap_wd_out : wd ≠ out) (ap_wd_mac : wd ≠ mac) (ap_wd_tw : wd ≠ tw) (ap_wd_ke : wd ≠ ke) (ap_wd_sta : wd ≠ sta) (ap_wd_mo : wd ≠ mo) (ap_wd_tu : wd ≠ tu) (ap_wd_r : wd ≠ r) (ap_wd_r2 : wd ≠ r2) (ap_wd_r3 : wd ≠ r3) (ap_bl_hst : bl ≠ hst) (ap_bl_inn : bl ≠ inn) (ap_bl_out : bl ≠ out) (ap_bl_mac : bl ≠ mac) (ap_bl_tw : bl ≠ tw) (ap_bl_ke : bl ≠ ke) (ap_bl_sta : bl ≠ sta) (ap_bl_mo : bl ≠ mo) (ap_bl_tu : bl ≠ tu) (ap_bl_r : bl ≠ r) (ap_bl_r2 : bl ≠ r2) (ap_bl_r3 : bl ≠ r3) (ap_hst_inn : hst ≠ inn) (ap_hst_out : hst ≠ out) (ap_hst_mac : hst ≠ mac) (ap_hst_tw : hst ≠ tw) (ap_hst_ke : hst ≠ ke) (ap_hst_sta : hst ≠ sta) (ap_hst_mo : hst ≠ mo) (ap_hst_tu : hst ≠ tu) (ap_hst_r : hst ≠ r) (ap_hst_r2 : hst ≠ r2) (ap_hst_r3 : hst ≠ r3) (ap_inn_out : inn ≠ out) (ap_inn_mac : inn ≠ mac) (ap_inn_tw : inn ≠ tw) (ap_inn_ke : inn ≠ ke) (ap_inn_sta : inn ≠ sta) (ap_inn_mo : inn ≠ mo) (ap_inn_tu : inn ≠ tu) (ap_inn_r : inn ≠ r) (ap_inn_r2 : inn ≠ r2) (ap_inn_r3 : inn ≠ r3) (ap_out_mac : out ≠ mac) (ap_out_tw : out ≠ tw) (ap_out_ke : out ≠ ke) (ap_out_sta : out ≠ sta) (ap_out_mo : out ≠ mo) (ap_out_tu : out ≠ tu) (ap_out_r : out ≠ r) (ap_out_r2 : out ≠ r2) (ap_out_r3 : out ≠ r3) (ap_mac_tw : mac ≠ tw) (ap_mac_ke : mac ≠ ke) (ap_mac_sta : mac ≠ sta) (ap_mac_mo : mac ≠ mo) (ap_mac_tu : mac ≠ tu) (ap_mac_r : mac ≠ r) (ap_mac_r2 : mac ≠ r2) (ap_mac_r3 : mac ≠ r3) (ap_tw_ke : tw ≠ ke) (ap_tw_sta : tw ≠ sta) (ap_tw_mo : tw ≠ mo) (ap_tw_tu : tw ≠ tu) (ap_tw_r : tw ≠ r) (ap_tw_r2 : tw ≠ r2) (ap_tw_r3 : tw ≠ r3) (ap_ke_sta : ke ≠ sta) (ap_ke_mo : ke ≠ mo) (ap_ke_tu : ke ≠ tu) (ap_ke_r : ke ≠ r) (ap_ke_r2 : ke ≠ r2) (ap_ke_r3 : ke ≠ r3) (ap_sta_mo : sta ≠ mo) (ap_sta_tu : sta ≠ tu) (ap_sta_r : sta ≠ r) (ap_sta_r2 : sta ≠ r2) (ap_sta_r3 : sta ≠ r3) (ap_mo_tu : mo ≠ tu) (ap_mo_r : mo ≠ r) (ap_mo_r2 : mo ≠ r2) (ap_mo_r3 : mo ≠ r3) (ap_tu_r : tu ≠ r) (ap_tu_r2 : tu ≠ r2) (ap_tu_r3 : tu ≠ r3) (ap_b_b2 : b ≠ b2) (ap_b_b3 : b ≠ b3) (ap_r_r2 : r ≠ r2) (ap_r_r3 : r ≠ r3) (ap_b2_b3 : b2 ≠ b3) (ap_r2_r3 : r2 ≠ r3) (hh0 : n ≤ N) (hh1 : N < 100000) (hh2 : n3 ≤ M) (hh3 : M < 100000) (hh4 : n5 ≤ M3) (hh5 : M3 < 100000) (hh6 : st0 ≤ n5) (hh7 : fl < 64) (hh8 : rd ≤ 14) (hh9 : ver < 1000) : Met l y_Pr_rekey (k_Pr_rekey :: lw_tg) (kRm 7 165 2 (48)) (va_Pc [.ref pr, .ref v, .ref b3, .int (nI st0), .int a4] (kPre D E T L f sz)) (va_Qv (fun (u : cU) => (∀ x, x ∈ L → x ∈ u.1) ∧ (∀ x, x ∈ L → x ≠ pr → x ≠ ho → x ≠ wd → x ≠ bl → x ≠ hst → x ≠ mac → x ≠ inn → x ≠ out → x ≠ o → x ≠ ke → x ≠ sta → x ≠ mo → x ≠ tu → x ≠ b → x ≠ r → u.2 x = f x) ∧ ∃ (nk18 nk17 ver2 fl2 rd2 n2 : Nat) (prd2 tot2 : Int32) (k_wd k_bl k_hst k_mac k_inn k_out k_ke k_sta k_mo k_tu k_r : Nat → Int32), fB k_bl ∧ fB k_mac ∧ by8 k_ke ∧ by8 k_sta ∧ by8 k_mo ∧ fB k_tu ∧ fB k_r ∧ (ver2 = ver + 1) ∧ (fl2 < 64) ∧ (rd2 ≤ 14) ∧ (n2 ≤ N) ∧ u.2 pr = .inr (7, [.ref b2, .ref sno, .int pth, .int (nI ver2), .int prd2, .ref nk18, .ref nk17, .ref l18, .ref l17, .int lif, .int ren, .int flg, .int xpy]) ∧ u.2 ho = .inr (6, [.ref wd, .ref bl, .ref hst, .ref inn, .ref out, .int (nI fl2), .int tot2, .ref mac]) ∧ u.2 wd = .inl (E.2.1, 80, .inl k_wd) ∧ u.2 bl = .inl (E.1, 64, .inl k_bl) ∧ u.2 hst = .inl (E.2.1, 5, .inl k_hst) ∧ u.2 mac = .inl (E.1, 20, .inl k_mac) ∧ u.2 inn = .inl (E.2.1, 5, .inl k_inn) ∧ u.2 out = .inl (E.2.1, 5, .inl k_out) ∧ u.2 o = .inr (1, [.ref un, .ref tw, .ref ke, .int (nI rd2), .ref sta, .ref mo, .ref kp]) ∧ u.2 ke = .inl (E.2.1, 240, .inl k_ke) ∧ u.2 sta = .inl (E.2.1, 16, .inl k_sta) ∧ u.2 mo = .inl (E.2.1, 16, .inl k_mo) ∧ u.2 tu = .inl (E.1, 20, .inl k_tu) ∧ u.2 b = .inr (3, [.ref r, .int (nI n2)]) ∧ u.2 r = .inl (E.1, N, .inl k_r)) (cPost D E (pA L sz)) (pA L sz)) 2 (48) (pA L sz) := by
  refine k_enter (own := R_Pr) (by decide) rfl (Nat.le_of_ble_eq_true rfl) (fun p e s m below meth c ls AV QQ H locs hQQ X Y hA hin hr hlk hml hl KS KR => ?_)
  have hl : lv_has ls 5 [(0, .ref pr), (1, .ref v), (2, .ref b3), (3, .int (nI st0)), (4, .int a4)] := hl
  refine lv_aload_n X.1 X.2.1 d_Pr_rekey_0 rfl (lv_at hl 0 rfl) ?_
  refine lv_aload_n X.1 X.2.1 d_Pr_rekey_1 rfl (lv_at hl 0 rfl) ?_
  refine q_get X.1 X.2.1 X.2.2.1 i_Pr X.2.2.2.1 X.2.2.2.2 Y m_pr e_pr rfl 5 (by decide) (X.2.2.1 _ lk_Pr_31) (fun _ h9 => h9) rfl d_Pr_rekey_2 ?_
  refine q_put X.1 X.2.1 X.2.2.1 i_Pr t_Pr t_Pr_ok n_Pr X.2.2.2.1 X.2.2.2.2 Y m_pr e_pr rfl 7 (by decide) (X.2.2.1 _ lk_Pr_37) (fun _ h9 => h9) rfl (t_Pr_ok 7 (by decide)) rfl rfl (Nat.le_of_ble_eq_true rfl) d_Pr_rekey_5 (fun H locs Y => ?_)
  have e2 : (va_up f pr (.inr (7, [.ref b2, .ref sno, .int pth, .int (nI ver), .int prd, .ref l18, .ref l17, .ref l18, .ref d17, .int lif, .int ren, .int flg, .int xpy]))) pr = .inr (7, [.ref b2, .ref sno, .int pth, .int (nI ver), .int prd, .ref l18, .ref l17, .ref l18, .ref d17, .int lif, .int ren, .int flg, .int xpy]) := q_up
  have e3 : (va_up f pr (.inr (7, [.ref b2, .ref sno, .int pth, .int (nI ver), .int prd, .ref l18, .ref l17, .ref l18, .ref d17, .int lif, .int ren, .int flg, .int xpy]))) v = .inr (11, [.int now, .ref txo, .ref dro, .ref ho, .ref o, .ref se, .int ssz, .ref coo, .int cat, .int crw, .ref deo, .ref tu, .ref b]) := (q_ne (q_tag e_v e_pr (show (11 : Nat) ≠ 7 by decide))).trans e_v
  have e4 : (va_up f pr (.inr (7, [.ref b2, .ref sno, .int pth, .int (nI ver), .int prd, .ref l18, .ref l17, .ref l18, .ref d17, .int lif, .int ren, .int flg, .int xpy]))) ho = .inr (6, [.ref wd, .ref bl, .ref hst, .ref inn, .ref out, .int (nI fl), .int tot, .ref mac]) := (q_ne (q_tag e_ho e_pr (show (6 : Nat) ≠ 7 by decide))).trans e_ho
  have e5 : (va_up f pr (.inr (7, [.ref b2, .ref sno, .int pth, .int (nI ver), .int prd, .ref l18, .ref l17, .ref l18, .ref d17, .int lif, .int ren, .int flg, .int xpy]))) wd = .inl (E.2.1, 80, .inl g_wd) := (q_ne (q_tag e_wd e_pr (show (1000 : Nat) ≠ 7 by decide))).trans e_wd
  have e6 : (va_up f pr (.inr (7, [.ref b2, .ref sno, .int pth, .int (nI ver), .int prd, .ref l18, .ref l17, .ref l18, .ref d17, .int lif, .int ren, .int flg, .int xpy]))) bl = .inl (E.1, 64, .inl g_bl) := (q_ne (q_tag e_bl e_pr (show (1000 : Nat) ≠ 7 by decide))).trans e_bl
  have e7 : (va_up f pr (.inr (7, [.ref b2, .ref sno, .int pth, .int (nI ver), .int prd, .ref l18, .ref l17, .ref l18, .ref d17, .int lif, .int ren, .int flg, .int xpy]))) hst = .inl (E.2.1, 5, .inl g_hst) := (q_ne (q_tag e_hst e_pr (show (1000 : Nat) ≠ 7 by decide))).trans e_hst
  have e8 : (va_up f pr (.inr (7, [.ref b2, .ref sno, .int pth, .int (nI ver), .int prd, .ref l18, .ref l17, .ref l18, .ref d17, .int lif, .int ren, .int flg, .int xpy]))) inn = .inl (E.2.1, 5, .inl g_inn) := (q_ne (q_tag e_inn e_pr (show (1000 : Nat) ≠ 7 by decide))).trans e_inn
  have e9 : (va_up f pr (.inr (7, [.ref b2, .ref sno, .int pth, .int (nI ver), .int prd, .ref l18, .ref l17, .ref l18, .ref d17, .int lif, .int ren, .int flg, .int xpy]))) out = .inl (E.2.1, 5, .inl g_out) := (q_ne (q_tag e_out e_pr (show (1000 : Nat) ≠ 7 by decide))).trans e_out
  have e10 : (va_up f pr (.inr (7, [.ref b2, .ref sno, .int pth, .int (nI ver), .int prd, .ref l18, .ref l17, .ref l18, .ref d17, .int lif, .int ren, .int flg, .int xpy]))) mac = .inl (E.1, 20, .inl g_mac) := (q_ne (q_tag e_mac e_pr (show (1000 : Nat) ≠ 7 by decide))).trans e_mac
  have e11 : (va_up f pr (.inr (7, [.ref b2, .ref sno, .int pth, .int (nI ver), .int prd, .ref l18, .ref l17, .ref l18, .ref d17, .int lif, .int ren, .int flg, .int xpy]))) o = .inr (1, [.ref un, .ref tw, .ref ke, .int (nI rd), .ref sta, .ref mo, .ref kp]) := (q_ne (q_tag e_o e_pr (show (1 : Nat) ≠ 7 by decide))).trans e_o
  have e12 : (va_up f pr (.inr (7, [.ref b2, .ref sno, .int pth, .int (nI ver), .int prd, .ref l18, .ref l17, .ref l18, .ref d17, .int lif, .int ren, .int flg, .int xpy]))) tw = .inl (E.2.1, 256, .inl g_tw) := (q_ne (q_tag e_tw e_pr (show (1000 : Nat) ≠ 7 by decide))).trans e_tw
  have e13 : (va_up f pr (.inr (7, [.ref b2, .ref sno, .int pth, .int (nI ver), .int prd, .ref l18, .ref l17, .ref l18, .ref d17, .int lif, .int ren, .int flg, .int xpy]))) ke = .inl (E.2.1, 240, .inl g_ke) := (q_ne (q_tag e_ke e_pr (show (1000 : Nat) ≠ 7 by decide))).trans e_ke
  have e14 : (va_up f pr (.inr (7, [.ref b2, .ref sno, .int pth, .int (nI ver), .int prd, .ref l18, .ref l17, .ref l18, .ref d17, .int lif, .int ren, .int flg, .int xpy]))) sta = .inl (E.2.1, 16, .inl g_sta) := (q_ne (q_tag e_sta e_pr (show (1000 : Nat) ≠ 7 by decide))).trans e_sta
  have e15 : (va_up f pr (.inr (7, [.ref b2, .ref sno, .int pth, .int (nI ver), .int prd, .ref l18, .ref l17, .ref l18, .ref d17, .int lif, .int ren, .int flg, .int xpy]))) mo = .inl (E.2.1, 16, .inl g_mo) := (q_ne (q_tag e_mo e_pr (show (1000 : Nat) ≠ 7 by decide))).trans e_mo
  have e16 : (va_up f pr (.inr (7, [.ref b2, .ref sno, .int pth, .int (nI ver), .int prd, .ref l18, .ref l17, .ref l18, .ref d17, .int lif, .int ren, .int flg, .int xpy]))) tu = .inl (E.1, 20, .inl g_tu) := (q_ne (q_tag e_tu e_pr (show (1000 : Nat) ≠ 7 by decide))).trans e_tu
  have e17 : (va_up f pr (.inr (7, [.ref b2, .ref sno, .int pth, .int (nI ver), .int prd, .ref l18, .ref l17, .ref l18, .ref d17, .int lif, .int ren, .int flg, .int xpy]))) b = .inr (3, [.ref r, .int (nI n)]) := (q_ne (q_tag e_b e_pr (show (3 : Nat) ≠ 7 by decide))).trans e_b
  have e18 : (va_up f pr (.inr (7, [.ref b2, .ref sno, .int pth, .int (nI ver), .int prd, .ref l18, .ref l17, .ref l18, .ref d17, .int lif, .int ren, .int flg, .int xpy]))) r = .inl (E.1, N, .inl g_r) := (q_ne (q_tag e_r e_pr (show (1000 : Nat) ≠ 7 by decide))).trans e_r
  have e19 : (va_up f pr (.inr (7, [.ref b2, .ref sno, .int pth, .int (nI ver), .int prd, .ref l18, .ref l17, .ref l18, .ref d17, .int lif, .int ren, .int flg, .int xpy]))) b2 = .inr (3, [.ref r2, .int (nI n3)]) := (q_ne (q_tag e_b2 e_pr (show (3 : Nat) ≠ 7 by decide))).trans e_b2
  have e20 : (va_up f pr (.inr (7, [.ref b2, .ref sno, .int pth, .int (nI ver), .int prd, .ref l18, .ref l17, .ref l18, .ref d17, .int lif, .int ren, .int flg, .int xpy]))) r2 = .inl (E.1, M, .inl g_r2) := (q_ne (q_tag e_r2 e_pr (show (1000 : Nat) ≠ 7 by decide))).trans e_r2
  have e21 : (va_up f pr (.inr (7, [.ref b2, .ref sno, .int pth, .int (nI ver), .int prd, .ref l18, .ref l17, .ref l18, .ref d17, .int lif, .int ren, .int flg, .int xpy]))) b3 = .inr (3, [.ref r3, .int (nI n5)]) := (q_ne (q_tag e_b3 e_pr (show (3 : Nat) ≠ 7 by decide))).trans e_b3
  have e22 : (va_up f pr (.inr (7, [.ref b2, .ref sno, .int pth, .int (nI ver), .int prd, .ref l18, .ref l17, .ref l18, .ref d17, .int lif, .int ren, .int flg, .int xpy]))) r3 = .inl (E.1, M3, .inl g_r3) := (q_ne (q_tag e_r3 e_pr (show (1000 : Nat) ≠ 7 by decide))).trans e_r3
  have hF23 : ∀ x, x ∈ L → x ≠ pr → x ≠ ho → x ≠ wd → x ≠ bl → x ≠ hst → x ≠ mac → x ≠ inn → x ≠ out → x ≠ o → x ≠ ke → x ≠ sta → x ≠ mo → x ≠ tu → x ≠ b → x ≠ r → (va_up f pr (.inr (7, [.ref b2, .ref sno, .int pth, .int (nI ver), .int prd, .ref l18, .ref l17, .ref l18, .ref d17, .int lif, .int ren, .int flg, .int xpy]))) x = f x := fun x hx h0 h1 h2 h3 h4 h5 h6 h7 h8 h9 h10 h11 h12 h13 h14 => (q_ne h0).trans rfl
  have Y : pH D cCl (pA L sz) s.heap L (va_up f pr (.inr (7, [.ref b2, .ref sno, .int pth, .int (nI ver), .int prd, .ref l18, .ref l17, .ref l18, .ref d17, .int lif, .int ren, .int flg, .int xpy]))) H locs := Y
  generalize (va_up f pr (.inr (7, [.ref b2, .ref sno, .int pth, .int (nI ver), .int prd, .ref l18, .ref l17, .ref l18, .ref d17, .int lif, .int ren, .int flg, .int xpy]))) = f1 at Y e2 e3 e4 e5 e6 e7 e8 e9 e10 e11 e12 e13 e14 e15 e16 e17 e18 e19 e20 e21 e22 hF23
  refine lv_aload_n X.1 X.2.1 d_Pr_rekey_8 rfl (lv_at hl 0 rfl) ?_
  refine lv_aload_n X.1 X.2.1 d_Pr_rekey_9 rfl (lv_at hl 0 rfl) ?_
  refine q_get X.1 X.2.1 X.2.2.1 i_Pr X.2.2.2.1 X.2.2.2.2 Y m_pr e2 rfl 6 (by decide) (X.2.2.1 _ lk_Pr_34) (fun _ h9 => h9) rfl d_Pr_rekey_10 ?_
  refine q_put X.1 X.2.1 X.2.2.1 i_Pr t_Pr t_Pr_ok n_Pr X.2.2.2.1 X.2.2.2.2 Y m_pr e2 rfl 8 (by decide) (X.2.2.1 _ lk_Pr_40) (fun _ h9 => h9) rfl (t_Pr_ok 8 (by decide)) rfl rfl (Nat.le_of_ble_eq_true rfl) d_Pr_rekey_13 (fun H locs Y => ?_)
  have e25 : (va_up f1 pr (.inr (7, [.ref b2, .ref sno, .int pth, .int (nI ver), .int prd, .ref l18, .ref l17, .ref l18, .ref l17, .int lif, .int ren, .int flg, .int xpy]))) pr = .inr (7, [.ref b2, .ref sno, .int pth, .int (nI ver), .int prd, .ref l18, .ref l17, .ref l18, .ref l17, .int lif, .int ren, .int flg, .int xpy]) := q_up
  have e26 : (va_up f1 pr (.inr (7, [.ref b2, .ref sno, .int pth, .int (nI ver), .int prd, .ref l18, .ref l17, .ref l18, .ref l17, .int lif, .int ren, .int flg, .int xpy]))) v = .inr (11, [.int now, .ref txo, .ref dro, .ref ho, .ref o, .ref se, .int ssz, .ref coo, .int cat, .int crw, .ref deo, .ref tu, .ref b]) := (q_ne (q_tag e3 e2 (show (11 : Nat) ≠ 7 by decide))).trans e3
  have e27 : (va_up f1 pr (.inr (7, [.ref b2, .ref sno, .int pth, .int (nI ver), .int prd, .ref l18, .ref l17, .ref l18, .ref l17, .int lif, .int ren, .int flg, .int xpy]))) ho = .inr (6, [.ref wd, .ref bl, .ref hst, .ref inn, .ref out, .int (nI fl), .int tot, .ref mac]) := (q_ne (q_tag e4 e2 (show (6 : Nat) ≠ 7 by decide))).trans e4
  have e28 : (va_up f1 pr (.inr (7, [.ref b2, .ref sno, .int pth, .int (nI ver), .int prd, .ref l18, .ref l17, .ref l18, .ref l17, .int lif, .int ren, .int flg, .int xpy]))) wd = .inl (E.2.1, 80, .inl g_wd) := (q_ne (q_tag e5 e2 (show (1000 : Nat) ≠ 7 by decide))).trans e5
  have e29 : (va_up f1 pr (.inr (7, [.ref b2, .ref sno, .int pth, .int (nI ver), .int prd, .ref l18, .ref l17, .ref l18, .ref l17, .int lif, .int ren, .int flg, .int xpy]))) bl = .inl (E.1, 64, .inl g_bl) := (q_ne (q_tag e6 e2 (show (1000 : Nat) ≠ 7 by decide))).trans e6
  have e30 : (va_up f1 pr (.inr (7, [.ref b2, .ref sno, .int pth, .int (nI ver), .int prd, .ref l18, .ref l17, .ref l18, .ref l17, .int lif, .int ren, .int flg, .int xpy]))) hst = .inl (E.2.1, 5, .inl g_hst) := (q_ne (q_tag e7 e2 (show (1000 : Nat) ≠ 7 by decide))).trans e7
  have e31 : (va_up f1 pr (.inr (7, [.ref b2, .ref sno, .int pth, .int (nI ver), .int prd, .ref l18, .ref l17, .ref l18, .ref l17, .int lif, .int ren, .int flg, .int xpy]))) inn = .inl (E.2.1, 5, .inl g_inn) := (q_ne (q_tag e8 e2 (show (1000 : Nat) ≠ 7 by decide))).trans e8
  have e32 : (va_up f1 pr (.inr (7, [.ref b2, .ref sno, .int pth, .int (nI ver), .int prd, .ref l18, .ref l17, .ref l18, .ref l17, .int lif, .int ren, .int flg, .int xpy]))) out = .inl (E.2.1, 5, .inl g_out) := (q_ne (q_tag e9 e2 (show (1000 : Nat) ≠ 7 by decide))).trans e9
  have e33 : (va_up f1 pr (.inr (7, [.ref b2, .ref sno, .int pth, .int (nI ver), .int prd, .ref l18, .ref l17, .ref l18, .ref l17, .int lif, .int ren, .int flg, .int xpy]))) mac = .inl (E.1, 20, .inl g_mac) := (q_ne (q_tag e10 e2 (show (1000 : Nat) ≠ 7 by decide))).trans e10
  have e34 : (va_up f1 pr (.inr (7, [.ref b2, .ref sno, .int pth, .int (nI ver), .int prd, .ref l18, .ref l17, .ref l18, .ref l17, .int lif, .int ren, .int flg, .int xpy]))) o = .inr (1, [.ref un, .ref tw, .ref ke, .int (nI rd), .ref sta, .ref mo, .ref kp]) := (q_ne (q_tag e11 e2 (show (1 : Nat) ≠ 7 by decide))).trans e11
  have e35 : (va_up f1 pr (.inr (7, [.ref b2, .ref sno, .int pth, .int (nI ver), .int prd, .ref l18, .ref l17, .ref l18, .ref l17, .int lif, .int ren, .int flg, .int xpy]))) tw = .inl (E.2.1, 256, .inl g_tw) := (q_ne (q_tag e12 e2 (show (1000 : Nat) ≠ 7 by decide))).trans e12
  have e36 : (va_up f1 pr (.inr (7, [.ref b2, .ref sno, .int pth, .int (nI ver), .int prd, .ref l18, .ref l17, .ref l18, .ref l17, .int lif, .int ren, .int flg, .int xpy]))) ke = .inl (E.2.1, 240, .inl g_ke) := (q_ne (q_tag e13 e2 (show (1000 : Nat) ≠ 7 by decide))).trans e13
  have e37 : (va_up f1 pr (.inr (7, [.ref b2, .ref sno, .int pth, .int (nI ver), .int prd, .ref l18, .ref l17, .ref l18, .ref l17, .int lif, .int ren, .int flg, .int xpy]))) sta = .inl (E.2.1, 16, .inl g_sta) := (q_ne (q_tag e14 e2 (show (1000 : Nat) ≠ 7 by decide))).trans e14
  have e38 : (va_up f1 pr (.inr (7, [.ref b2, .ref sno, .int pth, .int (nI ver), .int prd, .ref l18, .ref l17, .ref l18, .ref l17, .int lif, .int ren, .int flg, .int xpy]))) mo = .inl (E.2.1, 16, .inl g_mo) := (q_ne (q_tag e15 e2 (show (1000 : Nat) ≠ 7 by decide))).trans e15
  have e39 : (va_up f1 pr (.inr (7, [.ref b2, .ref sno, .int pth, .int (nI ver), .int prd, .ref l18, .ref l17, .ref l18, .ref l17, .int lif, .int ren, .int flg, .int xpy]))) tu = .inl (E.1, 20, .inl g_tu) := (q_ne (q_tag e16 e2 (show (1000 : Nat) ≠ 7 by decide))).trans e16
  have e40 : (va_up f1 pr (.inr (7, [.ref b2, .ref sno, .int pth, .int (nI ver), .int prd, .ref l18, .ref l17, .ref l18, .ref l17, .int lif, .int ren, .int flg, .int xpy]))) b = .inr (3, [.ref r, .int (nI n)]) := (q_ne (q_tag e17 e2 (show (3 : Nat) ≠ 7 by decide))).trans e17
  have e41 : (va_up f1 pr (.inr (7, [.ref b2, .ref sno, .int pth, .int (nI ver), .int prd, .ref l18, .ref l17, .ref l18, .ref l17, .int lif, .int ren, .int flg, .int xpy]))) r = .inl (E.1, N, .inl g_r) := (q_ne (q_tag e18 e2 (show (1000 : Nat) ≠ 7 by decide))).trans e18
  have e42 : (va_up f1 pr (.inr (7, [.ref b2, .ref sno, .int pth, .int (nI ver), .int prd, .ref l18, .ref l17, .ref l18, .ref l17, .int lif, .int ren, .int flg, .int xpy]))) b2 = .inr (3, [.ref r2, .int (nI n3)]) := (q_ne (q_tag e19 e2 (show (3 : Nat) ≠ 7 by decide))).trans e19
  have e43 : (va_up f1 pr (.inr (7, [.ref b2, .ref sno, .int pth, .int (nI ver), .int prd, .ref l18, .ref l17, .ref l18, .ref l17, .int lif, .int ren, .int flg, .int xpy]))) r2 = .inl (E.1, M, .inl g_r2) := (q_ne (q_tag e20 e2 (show (1000 : Nat) ≠ 7 by decide))).trans e20
  have e44 : (va_up f1 pr (.inr (7, [.ref b2, .ref sno, .int pth, .int (nI ver), .int prd, .ref l18, .ref l17, .ref l18, .ref l17, .int lif, .int ren, .int flg, .int xpy]))) b3 = .inr (3, [.ref r3, .int (nI n5)]) := (q_ne (q_tag e21 e2 (show (3 : Nat) ≠ 7 by decide))).trans e21
  have e45 : (va_up f1 pr (.inr (7, [.ref b2, .ref sno, .int pth, .int (nI ver), .int prd, .ref l18, .ref l17, .ref l18, .ref l17, .int lif, .int ren, .int flg, .int xpy]))) r3 = .inl (E.1, M3, .inl g_r3) := (q_ne (q_tag e22 e2 (show (1000 : Nat) ≠ 7 by decide))).trans e22
  have hF46 : ∀ x, x ∈ L → x ≠ pr → x ≠ ho → x ≠ wd → x ≠ bl → x ≠ hst → x ≠ mac → x ≠ inn → x ≠ out → x ≠ o → x ≠ ke → x ≠ sta → x ≠ mo → x ≠ tu → x ≠ b → x ≠ r → (va_up f1 pr (.inr (7, [.ref b2, .ref sno, .int pth, .int (nI ver), .int prd, .ref l18, .ref l17, .ref l18, .ref l17, .int lif, .int ren, .int flg, .int xpy]))) x = f x := fun x hx h0 h1 h2 h3 h4 h5 h6 h7 h8 h9 h10 h11 h12 h13 h14 => (q_ne h0).trans (hF23 x hx h0 h1 h2 h3 h4 h5 h6 h7 h8 h9 h10 h11 h12 h13 h14)
  have Y : pH D cCl (pA L sz) s.heap L (va_up f1 pr (.inr (7, [.ref b2, .ref sno, .int pth, .int (nI ver), .int prd, .ref l18, .ref l17, .ref l18, .ref l17, .int lif, .int ren, .int flg, .int xpy]))) H locs := Y
  generalize (va_up f1 pr (.inr (7, [.ref b2, .ref sno, .int pth, .int (nI ver), .int prd, .ref l18, .ref l17, .ref l18, .ref l17, .int lif, .int ren, .int flg, .int xpy]))) = f24 at Y e25 e26 e27 e28 e29 e30 e31 e32 e33 e34 e35 e36 e37 e38 e39 e40 e41 e42 e43 e44 e45 hF46
  refine lv_aload_n X.1 X.2.1 d_Pr_rekey_16 rfl (lv_at hl 0 rfl) ?_
  refine lv_aload_n X.1 X.2.1 d_Pr_rekey_17 rfl (lv_at hl 1 rfl) ?_
  refine lv_bipush (v := (nI 18)) X.1 X.2.1 d_Pr_rekey_18 (by decide) ?_
  refine lv_aload_n X.1 X.2.1 d_Pr_rekey_20 rfl (lv_at hl 0 rfl) ?_
  refine q_get X.1 X.2.1 X.2.2.1 i_Pr X.2.2.2.1 X.2.2.2.2 Y m_pr e25 rfl 0 (by decide) (X.2.2.1 _ lk_Pr_14) (fun _ h9 => h9) rfl d_Pr_rekey_21 ?_
  refine lv_aload_n X.1 X.2.1 d_Pr_rekey_24 rfl (lv_at hl 2 rfl) ?_
  refine lv_iload_n X.1 X.2.1 d_Pr_rekey_25 rfl (lv_at hl 3 rfl) ?_
  refine lv_iload X.1 X.2.1 d_Pr_rekey_26 (lv_at hl 4 rfl) ?_
  refine x_r (x_runV (As := [.int (nI 18), .ref b2, .ref b3, .int (nI st0), .int a4]) (rest := [.ref pr]) (n := 5) X Y hml hl.1 (c_Va_passwordKey18 l D E T L f24 H.size (st0) (a4) (N) (M) (M3) v ho wd bl hst inn out mac o tw ke sta mo tu b r b2 r2 b3 r3 txo dro se coo deo un kp (fl) (rd) (n) (n3) (n5) (now) (ssz) (cat) (crw) (tot) g_wd g_bl g_hst g_inn g_out g_mac g_tw g_ke g_sta g_mo g_tu g_r g_r2 g_r3 m_v m_ho m_wd m_bl m_hst m_inn m_out m_mac m_o m_tw m_ke m_sta m_mo m_tu m_b m_r m_b2 m_r2 m_b3 m_r3 e26 e27 e28 e29 e30 e31 e32 e33 e34 e35 e36 e37 e38 e39 e40 e41 e42 e43 e44 e45 f_bl f_mac f_tw f_ke f_sta f_mo f_tu f_r f_r2 f_r3 ap_wd_bl ap_wd_hst ap_wd_inn ap_wd_out ap_wd_mac ap_wd_tw ap_wd_ke ap_wd_sta ap_wd_mo ap_wd_tu ap_wd_r ap_wd_r2 ap_wd_r3 ap_bl_hst ap_bl_inn ap_bl_out ap_bl_mac ap_bl_tw ap_bl_ke ap_bl_sta ap_bl_mo ap_bl_tu ap_bl_r ap_bl_r2 ap_bl_r3 ap_hst_inn ap_hst_out ap_hst_mac ap_hst_tw ap_hst_ke ap_hst_sta ap_hst_mo ap_hst_tu ap_hst_r ap_hst_r2 ap_hst_r3 ap_inn_out ap_inn_mac ap_inn_tw ap_inn_ke ap_inn_sta ap_inn_mo ap_inn_tu ap_inn_r ap_inn_r2 ap_inn_r3 ap_out_mac ap_out_tw ap_out_ke ap_out_sta ap_out_mo ap_out_tu ap_out_r ap_out_r2 ap_out_r3 ap_mac_tw ap_mac_ke ap_mac_sta ap_mac_mo ap_mac_tu ap_mac_r ap_mac_r2 ap_mac_r3 ap_tw_ke ap_tw_sta ap_tw_mo ap_tw_tu ap_tw_r ap_tw_r2 ap_tw_r3 ap_ke_sta ap_ke_mo ap_ke_tu ap_ke_r ap_ke_r2 ap_ke_r3 ap_sta_mo ap_sta_tu ap_sta_r ap_sta_r2 ap_sta_r3 ap_mo_tu ap_mo_r ap_mo_r2 ap_mo_r3 ap_tu_r ap_tu_r2 ap_tu_r3 ap_b_b2 ap_b_b3 ap_r_r2 ap_r_r3 ap_b2_b3 ap_r2_r3 (by omega) (by omega) (by omega) (by omega) (by omega) (by omega) (by omega) (by omega) (by omega)) (ok_k X Y hA KS KR) m_v e26 rfl kl_Pr_Va_passwordKey ks_Va_passwordKey kx_Va_passwordKey ki_Va_passwordKey ini_Va ⟨rfl, rfl⟩ hd_Va_passwordKey ⟨by decide, by decide⟩ rfl (Nat.le_of_ble_eq_true rfl) d_Pr_rekey_28 ⟨(show 0 + 1 ≤ 2 by omega), (show 0 + (32) ≤ (48) by omega)⟩) X Y hA (fun r47 u H locs hp Y => ?_)
  obtain ⟨L49, f48⟩ := u
  obtain ⟨eL51, hF50, n53, n54, n55, v56, g57, g58, g59, g60, g61, g62, g63, g64, g65, g66, g67, g68, m69, nl70, hg71, hg72, hg73, hg74, hg75, hg76, hg77, hg78, h79, h80, h81, e82, e83, e84, e85, e86, e87, e88, e89, e90, e91, e92, e93, e94, e95, e96⟩ := hp
  dsimp only at eL51 hF50 m69 e82 e83 e84 e85 e86 e87 e88 e89 e90 e91 e92 e93 e94 e95 e96 Y
  have e97 : f48 pr = .inr (7, [.ref b2, .ref sno, .int pth, .int (nI ver), .int prd, .ref l18, .ref l17, .ref l18, .ref l17, .int lif, .int ren, .int flg, .int xpy]) := (hF50 pr m_pr (q_tag e25 e27 (show (7 : Nat) ≠ 6 by decide)) (q_tag e25 e28 (show (7 : Nat) ≠ 1000 by decide)) (q_tag e25 e29 (show (7 : Nat) ≠ 1000 by decide)) (q_tag e25 e30 (show (7 : Nat) ≠ 1000 by decide)) (q_tag e25 e33 (show (7 : Nat) ≠ 1000 by decide)) (q_tag e25 e31 (show (7 : Nat) ≠ 1000 by decide)) (q_tag e25 e32 (show (7 : Nat) ≠ 1000 by decide)) (q_tag e25 e34 (show (7 : Nat) ≠ 1 by decide)) (q_tag e25 e36 (show (7 : Nat) ≠ 1000 by decide)) (q_tag e25 e37 (show (7 : Nat) ≠ 1000 by decide)) (q_tag e25 e38 (show (7 : Nat) ≠ 1000 by decide)) (q_tag e25 e39 (show (7 : Nat) ≠ 1000 by decide)) (q_tag e25 e40 (show (7 : Nat) ≠ 3 by decide)) (q_tag e25 e41 (show (7 : Nat) ≠ 1000 by decide))).trans e25
  have e98 : f48 v = .inr (11, [.int now, .ref txo, .ref dro, .ref ho, .ref o, .ref se, .int ssz, .ref coo, .int cat, .int crw, .ref deo, .ref tu, .ref b]) := (hF50 v m_v (q_tag e26 e27 (show (11 : Nat) ≠ 6 by decide)) (q_tag e26 e28 (show (11 : Nat) ≠ 1000 by decide)) (q_tag e26 e29 (show (11 : Nat) ≠ 1000 by decide)) (q_tag e26 e30 (show (11 : Nat) ≠ 1000 by decide)) (q_tag e26 e33 (show (11 : Nat) ≠ 1000 by decide)) (q_tag e26 e31 (show (11 : Nat) ≠ 1000 by decide)) (q_tag e26 e32 (show (11 : Nat) ≠ 1000 by decide)) (q_tag e26 e34 (show (11 : Nat) ≠ 1 by decide)) (q_tag e26 e36 (show (11 : Nat) ≠ 1000 by decide)) (q_tag e26 e37 (show (11 : Nat) ≠ 1000 by decide)) (q_tag e26 e38 (show (11 : Nat) ≠ 1000 by decide)) (q_tag e26 e39 (show (11 : Nat) ≠ 1000 by decide)) (q_tag e26 e40 (show (11 : Nat) ≠ 3 by decide)) (q_tag e26 e41 (show (11 : Nat) ≠ 1000 by decide))).trans e26
  have e99 : f48 tw = .inl (E.2.1, 256, .inl g_tw) := (hF50 tw m_tw (q_tag e35 e27 (show (1000 : Nat) ≠ 6 by decide)) ap_wd_tw.symm ap_bl_tw.symm ap_hst_tw.symm ap_mac_tw.symm ap_inn_tw.symm ap_out_tw.symm (q_tag e35 e34 (show (1000 : Nat) ≠ 1 by decide)) ap_tw_ke ap_tw_sta ap_tw_mo ap_tw_tu (q_tag e35 e40 (show (1000 : Nat) ≠ 3 by decide)) ap_tw_r).trans e35
  have e100 : f48 b2 = .inr (3, [.ref r2, .int (nI n3)]) := (hF50 b2 m_b2 (q_tag e42 e27 (show (3 : Nat) ≠ 6 by decide)) (q_tag e42 e28 (show (3 : Nat) ≠ 1000 by decide)) (q_tag e42 e29 (show (3 : Nat) ≠ 1000 by decide)) (q_tag e42 e30 (show (3 : Nat) ≠ 1000 by decide)) (q_tag e42 e33 (show (3 : Nat) ≠ 1000 by decide)) (q_tag e42 e31 (show (3 : Nat) ≠ 1000 by decide)) (q_tag e42 e32 (show (3 : Nat) ≠ 1000 by decide)) (q_tag e42 e34 (show (3 : Nat) ≠ 1 by decide)) (q_tag e42 e36 (show (3 : Nat) ≠ 1000 by decide)) (q_tag e42 e37 (show (3 : Nat) ≠ 1000 by decide)) (q_tag e42 e38 (show (3 : Nat) ≠ 1000 by decide)) (q_tag e42 e39 (show (3 : Nat) ≠ 1000 by decide)) ap_b_b2.symm (q_tag e42 e41 (show (3 : Nat) ≠ 1000 by decide))).trans e42
  have e101 : f48 r2 = .inl (E.1, M, .inl g_r2) := (hF50 r2 m_r2 (q_tag e43 e27 (show (1000 : Nat) ≠ 6 by decide)) ap_wd_r2.symm ap_bl_r2.symm ap_hst_r2.symm ap_mac_r2.symm ap_inn_r2.symm ap_out_r2.symm (q_tag e43 e34 (show (1000 : Nat) ≠ 1 by decide)) ap_ke_r2.symm ap_sta_r2.symm ap_mo_r2.symm ap_tu_r2.symm (q_tag e43 e40 (show (1000 : Nat) ≠ 3 by decide)) ap_r_r2.symm).trans e43
  have e102 : f48 b3 = .inr (3, [.ref r3, .int (nI n5)]) := (hF50 b3 m_b3 (q_tag e44 e27 (show (3 : Nat) ≠ 6 by decide)) (q_tag e44 e28 (show (3 : Nat) ≠ 1000 by decide)) (q_tag e44 e29 (show (3 : Nat) ≠ 1000 by decide)) (q_tag e44 e30 (show (3 : Nat) ≠ 1000 by decide)) (q_tag e44 e33 (show (3 : Nat) ≠ 1000 by decide)) (q_tag e44 e31 (show (3 : Nat) ≠ 1000 by decide)) (q_tag e44 e32 (show (3 : Nat) ≠ 1000 by decide)) (q_tag e44 e34 (show (3 : Nat) ≠ 1 by decide)) (q_tag e44 e36 (show (3 : Nat) ≠ 1000 by decide)) (q_tag e44 e37 (show (3 : Nat) ≠ 1000 by decide)) (q_tag e44 e38 (show (3 : Nat) ≠ 1000 by decide)) (q_tag e44 e39 (show (3 : Nat) ≠ 1000 by decide)) ap_b_b3.symm (q_tag e44 e41 (show (3 : Nat) ≠ 1000 by decide))).trans e44
  have e103 : f48 r3 = .inl (E.1, M3, .inl g_r3) := (hF50 r3 m_r3 (q_tag e45 e27 (show (1000 : Nat) ≠ 6 by decide)) ap_wd_r3.symm ap_bl_r3.symm ap_hst_r3.symm ap_mac_r3.symm ap_inn_r3.symm ap_out_r3.symm (q_tag e45 e34 (show (1000 : Nat) ≠ 1 by decide)) ap_ke_r3.symm ap_sta_r3.symm ap_mo_r3.symm ap_tu_r3.symm (q_tag e45 e40 (show (1000 : Nat) ≠ 3 by decide)) ap_r_r3.symm).trans e45
  have hF104 : ∀ x, x ∈ L → x ≠ pr → x ≠ ho → x ≠ wd → x ≠ bl → x ≠ hst → x ≠ mac → x ≠ inn → x ≠ out → x ≠ o → x ≠ ke → x ≠ sta → x ≠ mo → x ≠ tu → x ≠ b → x ≠ r → f48 x = f x := fun x hx h0 h1 h2 h3 h4 h5 h6 h7 h8 h9 h10 h11 h12 h13 h14 => (hF50 x hx h1 h2 h3 h4 h5 h6 h7 h8 h9 h10 h11 h12 h13 h14).trans (hF46 x hx h0 h1 h2 h3 h4 h5 h6 h7 h8 h9 h10 h11 h12 h13 h14)
  have s105 : ∀ x, x ∈ L → x ∈ L49 := fun x hx => eL51 x hx
  have nl106 : r47 ∉ L := fun h9 => nl70 h9
  have m107 : pr ∈ L49 := eL51 _ m_pr
  have m108 : v ∈ L49 := eL51 _ m_v
  have m109 : ho ∈ L49 := eL51 _ m_ho
  have m110 : wd ∈ L49 := eL51 _ m_wd
  have m111 : bl ∈ L49 := eL51 _ m_bl
  have m112 : hst ∈ L49 := eL51 _ m_hst
  have m113 : inn ∈ L49 := eL51 _ m_inn
  have m114 : out ∈ L49 := eL51 _ m_out
  have m115 : mac ∈ L49 := eL51 _ m_mac
  have m116 : o ∈ L49 := eL51 _ m_o
  have m117 : tw ∈ L49 := eL51 _ m_tw
  have m118 : ke ∈ L49 := eL51 _ m_ke
  have m119 : sta ∈ L49 := eL51 _ m_sta
  have m120 : mo ∈ L49 := eL51 _ m_mo
  have m121 : tu ∈ L49 := eL51 _ m_tu
  have m122 : b ∈ L49 := eL51 _ m_b
  have m123 : r ∈ L49 := eL51 _ m_r
  have m124 : b2 ∈ L49 := eL51 _ m_b2
  have m125 : r2 ∈ L49 := eL51 _ m_r2
  have m126 : b3 ∈ L49 := eL51 _ m_b3
  have m127 : r3 ∈ L49 := eL51 _ m_r3
  refine q_put X.1 X.2.1 X.2.2.1 i_Pr t_Pr t_Pr_ok n_Pr X.2.2.2.1 X.2.2.2.2 Y m107 e97 rfl 5 (by decide) (X.2.2.1 _ lk_Pr_31) (fun _ h9 => h9) rfl (t_Pr_ok 5 (by decide)) rfl rfl (Nat.le_of_ble_eq_true rfl) d_Pr_rekey_31 (fun H locs Y => ?_)
  have e129 : (va_up f48 pr (.inr (7, [.ref b2, .ref sno, .int pth, .int (nI ver), .int prd, .ref r47, .ref l17, .ref l18, .ref l17, .int lif, .int ren, .int flg, .int xpy]))) pr = .inr (7, [.ref b2, .ref sno, .int pth, .int (nI ver), .int prd, .ref r47, .ref l17, .ref l18, .ref l17, .int lif, .int ren, .int flg, .int xpy]) := q_up
  have e130 : (va_up f48 pr (.inr (7, [.ref b2, .ref sno, .int pth, .int (nI ver), .int prd, .ref r47, .ref l17, .ref l18, .ref l17, .int lif, .int ren, .int flg, .int xpy]))) v = .inr (11, [.int now, .ref txo, .ref dro, .ref ho, .ref o, .ref se, .int ssz, .ref coo, .int cat, .int crw, .ref deo, .ref tu, .ref b]) := (q_ne (q_tag e98 e97 (show (11 : Nat) ≠ 7 by decide))).trans e98
  have e131 : (va_up f48 pr (.inr (7, [.ref b2, .ref sno, .int pth, .int (nI ver), .int prd, .ref r47, .ref l17, .ref l18, .ref l17, .int lif, .int ren, .int flg, .int xpy]))) ho = .inr (6, [.ref wd, .ref bl, .ref hst, .ref inn, .ref out, .int (nI n53), .int v56, .ref mac]) := (q_ne (q_tag e82 e97 (show (6 : Nat) ≠ 7 by decide))).trans e82
  have e132 : (va_up f48 pr (.inr (7, [.ref b2, .ref sno, .int pth, .int (nI ver), .int prd, .ref r47, .ref l17, .ref l18, .ref l17, .int lif, .int ren, .int flg, .int xpy]))) wd = .inl (E.2.1, 80, .inl g57) := (q_ne (q_tag e83 e97 (show (1000 : Nat) ≠ 7 by decide))).trans e83
  have e133 : (va_up f48 pr (.inr (7, [.ref b2, .ref sno, .int pth, .int (nI ver), .int prd, .ref r47, .ref l17, .ref l18, .ref l17, .int lif, .int ren, .int flg, .int xpy]))) bl = .inl (E.1, 64, .inl g58) := (q_ne (q_tag e84 e97 (show (1000 : Nat) ≠ 7 by decide))).trans e84
  have e134 : (va_up f48 pr (.inr (7, [.ref b2, .ref sno, .int pth, .int (nI ver), .int prd, .ref r47, .ref l17, .ref l18, .ref l17, .int lif, .int ren, .int flg, .int xpy]))) hst = .inl (E.2.1, 5, .inl g59) := (q_ne (q_tag e85 e97 (show (1000 : Nat) ≠ 7 by decide))).trans e85
  have e135 : (va_up f48 pr (.inr (7, [.ref b2, .ref sno, .int pth, .int (nI ver), .int prd, .ref r47, .ref l17, .ref l18, .ref l17, .int lif, .int ren, .int flg, .int xpy]))) inn = .inl (E.2.1, 5, .inl g61) := (q_ne (q_tag e87 e97 (show (1000 : Nat) ≠ 7 by decide))).trans e87
  have e136 : (va_up f48 pr (.inr (7, [.ref b2, .ref sno, .int pth, .int (nI ver), .int prd, .ref r47, .ref l17, .ref l18, .ref l17, .int lif, .int ren, .int flg, .int xpy]))) out = .inl (E.2.1, 5, .inl g62) := (q_ne (q_tag e88 e97 (show (1000 : Nat) ≠ 7 by decide))).trans e88
  have e137 : (va_up f48 pr (.inr (7, [.ref b2, .ref sno, .int pth, .int (nI ver), .int prd, .ref r47, .ref l17, .ref l18, .ref l17, .int lif, .int ren, .int flg, .int xpy]))) mac = .inl (E.1, 20, .inl g60) := (q_ne (q_tag e86 e97 (show (1000 : Nat) ≠ 7 by decide))).trans e86
  have e138 : (va_up f48 pr (.inr (7, [.ref b2, .ref sno, .int pth, .int (nI ver), .int prd, .ref r47, .ref l17, .ref l18, .ref l17, .int lif, .int ren, .int flg, .int xpy]))) o = .inr (1, [.ref un, .ref tw, .ref ke, .int (nI n54), .ref sta, .ref mo, .ref kp]) := (q_ne (q_tag e89 e97 (show (1 : Nat) ≠ 7 by decide))).trans e89
  have e139 : (va_up f48 pr (.inr (7, [.ref b2, .ref sno, .int pth, .int (nI ver), .int prd, .ref r47, .ref l17, .ref l18, .ref l17, .int lif, .int ren, .int flg, .int xpy]))) tw = .inl (E.2.1, 256, .inl g_tw) := (q_ne (q_tag e99 e97 (show (1000 : Nat) ≠ 7 by decide))).trans e99
  have e140 : (va_up f48 pr (.inr (7, [.ref b2, .ref sno, .int pth, .int (nI ver), .int prd, .ref r47, .ref l17, .ref l18, .ref l17, .int lif, .int ren, .int flg, .int xpy]))) ke = .inl (E.2.1, 240, .inl g63) := (q_ne (q_tag e90 e97 (show (1000 : Nat) ≠ 7 by decide))).trans e90
  have e141 : (va_up f48 pr (.inr (7, [.ref b2, .ref sno, .int pth, .int (nI ver), .int prd, .ref r47, .ref l17, .ref l18, .ref l17, .int lif, .int ren, .int flg, .int xpy]))) sta = .inl (E.2.1, 16, .inl g64) := (q_ne (q_tag e91 e97 (show (1000 : Nat) ≠ 7 by decide))).trans e91
  have e142 : (va_up f48 pr (.inr (7, [.ref b2, .ref sno, .int pth, .int (nI ver), .int prd, .ref r47, .ref l17, .ref l18, .ref l17, .int lif, .int ren, .int flg, .int xpy]))) mo = .inl (E.2.1, 16, .inl g65) := (q_ne (q_tag e92 e97 (show (1000 : Nat) ≠ 7 by decide))).trans e92
  have e143 : (va_up f48 pr (.inr (7, [.ref b2, .ref sno, .int pth, .int (nI ver), .int prd, .ref r47, .ref l17, .ref l18, .ref l17, .int lif, .int ren, .int flg, .int xpy]))) tu = .inl (E.1, 20, .inl g66) := (q_ne (q_tag e93 e97 (show (1000 : Nat) ≠ 7 by decide))).trans e93
  have e144 : (va_up f48 pr (.inr (7, [.ref b2, .ref sno, .int pth, .int (nI ver), .int prd, .ref r47, .ref l17, .ref l18, .ref l17, .int lif, .int ren, .int flg, .int xpy]))) b = .inr (3, [.ref r, .int (nI n55)]) := (q_ne (q_tag e94 e97 (show (3 : Nat) ≠ 7 by decide))).trans e94
  have e145 : (va_up f48 pr (.inr (7, [.ref b2, .ref sno, .int pth, .int (nI ver), .int prd, .ref r47, .ref l17, .ref l18, .ref l17, .int lif, .int ren, .int flg, .int xpy]))) r = .inl (E.1, N, .inl g67) := (q_ne (q_tag e95 e97 (show (1000 : Nat) ≠ 7 by decide))).trans e95
  have e146 : (va_up f48 pr (.inr (7, [.ref b2, .ref sno, .int pth, .int (nI ver), .int prd, .ref r47, .ref l17, .ref l18, .ref l17, .int lif, .int ren, .int flg, .int xpy]))) b2 = .inr (3, [.ref r2, .int (nI n3)]) := (q_ne (q_tag e100 e97 (show (3 : Nat) ≠ 7 by decide))).trans e100
  have e147 : (va_up f48 pr (.inr (7, [.ref b2, .ref sno, .int pth, .int (nI ver), .int prd, .ref r47, .ref l17, .ref l18, .ref l17, .int lif, .int ren, .int flg, .int xpy]))) r2 = .inl (E.1, M, .inl g_r2) := (q_ne (q_tag e101 e97 (show (1000 : Nat) ≠ 7 by decide))).trans e101
  have e148 : (va_up f48 pr (.inr (7, [.ref b2, .ref sno, .int pth, .int (nI ver), .int prd, .ref r47, .ref l17, .ref l18, .ref l17, .int lif, .int ren, .int flg, .int xpy]))) b3 = .inr (3, [.ref r3, .int (nI n5)]) := (q_ne (q_tag e102 e97 (show (3 : Nat) ≠ 7 by decide))).trans e102
  have e149 : (va_up f48 pr (.inr (7, [.ref b2, .ref sno, .int pth, .int (nI ver), .int prd, .ref r47, .ref l17, .ref l18, .ref l17, .int lif, .int ren, .int flg, .int xpy]))) r3 = .inl (E.1, M3, .inl g_r3) := (q_ne (q_tag e103 e97 (show (1000 : Nat) ≠ 7 by decide))).trans e103
  have e150 : (va_up f48 pr (.inr (7, [.ref b2, .ref sno, .int pth, .int (nI ver), .int prd, .ref r47, .ref l17, .ref l18, .ref l17, .int lif, .int ren, .int flg, .int xpy]))) r47 = .inl (E.1, 32, .inl g68) := (q_ne (q_tag e96 e97 (show (1000 : Nat) ≠ 7 by decide))).trans e96
  have hF151 : ∀ x, x ∈ L → x ≠ pr → x ≠ ho → x ≠ wd → x ≠ bl → x ≠ hst → x ≠ mac → x ≠ inn → x ≠ out → x ≠ o → x ≠ ke → x ≠ sta → x ≠ mo → x ≠ tu → x ≠ b → x ≠ r → (va_up f48 pr (.inr (7, [.ref b2, .ref sno, .int pth, .int (nI ver), .int prd, .ref r47, .ref l17, .ref l18, .ref l17, .int lif, .int ren, .int flg, .int xpy]))) x = f x := fun x hx h0 h1 h2 h3 h4 h5 h6 h7 h8 h9 h10 h11 h12 h13 h14 => (q_ne h0).trans (hF104 x hx h0 h1 h2 h3 h4 h5 h6 h7 h8 h9 h10 h11 h12 h13 h14)
  have Y : pH D cCl (pA L sz) s.heap L49 (va_up f48 pr (.inr (7, [.ref b2, .ref sno, .int pth, .int (nI ver), .int prd, .ref r47, .ref l17, .ref l18, .ref l17, .int lif, .int ren, .int flg, .int xpy]))) H locs := Y
  generalize (va_up f48 pr (.inr (7, [.ref b2, .ref sno, .int pth, .int (nI ver), .int prd, .ref r47, .ref l17, .ref l18, .ref l17, .int lif, .int ren, .int flg, .int xpy]))) = f128 at Y e129 e130 e131 e132 e133 e134 e135 e136 e137 e138 e139 e140 e141 e142 e143 e144 e145 e146 e147 e148 e149 e150 hF151
  refine lv_aload_n X.1 X.2.1 d_Pr_rekey_34 rfl (lv_at hl 0 rfl) ?_
  refine lv_aload_n X.1 X.2.1 d_Pr_rekey_35 rfl (lv_at hl 1 rfl) ?_
  refine lv_bipush (v := (nI 17)) X.1 X.2.1 d_Pr_rekey_36 (by decide) ?_
  refine lv_aload_n X.1 X.2.1 d_Pr_rekey_38 rfl (lv_at hl 0 rfl) ?_
  refine q_get X.1 X.2.1 X.2.2.1 i_Pr X.2.2.2.1 X.2.2.2.2 Y m107 e129 rfl 0 (by decide) (X.2.2.1 _ lk_Pr_14) (fun _ h9 => h9) rfl d_Pr_rekey_39 ?_
  refine lv_aload_n X.1 X.2.1 d_Pr_rekey_42 rfl (lv_at hl 2 rfl) ?_
  refine lv_iload_n X.1 X.2.1 d_Pr_rekey_43 rfl (lv_at hl 3 rfl) ?_
  refine lv_iload X.1 X.2.1 d_Pr_rekey_44 (lv_at hl 4 rfl) ?_
  refine x_r (x_runV (As := [.int (nI 17), .ref b2, .ref b3, .int (nI st0), .int a4]) (rest := [.ref pr]) (n := 5) X Y hml hl.1 (c_Va_passwordKey17 l D E T L49 f128 H.size (st0) (a4) (N) (M) (M3) v ho wd bl hst inn out mac o tw ke sta mo tu b r b2 r2 b3 r3 txo dro se coo deo un kp (n53) (n54) (n55) (n3) (n5) (now) (ssz) (cat) (crw) (v56) g57 g58 g59 g61 g62 g60 g_tw g63 g64 g65 g66 g67 g_r2 g_r3 m108 m109 m110 m111 m112 m113 m114 m115 m116 m117 m118 m119 m120 m121 m122 m123 m124 m125 m126 m127 e130 e131 e132 e133 e134 e135 e136 e137 e138 e139 e140 e141 e142 e143 e144 e145 e146 e147 e148 e149 hg71 hg72 f_tw hg73 hg74 hg75 hg76 hg77 f_r2 f_r3 ap_wd_bl ap_wd_hst ap_wd_inn ap_wd_out ap_wd_mac ap_wd_tw ap_wd_ke ap_wd_sta ap_wd_mo ap_wd_tu ap_wd_r ap_wd_r2 ap_wd_r3 ap_bl_hst ap_bl_inn ap_bl_out ap_bl_mac ap_bl_tw ap_bl_ke ap_bl_sta ap_bl_mo ap_bl_tu ap_bl_r ap_bl_r2 ap_bl_r3 ap_hst_inn ap_hst_out ap_hst_mac ap_hst_tw ap_hst_ke ap_hst_sta ap_hst_mo ap_hst_tu ap_hst_r ap_hst_r2 ap_hst_r3 ap_inn_out ap_inn_mac ap_inn_tw ap_inn_ke ap_inn_sta ap_inn_mo ap_inn_tu ap_inn_r ap_inn_r2 ap_inn_r3 ap_out_mac ap_out_tw ap_out_ke ap_out_sta ap_out_mo ap_out_tu ap_out_r ap_out_r2 ap_out_r3 ap_mac_tw ap_mac_ke ap_mac_sta ap_mac_mo ap_mac_tu ap_mac_r ap_mac_r2 ap_mac_r3 ap_tw_ke ap_tw_sta ap_tw_mo ap_tw_tu ap_tw_r ap_tw_r2 ap_tw_r3 ap_ke_sta ap_ke_mo ap_ke_tu ap_ke_r ap_ke_r2 ap_ke_r3 ap_sta_mo ap_sta_tu ap_sta_r ap_sta_r2 ap_sta_r3 ap_mo_tu ap_mo_r ap_mo_r2 ap_mo_r3 ap_tu_r ap_tu_r2 ap_tu_r3 ap_b_b2 ap_b_b3 ap_r_r2 ap_r_r3 ap_b2_b3 ap_r2_r3 (by omega) (by omega) (by omega) (by omega) (by omega) (by omega) (by omega) (by omega) (by omega)) (ok_k X Y hA KS KR) m108 e130 rfl kl_Pr_Va_passwordKey ks_Va_passwordKey kx_Va_passwordKey ki_Va_passwordKey ini_Va ⟨rfl, rfl⟩ hd_Va_passwordKey ⟨by decide, by decide⟩ rfl (Nat.le_of_ble_eq_true rfl) d_Pr_rekey_46 ⟨(show 1 + 1 ≤ 2 by omega), (show 32 + (16) ≤ (48) by omega)⟩) X Y hA (fun r152 u H locs hp Y => ?_)
  obtain ⟨L154, f153⟩ := u
  obtain ⟨eL156, hF155, n158, n159, n160, v161, g162, g163, g164, g165, g166, g167, g168, g169, g170, g171, g172, g173, m174, nl175, hg176, hg177, hg178, hg179, hg180, hg181, hg182, hg183, h184, h185, h186, e187, e188, e189, e190, e191, e192, e193, e194, e195, e196, e197, e198, e199, e200, e201⟩ := hp
  dsimp only at eL156 hF155 m174 e187 e188 e189 e190 e191 e192 e193 e194 e195 e196 e197 e198 e199 e200 e201 Y
  have e202 : f153 pr = .inr (7, [.ref b2, .ref sno, .int pth, .int (nI ver), .int prd, .ref r47, .ref l17, .ref l18, .ref l17, .int lif, .int ren, .int flg, .int xpy]) := (hF155 pr m107 (q_tag e129 e131 (show (7 : Nat) ≠ 6 by decide)) (q_tag e129 e132 (show (7 : Nat) ≠ 1000 by decide)) (q_tag e129 e133 (show (7 : Nat) ≠ 1000 by decide)) (q_tag e129 e134 (show (7 : Nat) ≠ 1000 by decide)) (q_tag e129 e137 (show (7 : Nat) ≠ 1000 by decide)) (q_tag e129 e135 (show (7 : Nat) ≠ 1000 by decide)) (q_tag e129 e136 (show (7 : Nat) ≠ 1000 by decide)) (q_tag e129 e138 (show (7 : Nat) ≠ 1 by decide)) (q_tag e129 e140 (show (7 : Nat) ≠ 1000 by decide)) (q_tag e129 e141 (show (7 : Nat) ≠ 1000 by decide)) (q_tag e129 e142 (show (7 : Nat) ≠ 1000 by decide)) (q_tag e129 e143 (show (7 : Nat) ≠ 1000 by decide)) (q_tag e129 e144 (show (7 : Nat) ≠ 3 by decide)) (q_tag e129 e145 (show (7 : Nat) ≠ 1000 by decide))).trans e129
  have e203 : f153 v = .inr (11, [.int now, .ref txo, .ref dro, .ref ho, .ref o, .ref se, .int ssz, .ref coo, .int cat, .int crw, .ref deo, .ref tu, .ref b]) := (hF155 v m108 (q_tag e130 e131 (show (11 : Nat) ≠ 6 by decide)) (q_tag e130 e132 (show (11 : Nat) ≠ 1000 by decide)) (q_tag e130 e133 (show (11 : Nat) ≠ 1000 by decide)) (q_tag e130 e134 (show (11 : Nat) ≠ 1000 by decide)) (q_tag e130 e137 (show (11 : Nat) ≠ 1000 by decide)) (q_tag e130 e135 (show (11 : Nat) ≠ 1000 by decide)) (q_tag e130 e136 (show (11 : Nat) ≠ 1000 by decide)) (q_tag e130 e138 (show (11 : Nat) ≠ 1 by decide)) (q_tag e130 e140 (show (11 : Nat) ≠ 1000 by decide)) (q_tag e130 e141 (show (11 : Nat) ≠ 1000 by decide)) (q_tag e130 e142 (show (11 : Nat) ≠ 1000 by decide)) (q_tag e130 e143 (show (11 : Nat) ≠ 1000 by decide)) (q_tag e130 e144 (show (11 : Nat) ≠ 3 by decide)) (q_tag e130 e145 (show (11 : Nat) ≠ 1000 by decide))).trans e130
  have e204 : f153 tw = .inl (E.2.1, 256, .inl g_tw) := (hF155 tw m117 (q_tag e139 e131 (show (1000 : Nat) ≠ 6 by decide)) ap_wd_tw.symm ap_bl_tw.symm ap_hst_tw.symm ap_mac_tw.symm ap_inn_tw.symm ap_out_tw.symm (q_tag e139 e138 (show (1000 : Nat) ≠ 1 by decide)) ap_tw_ke ap_tw_sta ap_tw_mo ap_tw_tu (q_tag e139 e144 (show (1000 : Nat) ≠ 3 by decide)) ap_tw_r).trans e139
  have e205 : f153 b2 = .inr (3, [.ref r2, .int (nI n3)]) := (hF155 b2 m124 (q_tag e146 e131 (show (3 : Nat) ≠ 6 by decide)) (q_tag e146 e132 (show (3 : Nat) ≠ 1000 by decide)) (q_tag e146 e133 (show (3 : Nat) ≠ 1000 by decide)) (q_tag e146 e134 (show (3 : Nat) ≠ 1000 by decide)) (q_tag e146 e137 (show (3 : Nat) ≠ 1000 by decide)) (q_tag e146 e135 (show (3 : Nat) ≠ 1000 by decide)) (q_tag e146 e136 (show (3 : Nat) ≠ 1000 by decide)) (q_tag e146 e138 (show (3 : Nat) ≠ 1 by decide)) (q_tag e146 e140 (show (3 : Nat) ≠ 1000 by decide)) (q_tag e146 e141 (show (3 : Nat) ≠ 1000 by decide)) (q_tag e146 e142 (show (3 : Nat) ≠ 1000 by decide)) (q_tag e146 e143 (show (3 : Nat) ≠ 1000 by decide)) ap_b_b2.symm (q_tag e146 e145 (show (3 : Nat) ≠ 1000 by decide))).trans e146
  have e206 : f153 r2 = .inl (E.1, M, .inl g_r2) := (hF155 r2 m125 (q_tag e147 e131 (show (1000 : Nat) ≠ 6 by decide)) ap_wd_r2.symm ap_bl_r2.symm ap_hst_r2.symm ap_mac_r2.symm ap_inn_r2.symm ap_out_r2.symm (q_tag e147 e138 (show (1000 : Nat) ≠ 1 by decide)) ap_ke_r2.symm ap_sta_r2.symm ap_mo_r2.symm ap_tu_r2.symm (q_tag e147 e144 (show (1000 : Nat) ≠ 3 by decide)) ap_r_r2.symm).trans e147
  have e207 : f153 b3 = .inr (3, [.ref r3, .int (nI n5)]) := (hF155 b3 m126 (q_tag e148 e131 (show (3 : Nat) ≠ 6 by decide)) (q_tag e148 e132 (show (3 : Nat) ≠ 1000 by decide)) (q_tag e148 e133 (show (3 : Nat) ≠ 1000 by decide)) (q_tag e148 e134 (show (3 : Nat) ≠ 1000 by decide)) (q_tag e148 e137 (show (3 : Nat) ≠ 1000 by decide)) (q_tag e148 e135 (show (3 : Nat) ≠ 1000 by decide)) (q_tag e148 e136 (show (3 : Nat) ≠ 1000 by decide)) (q_tag e148 e138 (show (3 : Nat) ≠ 1 by decide)) (q_tag e148 e140 (show (3 : Nat) ≠ 1000 by decide)) (q_tag e148 e141 (show (3 : Nat) ≠ 1000 by decide)) (q_tag e148 e142 (show (3 : Nat) ≠ 1000 by decide)) (q_tag e148 e143 (show (3 : Nat) ≠ 1000 by decide)) ap_b_b3.symm (q_tag e148 e145 (show (3 : Nat) ≠ 1000 by decide))).trans e148
  have e208 : f153 r3 = .inl (E.1, M3, .inl g_r3) := (hF155 r3 m127 (q_tag e149 e131 (show (1000 : Nat) ≠ 6 by decide)) ap_wd_r3.symm ap_bl_r3.symm ap_hst_r3.symm ap_mac_r3.symm ap_inn_r3.symm ap_out_r3.symm (q_tag e149 e138 (show (1000 : Nat) ≠ 1 by decide)) ap_ke_r3.symm ap_sta_r3.symm ap_mo_r3.symm ap_tu_r3.symm (q_tag e149 e144 (show (1000 : Nat) ≠ 3 by decide)) ap_r_r3.symm).trans e149
  have e209 : f153 r47 = .inl (E.1, 32, .inl g68) := (hF155 r47 m69 (q_tag e150 e131 (show (1000 : Nat) ≠ 6 by decide)) (ne_mem nl70 m_wd).symm (ne_mem nl70 m_bl).symm (ne_mem nl70 m_hst).symm (ne_mem nl70 m_mac).symm (ne_mem nl70 m_inn).symm (ne_mem nl70 m_out).symm (q_tag e150 e138 (show (1000 : Nat) ≠ 1 by decide)) (ne_mem nl70 m_ke).symm (ne_mem nl70 m_sta).symm (ne_mem nl70 m_mo).symm (ne_mem nl70 m_tu).symm (q_tag e150 e144 (show (1000 : Nat) ≠ 3 by decide)) (ne_mem nl70 m_r).symm).trans e150
  have hF210 : ∀ x, x ∈ L → x ≠ pr → x ≠ ho → x ≠ wd → x ≠ bl → x ≠ hst → x ≠ mac → x ≠ inn → x ≠ out → x ≠ o → x ≠ ke → x ≠ sta → x ≠ mo → x ≠ tu → x ≠ b → x ≠ r → f153 x = f x := fun x hx h0 h1 h2 h3 h4 h5 h6 h7 h8 h9 h10 h11 h12 h13 h14 => (hF155 x (s105 x hx) h1 h2 h3 h4 h5 h6 h7 h8 h9 h10 h11 h12 h13 h14).trans (hF151 x hx h0 h1 h2 h3 h4 h5 h6 h7 h8 h9 h10 h11 h12 h13 h14)
  have s211 : ∀ x, x ∈ L → x ∈ L154 := fun x hx => eL156 x (s105 x hx)
  have nl212 : r152 ∉ L := fun h9 => nl175 (s105 _ h9)
  have m213 : pr ∈ L154 := eL156 _ m107
  have m214 : v ∈ L154 := eL156 _ m108
  have m215 : ho ∈ L154 := eL156 _ m109
  have m216 : wd ∈ L154 := eL156 _ m110
  have m217 : bl ∈ L154 := eL156 _ m111
  have m218 : hst ∈ L154 := eL156 _ m112
  have m219 : inn ∈ L154 := eL156 _ m113
  have m220 : out ∈ L154 := eL156 _ m114
  have m221 : mac ∈ L154 := eL156 _ m115
  have m222 : o ∈ L154 := eL156 _ m116
  have m223 : tw ∈ L154 := eL156 _ m117
  have m224 : ke ∈ L154 := eL156 _ m118
  have m225 : sta ∈ L154 := eL156 _ m119
  have m226 : mo ∈ L154 := eL156 _ m120
  have m227 : tu ∈ L154 := eL156 _ m121
  have m228 : b ∈ L154 := eL156 _ m122
  have m229 : r ∈ L154 := eL156 _ m123
  have m230 : b2 ∈ L154 := eL156 _ m124
  have m231 : r2 ∈ L154 := eL156 _ m125
  have m232 : b3 ∈ L154 := eL156 _ m126
  have m233 : r3 ∈ L154 := eL156 _ m127
  have m234 : r47 ∈ L154 := eL156 _ m69
  refine q_put X.1 X.2.1 X.2.2.1 i_Pr t_Pr t_Pr_ok n_Pr X.2.2.2.1 X.2.2.2.2 Y m213 e202 rfl 6 (by decide) (X.2.2.1 _ lk_Pr_34) (fun _ h9 => h9) rfl (t_Pr_ok 6 (by decide)) rfl rfl (Nat.le_of_ble_eq_true rfl) d_Pr_rekey_49 (fun H locs Y => ?_)
  have e236 : (va_up f153 pr (.inr (7, [.ref b2, .ref sno, .int pth, .int (nI ver), .int prd, .ref r47, .ref r152, .ref l18, .ref l17, .int lif, .int ren, .int flg, .int xpy]))) pr = .inr (7, [.ref b2, .ref sno, .int pth, .int (nI ver), .int prd, .ref r47, .ref r152, .ref l18, .ref l17, .int lif, .int ren, .int flg, .int xpy]) := q_up
  have e237 : (va_up f153 pr (.inr (7, [.ref b2, .ref sno, .int pth, .int (nI ver), .int prd, .ref r47, .ref r152, .ref l18, .ref l17, .int lif, .int ren, .int flg, .int xpy]))) v = .inr (11, [.int now, .ref txo, .ref dro, .ref ho, .ref o, .ref se, .int ssz, .ref coo, .int cat, .int crw, .ref deo, .ref tu, .ref b]) := (q_ne (q_tag e203 e202 (show (11 : Nat) ≠ 7 by decide))).trans e203
  have e238 : (va_up f153 pr (.inr (7, [.ref b2, .ref sno, .int pth, .int (nI ver), .int prd, .ref r47, .ref r152, .ref l18, .ref l17, .int lif, .int ren, .int flg, .int xpy]))) ho = .inr (6, [.ref wd, .ref bl, .ref hst, .ref inn, .ref out, .int (nI n158), .int v161, .ref mac]) := (q_ne (q_tag e187 e202 (show (6 : Nat) ≠ 7 by decide))).trans e187
  have e239 : (va_up f153 pr (.inr (7, [.ref b2, .ref sno, .int pth, .int (nI ver), .int prd, .ref r47, .ref r152, .ref l18, .ref l17, .int lif, .int ren, .int flg, .int xpy]))) wd = .inl (E.2.1, 80, .inl g162) := (q_ne (q_tag e188 e202 (show (1000 : Nat) ≠ 7 by decide))).trans e188
  have e240 : (va_up f153 pr (.inr (7, [.ref b2, .ref sno, .int pth, .int (nI ver), .int prd, .ref r47, .ref r152, .ref l18, .ref l17, .int lif, .int ren, .int flg, .int xpy]))) bl = .inl (E.1, 64, .inl g163) := (q_ne (q_tag e189 e202 (show (1000 : Nat) ≠ 7 by decide))).trans e189
  have e241 : (va_up f153 pr (.inr (7, [.ref b2, .ref sno, .int pth, .int (nI ver), .int prd, .ref r47, .ref r152, .ref l18, .ref l17, .int lif, .int ren, .int flg, .int xpy]))) hst = .inl (E.2.1, 5, .inl g164) := (q_ne (q_tag e190 e202 (show (1000 : Nat) ≠ 7 by decide))).trans e190
  have e242 : (va_up f153 pr (.inr (7, [.ref b2, .ref sno, .int pth, .int (nI ver), .int prd, .ref r47, .ref r152, .ref l18, .ref l17, .int lif, .int ren, .int flg, .int xpy]))) inn = .inl (E.2.1, 5, .inl g166) := (q_ne (q_tag e192 e202 (show (1000 : Nat) ≠ 7 by decide))).trans e192
  have e243 : (va_up f153 pr (.inr (7, [.ref b2, .ref sno, .int pth, .int (nI ver), .int prd, .ref r47, .ref r152, .ref l18, .ref l17, .int lif, .int ren, .int flg, .int xpy]))) out = .inl (E.2.1, 5, .inl g167) := (q_ne (q_tag e193 e202 (show (1000 : Nat) ≠ 7 by decide))).trans e193
  have e244 : (va_up f153 pr (.inr (7, [.ref b2, .ref sno, .int pth, .int (nI ver), .int prd, .ref r47, .ref r152, .ref l18, .ref l17, .int lif, .int ren, .int flg, .int xpy]))) mac = .inl (E.1, 20, .inl g165) := (q_ne (q_tag e191 e202 (show (1000 : Nat) ≠ 7 by decide))).trans e191
  have e245 : (va_up f153 pr (.inr (7, [.ref b2, .ref sno, .int pth, .int (nI ver), .int prd, .ref r47, .ref r152, .ref l18, .ref l17, .int lif, .int ren, .int flg, .int xpy]))) o = .inr (1, [.ref un, .ref tw, .ref ke, .int (nI n159), .ref sta, .ref mo, .ref kp]) := (q_ne (q_tag e194 e202 (show (1 : Nat) ≠ 7 by decide))).trans e194
  have e246 : (va_up f153 pr (.inr (7, [.ref b2, .ref sno, .int pth, .int (nI ver), .int prd, .ref r47, .ref r152, .ref l18, .ref l17, .int lif, .int ren, .int flg, .int xpy]))) tw = .inl (E.2.1, 256, .inl g_tw) := (q_ne (q_tag e204 e202 (show (1000 : Nat) ≠ 7 by decide))).trans e204
  have e247 : (va_up f153 pr (.inr (7, [.ref b2, .ref sno, .int pth, .int (nI ver), .int prd, .ref r47, .ref r152, .ref l18, .ref l17, .int lif, .int ren, .int flg, .int xpy]))) ke = .inl (E.2.1, 240, .inl g168) := (q_ne (q_tag e195 e202 (show (1000 : Nat) ≠ 7 by decide))).trans e195
  have e248 : (va_up f153 pr (.inr (7, [.ref b2, .ref sno, .int pth, .int (nI ver), .int prd, .ref r47, .ref r152, .ref l18, .ref l17, .int lif, .int ren, .int flg, .int xpy]))) sta = .inl (E.2.1, 16, .inl g169) := (q_ne (q_tag e196 e202 (show (1000 : Nat) ≠ 7 by decide))).trans e196
  have e249 : (va_up f153 pr (.inr (7, [.ref b2, .ref sno, .int pth, .int (nI ver), .int prd, .ref r47, .ref r152, .ref l18, .ref l17, .int lif, .int ren, .int flg, .int xpy]))) mo = .inl (E.2.1, 16, .inl g170) := (q_ne (q_tag e197 e202 (show (1000 : Nat) ≠ 7 by decide))).trans e197
  have e250 : (va_up f153 pr (.inr (7, [.ref b2, .ref sno, .int pth, .int (nI ver), .int prd, .ref r47, .ref r152, .ref l18, .ref l17, .int lif, .int ren, .int flg, .int xpy]))) tu = .inl (E.1, 20, .inl g171) := (q_ne (q_tag e198 e202 (show (1000 : Nat) ≠ 7 by decide))).trans e198
  have e251 : (va_up f153 pr (.inr (7, [.ref b2, .ref sno, .int pth, .int (nI ver), .int prd, .ref r47, .ref r152, .ref l18, .ref l17, .int lif, .int ren, .int flg, .int xpy]))) b = .inr (3, [.ref r, .int (nI n160)]) := (q_ne (q_tag e199 e202 (show (3 : Nat) ≠ 7 by decide))).trans e199
  have e252 : (va_up f153 pr (.inr (7, [.ref b2, .ref sno, .int pth, .int (nI ver), .int prd, .ref r47, .ref r152, .ref l18, .ref l17, .int lif, .int ren, .int flg, .int xpy]))) r = .inl (E.1, N, .inl g172) := (q_ne (q_tag e200 e202 (show (1000 : Nat) ≠ 7 by decide))).trans e200
  have e253 : (va_up f153 pr (.inr (7, [.ref b2, .ref sno, .int pth, .int (nI ver), .int prd, .ref r47, .ref r152, .ref l18, .ref l17, .int lif, .int ren, .int flg, .int xpy]))) b2 = .inr (3, [.ref r2, .int (nI n3)]) := (q_ne (q_tag e205 e202 (show (3 : Nat) ≠ 7 by decide))).trans e205
  have e254 : (va_up f153 pr (.inr (7, [.ref b2, .ref sno, .int pth, .int (nI ver), .int prd, .ref r47, .ref r152, .ref l18, .ref l17, .int lif, .int ren, .int flg, .int xpy]))) r2 = .inl (E.1, M, .inl g_r2) := (q_ne (q_tag e206 e202 (show (1000 : Nat) ≠ 7 by decide))).trans e206
  have e255 : (va_up f153 pr (.inr (7, [.ref b2, .ref sno, .int pth, .int (nI ver), .int prd, .ref r47, .ref r152, .ref l18, .ref l17, .int lif, .int ren, .int flg, .int xpy]))) b3 = .inr (3, [.ref r3, .int (nI n5)]) := (q_ne (q_tag e207 e202 (show (3 : Nat) ≠ 7 by decide))).trans e207
  have e256 : (va_up f153 pr (.inr (7, [.ref b2, .ref sno, .int pth, .int (nI ver), .int prd, .ref r47, .ref r152, .ref l18, .ref l17, .int lif, .int ren, .int flg, .int xpy]))) r3 = .inl (E.1, M3, .inl g_r3) := (q_ne (q_tag e208 e202 (show (1000 : Nat) ≠ 7 by decide))).trans e208
  have e257 : (va_up f153 pr (.inr (7, [.ref b2, .ref sno, .int pth, .int (nI ver), .int prd, .ref r47, .ref r152, .ref l18, .ref l17, .int lif, .int ren, .int flg, .int xpy]))) r47 = .inl (E.1, 32, .inl g68) := (q_ne (q_tag e209 e202 (show (1000 : Nat) ≠ 7 by decide))).trans e209
  have e258 : (va_up f153 pr (.inr (7, [.ref b2, .ref sno, .int pth, .int (nI ver), .int prd, .ref r47, .ref r152, .ref l18, .ref l17, .int lif, .int ren, .int flg, .int xpy]))) r152 = .inl (E.1, 16, .inl g173) := (q_ne (q_tag e201 e202 (show (1000 : Nat) ≠ 7 by decide))).trans e201
  have hF259 : ∀ x, x ∈ L → x ≠ pr → x ≠ ho → x ≠ wd → x ≠ bl → x ≠ hst → x ≠ mac → x ≠ inn → x ≠ out → x ≠ o → x ≠ ke → x ≠ sta → x ≠ mo → x ≠ tu → x ≠ b → x ≠ r → (va_up f153 pr (.inr (7, [.ref b2, .ref sno, .int pth, .int (nI ver), .int prd, .ref r47, .ref r152, .ref l18, .ref l17, .int lif, .int ren, .int flg, .int xpy]))) x = f x := fun x hx h0 h1 h2 h3 h4 h5 h6 h7 h8 h9 h10 h11 h12 h13 h14 => (q_ne h0).trans (hF210 x hx h0 h1 h2 h3 h4 h5 h6 h7 h8 h9 h10 h11 h12 h13 h14)
  have Y : pH D cCl (pA L sz) s.heap L154 (va_up f153 pr (.inr (7, [.ref b2, .ref sno, .int pth, .int (nI ver), .int prd, .ref r47, .ref r152, .ref l18, .ref l17, .int lif, .int ren, .int flg, .int xpy]))) H locs := Y
  generalize (va_up f153 pr (.inr (7, [.ref b2, .ref sno, .int pth, .int (nI ver), .int prd, .ref r47, .ref r152, .ref l18, .ref l17, .int lif, .int ren, .int flg, .int xpy]))) = f235 at Y e236 e237 e238 e239 e240 e241 e242 e243 e244 e245 e246 e247 e248 e249 e250 e251 e252 e253 e254 e255 e256 e257 e258 hF259
  refine lv_aload_n X.1 X.2.1 d_Pr_rekey_52 rfl (lv_at hl 0 rfl) ?_
  refine lv_iload X.1 X.2.1 d_Pr_rekey_53 (lv_at hl 4 rfl) ?_
  refine q_put X.1 X.2.1 X.2.2.1 i_Pr t_Pr t_Pr_ok n_Pr X.2.2.2.1 X.2.2.2.2 Y m213 e236 rfl 4 (by decide) (X.2.2.1 _ lk_Pr_80) (fun _ h9 => h9) rfl (t_Pr_ok 4 (by decide)) rfl rfl (Nat.le_of_ble_eq_true rfl) d_Pr_rekey_55 (fun H locs Y => ?_)
  have e261 : (va_up f235 pr (.inr (7, [.ref b2, .ref sno, .int pth, .int (nI ver), .int a4, .ref r47, .ref r152, .ref l18, .ref l17, .int lif, .int ren, .int flg, .int xpy]))) pr = .inr (7, [.ref b2, .ref sno, .int pth, .int (nI ver), .int a4, .ref r47, .ref r152, .ref l18, .ref l17, .int lif, .int ren, .int flg, .int xpy]) := q_up
  have e262 : (va_up f235 pr (.inr (7, [.ref b2, .ref sno, .int pth, .int (nI ver), .int a4, .ref r47, .ref r152, .ref l18, .ref l17, .int lif, .int ren, .int flg, .int xpy]))) v = .inr (11, [.int now, .ref txo, .ref dro, .ref ho, .ref o, .ref se, .int ssz, .ref coo, .int cat, .int crw, .ref deo, .ref tu, .ref b]) := (q_ne (q_tag e237 e236 (show (11 : Nat) ≠ 7 by decide))).trans e237
  have e263 : (va_up f235 pr (.inr (7, [.ref b2, .ref sno, .int pth, .int (nI ver), .int a4, .ref r47, .ref r152, .ref l18, .ref l17, .int lif, .int ren, .int flg, .int xpy]))) ho = .inr (6, [.ref wd, .ref bl, .ref hst, .ref inn, .ref out, .int (nI n158), .int v161, .ref mac]) := (q_ne (q_tag e238 e236 (show (6 : Nat) ≠ 7 by decide))).trans e238
  have e264 : (va_up f235 pr (.inr (7, [.ref b2, .ref sno, .int pth, .int (nI ver), .int a4, .ref r47, .ref r152, .ref l18, .ref l17, .int lif, .int ren, .int flg, .int xpy]))) wd = .inl (E.2.1, 80, .inl g162) := (q_ne (q_tag e239 e236 (show (1000 : Nat) ≠ 7 by decide))).trans e239
  have e265 : (va_up f235 pr (.inr (7, [.ref b2, .ref sno, .int pth, .int (nI ver), .int a4, .ref r47, .ref r152, .ref l18, .ref l17, .int lif, .int ren, .int flg, .int xpy]))) bl = .inl (E.1, 64, .inl g163) := (q_ne (q_tag e240 e236 (show (1000 : Nat) ≠ 7 by decide))).trans e240
  have e266 : (va_up f235 pr (.inr (7, [.ref b2, .ref sno, .int pth, .int (nI ver), .int a4, .ref r47, .ref r152, .ref l18, .ref l17, .int lif, .int ren, .int flg, .int xpy]))) hst = .inl (E.2.1, 5, .inl g164) := (q_ne (q_tag e241 e236 (show (1000 : Nat) ≠ 7 by decide))).trans e241
  have e267 : (va_up f235 pr (.inr (7, [.ref b2, .ref sno, .int pth, .int (nI ver), .int a4, .ref r47, .ref r152, .ref l18, .ref l17, .int lif, .int ren, .int flg, .int xpy]))) inn = .inl (E.2.1, 5, .inl g166) := (q_ne (q_tag e242 e236 (show (1000 : Nat) ≠ 7 by decide))).trans e242
  have e268 : (va_up f235 pr (.inr (7, [.ref b2, .ref sno, .int pth, .int (nI ver), .int a4, .ref r47, .ref r152, .ref l18, .ref l17, .int lif, .int ren, .int flg, .int xpy]))) out = .inl (E.2.1, 5, .inl g167) := (q_ne (q_tag e243 e236 (show (1000 : Nat) ≠ 7 by decide))).trans e243
  have e269 : (va_up f235 pr (.inr (7, [.ref b2, .ref sno, .int pth, .int (nI ver), .int a4, .ref r47, .ref r152, .ref l18, .ref l17, .int lif, .int ren, .int flg, .int xpy]))) mac = .inl (E.1, 20, .inl g165) := (q_ne (q_tag e244 e236 (show (1000 : Nat) ≠ 7 by decide))).trans e244
  have e270 : (va_up f235 pr (.inr (7, [.ref b2, .ref sno, .int pth, .int (nI ver), .int a4, .ref r47, .ref r152, .ref l18, .ref l17, .int lif, .int ren, .int flg, .int xpy]))) o = .inr (1, [.ref un, .ref tw, .ref ke, .int (nI n159), .ref sta, .ref mo, .ref kp]) := (q_ne (q_tag e245 e236 (show (1 : Nat) ≠ 7 by decide))).trans e245
  have e271 : (va_up f235 pr (.inr (7, [.ref b2, .ref sno, .int pth, .int (nI ver), .int a4, .ref r47, .ref r152, .ref l18, .ref l17, .int lif, .int ren, .int flg, .int xpy]))) tw = .inl (E.2.1, 256, .inl g_tw) := (q_ne (q_tag e246 e236 (show (1000 : Nat) ≠ 7 by decide))).trans e246
  have e272 : (va_up f235 pr (.inr (7, [.ref b2, .ref sno, .int pth, .int (nI ver), .int a4, .ref r47, .ref r152, .ref l18, .ref l17, .int lif, .int ren, .int flg, .int xpy]))) ke = .inl (E.2.1, 240, .inl g168) := (q_ne (q_tag e247 e236 (show (1000 : Nat) ≠ 7 by decide))).trans e247
  have e273 : (va_up f235 pr (.inr (7, [.ref b2, .ref sno, .int pth, .int (nI ver), .int a4, .ref r47, .ref r152, .ref l18, .ref l17, .int lif, .int ren, .int flg, .int xpy]))) sta = .inl (E.2.1, 16, .inl g169) := (q_ne (q_tag e248 e236 (show (1000 : Nat) ≠ 7 by decide))).trans e248
  have e274 : (va_up f235 pr (.inr (7, [.ref b2, .ref sno, .int pth, .int (nI ver), .int a4, .ref r47, .ref r152, .ref l18, .ref l17, .int lif, .int ren, .int flg, .int xpy]))) mo = .inl (E.2.1, 16, .inl g170) := (q_ne (q_tag e249 e236 (show (1000 : Nat) ≠ 7 by decide))).trans e249
  have e275 : (va_up f235 pr (.inr (7, [.ref b2, .ref sno, .int pth, .int (nI ver), .int a4, .ref r47, .ref r152, .ref l18, .ref l17, .int lif, .int ren, .int flg, .int xpy]))) tu = .inl (E.1, 20, .inl g171) := (q_ne (q_tag e250 e236 (show (1000 : Nat) ≠ 7 by decide))).trans e250
  have e276 : (va_up f235 pr (.inr (7, [.ref b2, .ref sno, .int pth, .int (nI ver), .int a4, .ref r47, .ref r152, .ref l18, .ref l17, .int lif, .int ren, .int flg, .int xpy]))) b = .inr (3, [.ref r, .int (nI n160)]) := (q_ne (q_tag e251 e236 (show (3 : Nat) ≠ 7 by decide))).trans e251
  have e277 : (va_up f235 pr (.inr (7, [.ref b2, .ref sno, .int pth, .int (nI ver), .int a4, .ref r47, .ref r152, .ref l18, .ref l17, .int lif, .int ren, .int flg, .int xpy]))) r = .inl (E.1, N, .inl g172) := (q_ne (q_tag e252 e236 (show (1000 : Nat) ≠ 7 by decide))).trans e252
  have e278 : (va_up f235 pr (.inr (7, [.ref b2, .ref sno, .int pth, .int (nI ver), .int a4, .ref r47, .ref r152, .ref l18, .ref l17, .int lif, .int ren, .int flg, .int xpy]))) b2 = .inr (3, [.ref r2, .int (nI n3)]) := (q_ne (q_tag e253 e236 (show (3 : Nat) ≠ 7 by decide))).trans e253
  have e279 : (va_up f235 pr (.inr (7, [.ref b2, .ref sno, .int pth, .int (nI ver), .int a4, .ref r47, .ref r152, .ref l18, .ref l17, .int lif, .int ren, .int flg, .int xpy]))) r2 = .inl (E.1, M, .inl g_r2) := (q_ne (q_tag e254 e236 (show (1000 : Nat) ≠ 7 by decide))).trans e254
  have e280 : (va_up f235 pr (.inr (7, [.ref b2, .ref sno, .int pth, .int (nI ver), .int a4, .ref r47, .ref r152, .ref l18, .ref l17, .int lif, .int ren, .int flg, .int xpy]))) b3 = .inr (3, [.ref r3, .int (nI n5)]) := (q_ne (q_tag e255 e236 (show (3 : Nat) ≠ 7 by decide))).trans e255
  have e281 : (va_up f235 pr (.inr (7, [.ref b2, .ref sno, .int pth, .int (nI ver), .int a4, .ref r47, .ref r152, .ref l18, .ref l17, .int lif, .int ren, .int flg, .int xpy]))) r3 = .inl (E.1, M3, .inl g_r3) := (q_ne (q_tag e256 e236 (show (1000 : Nat) ≠ 7 by decide))).trans e256
  have e282 : (va_up f235 pr (.inr (7, [.ref b2, .ref sno, .int pth, .int (nI ver), .int a4, .ref r47, .ref r152, .ref l18, .ref l17, .int lif, .int ren, .int flg, .int xpy]))) r47 = .inl (E.1, 32, .inl g68) := (q_ne (q_tag e257 e236 (show (1000 : Nat) ≠ 7 by decide))).trans e257
  have e283 : (va_up f235 pr (.inr (7, [.ref b2, .ref sno, .int pth, .int (nI ver), .int a4, .ref r47, .ref r152, .ref l18, .ref l17, .int lif, .int ren, .int flg, .int xpy]))) r152 = .inl (E.1, 16, .inl g173) := (q_ne (q_tag e258 e236 (show (1000 : Nat) ≠ 7 by decide))).trans e258
  have hF284 : ∀ x, x ∈ L → x ≠ pr → x ≠ ho → x ≠ wd → x ≠ bl → x ≠ hst → x ≠ mac → x ≠ inn → x ≠ out → x ≠ o → x ≠ ke → x ≠ sta → x ≠ mo → x ≠ tu → x ≠ b → x ≠ r → (va_up f235 pr (.inr (7, [.ref b2, .ref sno, .int pth, .int (nI ver), .int a4, .ref r47, .ref r152, .ref l18, .ref l17, .int lif, .int ren, .int flg, .int xpy]))) x = f x := fun x hx h0 h1 h2 h3 h4 h5 h6 h7 h8 h9 h10 h11 h12 h13 h14 => (q_ne h0).trans (hF259 x hx h0 h1 h2 h3 h4 h5 h6 h7 h8 h9 h10 h11 h12 h13 h14)
  have Y : pH D cCl (pA L sz) s.heap L154 (va_up f235 pr (.inr (7, [.ref b2, .ref sno, .int pth, .int (nI ver), .int a4, .ref r47, .ref r152, .ref l18, .ref l17, .int lif, .int ren, .int flg, .int xpy]))) H locs := Y
  generalize (va_up f235 pr (.inr (7, [.ref b2, .ref sno, .int pth, .int (nI ver), .int a4, .ref r47, .ref r152, .ref l18, .ref l17, .int lif, .int ren, .int flg, .int xpy]))) = f260 at Y e261 e262 e263 e264 e265 e266 e267 e268 e269 e270 e271 e272 e273 e274 e275 e276 e277 e278 e279 e280 e281 e282 e283 hF284
  refine lv_aload_n X.1 X.2.1 d_Pr_rekey_58 rfl (lv_at hl 0 rfl) ?_
  refine lv_dup X.1 X.2.1 d_Pr_rekey_59 rfl ?_
  refine q_get X.1 X.2.1 X.2.2.1 i_Pr X.2.2.2.1 X.2.2.2.2 Y m213 e261 rfl 3 (by decide) (X.2.2.1 _ lk_Pr_83) (fun _ h9 => h9) rfl d_Pr_rekey_60 ?_
  refine lv_iconst (v := (nI 1)) X.1 X.2.1 d_Pr_rekey_63 (by decide) ?_
  refine lv_iadd X.1 X.2.1 d_Pr_rekey_64 ?_
  refine t_eq (y := nI (ver + 1)) (nI_add _ _) ?_
  refine q_put X.1 X.2.1 X.2.2.1 i_Pr t_Pr t_Pr_ok n_Pr X.2.2.2.1 X.2.2.2.2 Y m213 e261 rfl 3 (by decide) (X.2.2.1 _ lk_Pr_83) (fun _ h9 => h9) rfl (t_Pr_ok 3 (by decide)) rfl rfl (Nat.le_of_ble_eq_true rfl) d_Pr_rekey_65 (fun H locs Y => ?_)
  have e286 : (va_up f260 pr (.inr (7, [.ref b2, .ref sno, .int pth, .int (nI (ver + 1)), .int a4, .ref r47, .ref r152, .ref l18, .ref l17, .int lif, .int ren, .int flg, .int xpy]))) pr = .inr (7, [.ref b2, .ref sno, .int pth, .int (nI (ver + 1)), .int a4, .ref r47, .ref r152, .ref l18, .ref l17, .int lif, .int ren, .int flg, .int xpy]) := q_up
  have e287 : (va_up f260 pr (.inr (7, [.ref b2, .ref sno, .int pth, .int (nI (ver + 1)), .int a4, .ref r47, .ref r152, .ref l18, .ref l17, .int lif, .int ren, .int flg, .int xpy]))) v = .inr (11, [.int now, .ref txo, .ref dro, .ref ho, .ref o, .ref se, .int ssz, .ref coo, .int cat, .int crw, .ref deo, .ref tu, .ref b]) := (q_ne (q_tag e262 e261 (show (11 : Nat) ≠ 7 by decide))).trans e262
  have e288 : (va_up f260 pr (.inr (7, [.ref b2, .ref sno, .int pth, .int (nI (ver + 1)), .int a4, .ref r47, .ref r152, .ref l18, .ref l17, .int lif, .int ren, .int flg, .int xpy]))) ho = .inr (6, [.ref wd, .ref bl, .ref hst, .ref inn, .ref out, .int (nI n158), .int v161, .ref mac]) := (q_ne (q_tag e263 e261 (show (6 : Nat) ≠ 7 by decide))).trans e263
  have e289 : (va_up f260 pr (.inr (7, [.ref b2, .ref sno, .int pth, .int (nI (ver + 1)), .int a4, .ref r47, .ref r152, .ref l18, .ref l17, .int lif, .int ren, .int flg, .int xpy]))) wd = .inl (E.2.1, 80, .inl g162) := (q_ne (q_tag e264 e261 (show (1000 : Nat) ≠ 7 by decide))).trans e264
  have e290 : (va_up f260 pr (.inr (7, [.ref b2, .ref sno, .int pth, .int (nI (ver + 1)), .int a4, .ref r47, .ref r152, .ref l18, .ref l17, .int lif, .int ren, .int flg, .int xpy]))) bl = .inl (E.1, 64, .inl g163) := (q_ne (q_tag e265 e261 (show (1000 : Nat) ≠ 7 by decide))).trans e265
  have e291 : (va_up f260 pr (.inr (7, [.ref b2, .ref sno, .int pth, .int (nI (ver + 1)), .int a4, .ref r47, .ref r152, .ref l18, .ref l17, .int lif, .int ren, .int flg, .int xpy]))) hst = .inl (E.2.1, 5, .inl g164) := (q_ne (q_tag e266 e261 (show (1000 : Nat) ≠ 7 by decide))).trans e266
  have e292 : (va_up f260 pr (.inr (7, [.ref b2, .ref sno, .int pth, .int (nI (ver + 1)), .int a4, .ref r47, .ref r152, .ref l18, .ref l17, .int lif, .int ren, .int flg, .int xpy]))) inn = .inl (E.2.1, 5, .inl g166) := (q_ne (q_tag e267 e261 (show (1000 : Nat) ≠ 7 by decide))).trans e267
  have e293 : (va_up f260 pr (.inr (7, [.ref b2, .ref sno, .int pth, .int (nI (ver + 1)), .int a4, .ref r47, .ref r152, .ref l18, .ref l17, .int lif, .int ren, .int flg, .int xpy]))) out = .inl (E.2.1, 5, .inl g167) := (q_ne (q_tag e268 e261 (show (1000 : Nat) ≠ 7 by decide))).trans e268
  have e294 : (va_up f260 pr (.inr (7, [.ref b2, .ref sno, .int pth, .int (nI (ver + 1)), .int a4, .ref r47, .ref r152, .ref l18, .ref l17, .int lif, .int ren, .int flg, .int xpy]))) mac = .inl (E.1, 20, .inl g165) := (q_ne (q_tag e269 e261 (show (1000 : Nat) ≠ 7 by decide))).trans e269
  have e295 : (va_up f260 pr (.inr (7, [.ref b2, .ref sno, .int pth, .int (nI (ver + 1)), .int a4, .ref r47, .ref r152, .ref l18, .ref l17, .int lif, .int ren, .int flg, .int xpy]))) o = .inr (1, [.ref un, .ref tw, .ref ke, .int (nI n159), .ref sta, .ref mo, .ref kp]) := (q_ne (q_tag e270 e261 (show (1 : Nat) ≠ 7 by decide))).trans e270
  have e296 : (va_up f260 pr (.inr (7, [.ref b2, .ref sno, .int pth, .int (nI (ver + 1)), .int a4, .ref r47, .ref r152, .ref l18, .ref l17, .int lif, .int ren, .int flg, .int xpy]))) tw = .inl (E.2.1, 256, .inl g_tw) := (q_ne (q_tag e271 e261 (show (1000 : Nat) ≠ 7 by decide))).trans e271
  have e297 : (va_up f260 pr (.inr (7, [.ref b2, .ref sno, .int pth, .int (nI (ver + 1)), .int a4, .ref r47, .ref r152, .ref l18, .ref l17, .int lif, .int ren, .int flg, .int xpy]))) ke = .inl (E.2.1, 240, .inl g168) := (q_ne (q_tag e272 e261 (show (1000 : Nat) ≠ 7 by decide))).trans e272
  have e298 : (va_up f260 pr (.inr (7, [.ref b2, .ref sno, .int pth, .int (nI (ver + 1)), .int a4, .ref r47, .ref r152, .ref l18, .ref l17, .int lif, .int ren, .int flg, .int xpy]))) sta = .inl (E.2.1, 16, .inl g169) := (q_ne (q_tag e273 e261 (show (1000 : Nat) ≠ 7 by decide))).trans e273
  have e299 : (va_up f260 pr (.inr (7, [.ref b2, .ref sno, .int pth, .int (nI (ver + 1)), .int a4, .ref r47, .ref r152, .ref l18, .ref l17, .int lif, .int ren, .int flg, .int xpy]))) mo = .inl (E.2.1, 16, .inl g170) := (q_ne (q_tag e274 e261 (show (1000 : Nat) ≠ 7 by decide))).trans e274
  have e300 : (va_up f260 pr (.inr (7, [.ref b2, .ref sno, .int pth, .int (nI (ver + 1)), .int a4, .ref r47, .ref r152, .ref l18, .ref l17, .int lif, .int ren, .int flg, .int xpy]))) tu = .inl (E.1, 20, .inl g171) := (q_ne (q_tag e275 e261 (show (1000 : Nat) ≠ 7 by decide))).trans e275
  have e301 : (va_up f260 pr (.inr (7, [.ref b2, .ref sno, .int pth, .int (nI (ver + 1)), .int a4, .ref r47, .ref r152, .ref l18, .ref l17, .int lif, .int ren, .int flg, .int xpy]))) b = .inr (3, [.ref r, .int (nI n160)]) := (q_ne (q_tag e276 e261 (show (3 : Nat) ≠ 7 by decide))).trans e276
  have e302 : (va_up f260 pr (.inr (7, [.ref b2, .ref sno, .int pth, .int (nI (ver + 1)), .int a4, .ref r47, .ref r152, .ref l18, .ref l17, .int lif, .int ren, .int flg, .int xpy]))) r = .inl (E.1, N, .inl g172) := (q_ne (q_tag e277 e261 (show (1000 : Nat) ≠ 7 by decide))).trans e277
  have e303 : (va_up f260 pr (.inr (7, [.ref b2, .ref sno, .int pth, .int (nI (ver + 1)), .int a4, .ref r47, .ref r152, .ref l18, .ref l17, .int lif, .int ren, .int flg, .int xpy]))) b2 = .inr (3, [.ref r2, .int (nI n3)]) := (q_ne (q_tag e278 e261 (show (3 : Nat) ≠ 7 by decide))).trans e278
  have e304 : (va_up f260 pr (.inr (7, [.ref b2, .ref sno, .int pth, .int (nI (ver + 1)), .int a4, .ref r47, .ref r152, .ref l18, .ref l17, .int lif, .int ren, .int flg, .int xpy]))) r2 = .inl (E.1, M, .inl g_r2) := (q_ne (q_tag e279 e261 (show (1000 : Nat) ≠ 7 by decide))).trans e279
  have e305 : (va_up f260 pr (.inr (7, [.ref b2, .ref sno, .int pth, .int (nI (ver + 1)), .int a4, .ref r47, .ref r152, .ref l18, .ref l17, .int lif, .int ren, .int flg, .int xpy]))) b3 = .inr (3, [.ref r3, .int (nI n5)]) := (q_ne (q_tag e280 e261 (show (3 : Nat) ≠ 7 by decide))).trans e280
  have e306 : (va_up f260 pr (.inr (7, [.ref b2, .ref sno, .int pth, .int (nI (ver + 1)), .int a4, .ref r47, .ref r152, .ref l18, .ref l17, .int lif, .int ren, .int flg, .int xpy]))) r3 = .inl (E.1, M3, .inl g_r3) := (q_ne (q_tag e281 e261 (show (1000 : Nat) ≠ 7 by decide))).trans e281
  have e307 : (va_up f260 pr (.inr (7, [.ref b2, .ref sno, .int pth, .int (nI (ver + 1)), .int a4, .ref r47, .ref r152, .ref l18, .ref l17, .int lif, .int ren, .int flg, .int xpy]))) r47 = .inl (E.1, 32, .inl g68) := (q_ne (q_tag e282 e261 (show (1000 : Nat) ≠ 7 by decide))).trans e282
  have e308 : (va_up f260 pr (.inr (7, [.ref b2, .ref sno, .int pth, .int (nI (ver + 1)), .int a4, .ref r47, .ref r152, .ref l18, .ref l17, .int lif, .int ren, .int flg, .int xpy]))) r152 = .inl (E.1, 16, .inl g173) := (q_ne (q_tag e283 e261 (show (1000 : Nat) ≠ 7 by decide))).trans e283
  have hF309 : ∀ x, x ∈ L → x ≠ pr → x ≠ ho → x ≠ wd → x ≠ bl → x ≠ hst → x ≠ mac → x ≠ inn → x ≠ out → x ≠ o → x ≠ ke → x ≠ sta → x ≠ mo → x ≠ tu → x ≠ b → x ≠ r → (va_up f260 pr (.inr (7, [.ref b2, .ref sno, .int pth, .int (nI (ver + 1)), .int a4, .ref r47, .ref r152, .ref l18, .ref l17, .int lif, .int ren, .int flg, .int xpy]))) x = f x := fun x hx h0 h1 h2 h3 h4 h5 h6 h7 h8 h9 h10 h11 h12 h13 h14 => (q_ne h0).trans (hF284 x hx h0 h1 h2 h3 h4 h5 h6 h7 h8 h9 h10 h11 h12 h13 h14)
  have Y : pH D cCl (pA L sz) s.heap L154 (va_up f260 pr (.inr (7, [.ref b2, .ref sno, .int pth, .int (nI (ver + 1)), .int a4, .ref r47, .ref r152, .ref l18, .ref l17, .int lif, .int ren, .int flg, .int xpy]))) H locs := Y
  generalize (va_up f260 pr (.inr (7, [.ref b2, .ref sno, .int pth, .int (nI (ver + 1)), .int a4, .ref r47, .ref r152, .ref l18, .ref l17, .int lif, .int ren, .int flg, .int xpy]))) = f285 at Y e286 e287 e288 e289 e290 e291 e292 e293 e294 e295 e296 e297 e298 e299 e300 e301 e302 e303 e304 e305 e306 e307 e308 hF309
  refine W.cs (cells' := 2) (slots' := 48) (by omega) (by omega) ?_
  exact c_retv hQQ X Y hr hlk ⟨s211, hF309, r47, r152, (ver + 1), (n158), (n159), (n160), (a4), (v161), g162, g163, g164, g165, g166, g167, g168, g169, g170, g171, g172, hg176, hg177, hg178, hg179, hg180, hg181, hg182, (by omega), (by omega), (by omega), (by omega), e286, e288, e289, e290, e291, e294, e292, e293, e295, e297, e298, e299, e300, e301, e302⟩ d_Pr_rekey_68
set_option maxHeartbeats 4000000 in
set_option maxRecDepth 100000 in
theorem c_Pr_rule (l : Launch) (D : va_G) (E : cE) (T : cT) (L : List Nat) (f : pF) (sz : Nat) (a1 : Int32) (a2 : Int32) (pr nbo sno l18 l17 d18 d17 ver : Nat) (pth prd lif ren flg xpy : Int32) (m_pr : pr ∈ L) (e_pr : f pr = .inr (7, [.ref nbo, .ref sno, .int pth, .int (nI ver), .int prd, .ref l18, .ref l17, .ref d18, .ref d17, .int lif, .int ren, .int flg, .int xpy])) : Met l y_Pr_rule (k_Pr_rule :: lw_tg) (kRm 0 0 0 (0)) (va_Pc [.ref pr, .int a1, .int a2] (kPre D E T L f sz)) (va_Qi (fun (r0 : Int32) (u : cU) => u.1 = L ∧ (∀ x, x ≠ pr → u.2 x = f x) ∧ ∃ (ver2 : Nat) (pth2 prd2 lif2 ren2 flg2 xpy2 : Int32), u.2 pr = .inr (7, [.ref nbo, .ref sno, .int pth2, .int (nI ver2), .int prd2, .ref l18, .ref l17, .ref d18, .ref d17, .int lif2, .int ren2, .int flg2, .int xpy2]) ∧ (r0 = rulR a1 a2)) (cPost D E (pA L sz)) (pA L sz)) 0 (0) (pA L sz) := by
  refine k_enter (own := R_Pr) (by decide) rfl (Nat.le_of_ble_eq_true rfl) (fun p e s m below meth c ls AV QQ H locs hQQ X Y hA hin hr hlk hml hl KS KR => ?_)
  have hl : lv_has ls 3 [(0, .ref pr), (1, .int a1), (2, .int a2)] := hl
  refine lv_iload_n X.1 X.2.1 d_Pr_rule_0 rfl (lv_at hl 1 rfl) ?_
  refine lv_if_lt (tgt := 27) X.1 X.2.1 d_Pr_rule_1 (by decide) (fun c1 => ?_) (fun c1 => ?_)
  · skip
    refine lv_iconst (v := (nI 0)) X.1 X.2.1 d_Pr_rule_27 (by decide) ?_
    exact c_retz hQQ X Y hr hlk rfl ⟨rfl, (fun _ _ => rfl), (ver), (pth), (prd), (lif), (ren), (flg), (xpy), e_pr, (by unfold rulR; rw [if_neg (by simp only [Int32.lt_iff_toInt_lt, Int32.le_iff_toInt_le, ← Int32.toInt_inj, show (nI 0).toInt = 0 from rfl, show (nI 1).toInt = 1 from rfl, show (nI 2).toInt = 2 from rfl, show (nI 3).toInt = 3 from rfl, show (nI 4).toInt = 4 from rfl, show (nI 7).toInt = 7 from rfl, show (nI 8).toInt = 8 from rfl, show (nI 12).toInt = 12 from rfl, show (nI 32).toInt = 32 from rfl, show (nI 63).toInt = 63 from rfl, show (nI 200).toInt = 200 from rfl, show (nI 1000000).toInt = 1000000 from rfl, show (nI 10000000).toInt = 10000000 from rfl, show (nI 2000000000).toInt = 2000000000 from rfl, show (0 : Int32).toInt = 0 from rfl, show (-1 : Int32).toInt = -1 from rfl] at c1 ⊢ <;> omega)])⟩ d_Pr_rule_28
  · skip
    refine lv_iload_n X.1 X.2.1 d_Pr_rule_4 rfl (lv_at hl 1 rfl) ?_
    refine lv_iconst (v := (nI 3)) X.1 X.2.1 d_Pr_rule_5 (by decide) ?_
    refine lv_icmp_gt (tgt := 27) X.1 X.2.1 d_Pr_rule_6 (by decide) (fun c2 => ?_) (fun c2 => ?_)
    · skip
      refine lv_iconst (v := (nI 0)) X.1 X.2.1 d_Pr_rule_27 (by decide) ?_
      exact c_retz hQQ X Y hr hlk rfl ⟨rfl, (fun _ _ => rfl), (ver), (pth), (prd), (lif), (ren), (flg), (xpy), e_pr, (by unfold rulR; rw [if_neg (by simp only [Int32.lt_iff_toInt_lt, Int32.le_iff_toInt_le, ← Int32.toInt_inj, show (nI 0).toInt = 0 from rfl, show (nI 1).toInt = 1 from rfl, show (nI 2).toInt = 2 from rfl, show (nI 3).toInt = 3 from rfl, show (nI 4).toInt = 4 from rfl, show (nI 7).toInt = 7 from rfl, show (nI 8).toInt = 8 from rfl, show (nI 12).toInt = 12 from rfl, show (nI 32).toInt = 32 from rfl, show (nI 63).toInt = 63 from rfl, show (nI 200).toInt = 200 from rfl, show (nI 1000000).toInt = 1000000 from rfl, show (nI 10000000).toInt = 10000000 from rfl, show (nI 2000000000).toInt = 2000000000 from rfl, show (0 : Int32).toInt = 0 from rfl, show (-1 : Int32).toInt = -1 from rfl] at c1 c2 ⊢ <;> omega)])⟩ d_Pr_rule_28
    · skip
      obtain ⟨n3, hn3, en3⟩ := nI_of c1
      have hj4 : n3 < 4 := by have h9 := c2; rw [en3, nI_ltI (by omega) (by omega)] at h9; omega
      rcases (show n3 = 0 ∨ n3 = 1 ∨ n3 = 2 ∨ n3 = 3 by omega) with hz | hz | hz | hz
      · skip
        subst hz
        have ea1 : a1 = nI 0 := en3
        refine lv_iload_n X.1 X.2.1 d_Pr_rule_9 rfl (lv_at hl 2 rfl) ?_
        refine k_gets 4 (by decide) X Y KS sk_Pr_86 d_Pr_rule_10 ?_
        refine lv_iload_n X.1 X.2.1 d_Pr_rule_13 rfl (lv_at hl 1 rfl) ?_
        refine t_eq ea1 ?_
        refine k_iald 4 (by decide) rfl X Y KS (vp_in_nI (show 0 < sL 4 by first | decide | exact (by omega : 0 < 4)) (by decide)) d_Pr_rule_14 ?_
        refine t_eq (y := nI 1) (by decide) ?_
        refine lv_icmp_lt (tgt := 27) X.1 X.2.1 d_Pr_rule_15 (by decide) (fun c4 => ?_) (fun c4 => ?_)
        · skip
          refine lv_iconst (v := (nI 0)) X.1 X.2.1 d_Pr_rule_27 (by decide) ?_
          exact c_retz hQQ X Y hr hlk rfl ⟨rfl, (fun _ _ => rfl), (ver), (pth), (prd), (lif), (ren), (flg), (xpy), e_pr, (by unfold rulR; rw [if_neg (by simp only [Int32.lt_iff_toInt_lt, Int32.le_iff_toInt_le, ← Int32.toInt_inj, show (nI 0).toInt = 0 from rfl, show (nI 1).toInt = 1 from rfl, show (nI 2).toInt = 2 from rfl, show (nI 3).toInt = 3 from rfl, show (nI 4).toInt = 4 from rfl, show (nI 7).toInt = 7 from rfl, show (nI 8).toInt = 8 from rfl, show (nI 12).toInt = 12 from rfl, show (nI 32).toInt = 32 from rfl, show (nI 63).toInt = 63 from rfl, show (nI 200).toInt = 200 from rfl, show (nI 1000000).toInt = 1000000 from rfl, show (nI 10000000).toInt = 10000000 from rfl, show (nI 2000000000).toInt = 2000000000 from rfl, show (0 : Int32).toInt = 0 from rfl, show (-1 : Int32).toInt = -1 from rfl] at c1 c2 ea1 c4 ⊢ <;> omega)])⟩ d_Pr_rule_28
        · skip
          refine lv_iload_n X.1 X.2.1 d_Pr_rule_18 rfl (lv_at hl 2 rfl) ?_
          refine k_gets 5 (by decide) X Y KS sk_Pr_90 d_Pr_rule_19 ?_
          refine lv_iload_n X.1 X.2.1 d_Pr_rule_22 rfl (lv_at hl 1 rfl) ?_
          refine t_eq ea1 ?_
          refine k_iald 5 (by decide) rfl X Y KS (vp_in_nI (show 0 < sL 5 by first | decide | exact (by omega : 0 < 4)) (by decide)) d_Pr_rule_23 ?_
          refine t_eq (y := nI 1000000) (by decide) ?_
          refine lv_icmp_le (tgt := 29) X.1 X.2.1 d_Pr_rule_24 (by decide) (fun c5 => ?_) (fun c5 => ?_)
          · skip
            refine lv_iload_n X.1 X.2.1 d_Pr_rule_29 rfl (lv_at hl 1 rfl) ?_
            refine t_eq ea1 ?_
            refine lv_tableIn (x := nI 0) (off := 26) (tgt := 56) X.1 X.2.1 d_Pr_rule_30 (by decide) (by decide) (by decide) (by decide) ?_
            refine lv_aload_n X.1 X.2.1 d_Pr_rule_56 rfl (lv_at hl 0 rfl) ?_
            refine lv_iload_n X.1 X.2.1 d_Pr_rule_57 rfl (lv_at hl 2 rfl) ?_
            refine q_put X.1 X.2.1 X.2.2.1 i_Pr t_Pr t_Pr_ok n_Pr X.2.2.2.1 X.2.2.2.2 Y m_pr e_pr rfl 9 (by decide) (X.2.2.1 _ lk_Pr_44) (fun _ h9 => h9) rfl (t_Pr_ok 9 (by decide)) rfl rfl (Nat.le_of_ble_eq_true rfl) d_Pr_rule_58 (fun H locs Y => ?_)
            have e7 : (va_up f pr (.inr (7, [.ref nbo, .ref sno, .int pth, .int (nI ver), .int prd, .ref l18, .ref l17, .ref d18, .ref d17, .int a2, .int ren, .int flg, .int xpy]))) pr = .inr (7, [.ref nbo, .ref sno, .int pth, .int (nI ver), .int prd, .ref l18, .ref l17, .ref d18, .ref d17, .int a2, .int ren, .int flg, .int xpy]) := q_up
            have hF8 : ∀ x, x ≠ pr → (va_up f pr (.inr (7, [.ref nbo, .ref sno, .int pth, .int (nI ver), .int prd, .ref l18, .ref l17, .ref d18, .ref d17, .int a2, .int ren, .int flg, .int xpy]))) x = f x := fun x h0 => (q_ne h0).trans rfl
            have Y : pH D cCl (pA L sz) s.heap L (va_up f pr (.inr (7, [.ref nbo, .ref sno, .int pth, .int (nI ver), .int prd, .ref l18, .ref l17, .ref d18, .ref d17, .int a2, .int ren, .int flg, .int xpy]))) H locs := Y
            generalize (va_up f pr (.inr (7, [.ref nbo, .ref sno, .int pth, .int (nI ver), .int prd, .ref l18, .ref l17, .ref d18, .ref d17, .int a2, .int ren, .int flg, .int xpy]))) = f6 at Y e7 hF8
            refine lv_goto (tgt := 85) X.1 X.2.1 d_Pr_rule_61 (by decide) ?_
            refine lv_iconst (v := (nI 1)) X.1 X.2.1 d_Pr_rule_85 (by decide) ?_
            exact c_retz hQQ X Y hr hlk rfl ⟨rfl, hF8, (ver), (pth), (prd), (a2), (ren), (flg), (xpy), e7, (by unfold rulR; rw [if_pos (by simp only [Int32.lt_iff_toInt_lt, Int32.le_iff_toInt_le, ← Int32.toInt_inj, show (nI 0).toInt = 0 from rfl, show (nI 1).toInt = 1 from rfl, show (nI 2).toInt = 2 from rfl, show (nI 3).toInt = 3 from rfl, show (nI 4).toInt = 4 from rfl, show (nI 7).toInt = 7 from rfl, show (nI 8).toInt = 8 from rfl, show (nI 12).toInt = 12 from rfl, show (nI 32).toInt = 32 from rfl, show (nI 63).toInt = 63 from rfl, show (nI 200).toInt = 200 from rfl, show (nI 1000000).toInt = 1000000 from rfl, show (nI 10000000).toInt = 10000000 from rfl, show (nI 2000000000).toInt = 2000000000 from rfl, show (0 : Int32).toInt = 0 from rfl, show (-1 : Int32).toInt = -1 from rfl] at c1 c2 ea1 c4 c5 ⊢ <;> omega)])⟩ d_Pr_rule_86
          · skip
            refine lv_iconst (v := (nI 0)) X.1 X.2.1 d_Pr_rule_27 (by decide) ?_
            exact c_retz hQQ X Y hr hlk rfl ⟨rfl, (fun _ _ => rfl), (ver), (pth), (prd), (lif), (ren), (flg), (xpy), e_pr, (by unfold rulR; rw [if_neg (by simp only [Int32.lt_iff_toInt_lt, Int32.le_iff_toInt_le, ← Int32.toInt_inj, show (nI 0).toInt = 0 from rfl, show (nI 1).toInt = 1 from rfl, show (nI 2).toInt = 2 from rfl, show (nI 3).toInt = 3 from rfl, show (nI 4).toInt = 4 from rfl, show (nI 7).toInt = 7 from rfl, show (nI 8).toInt = 8 from rfl, show (nI 12).toInt = 12 from rfl, show (nI 32).toInt = 32 from rfl, show (nI 63).toInt = 63 from rfl, show (nI 200).toInt = 200 from rfl, show (nI 1000000).toInt = 1000000 from rfl, show (nI 10000000).toInt = 10000000 from rfl, show (nI 2000000000).toInt = 2000000000 from rfl, show (0 : Int32).toInt = 0 from rfl, show (-1 : Int32).toInt = -1 from rfl] at c1 c2 ea1 c4 c5 ⊢ <;> omega)])⟩ d_Pr_rule_28
      · skip
        subst hz
        have ea1 : a1 = nI 1 := en3
        refine lv_iload_n X.1 X.2.1 d_Pr_rule_9 rfl (lv_at hl 2 rfl) ?_
        refine k_gets 4 (by decide) X Y KS sk_Pr_86 d_Pr_rule_10 ?_
        refine lv_iload_n X.1 X.2.1 d_Pr_rule_13 rfl (lv_at hl 1 rfl) ?_
        refine t_eq ea1 ?_
        refine k_iald 4 (by decide) rfl X Y KS (vp_in_nI (show 1 < sL 4 by first | decide | exact (by omega : 1 < 4)) (by decide)) d_Pr_rule_14 ?_
        refine t_eq (y := nI 1) (by decide) ?_
        refine lv_icmp_lt (tgt := 27) X.1 X.2.1 d_Pr_rule_15 (by decide) (fun c9 => ?_) (fun c9 => ?_)
        · skip
          refine lv_iconst (v := (nI 0)) X.1 X.2.1 d_Pr_rule_27 (by decide) ?_
          exact c_retz hQQ X Y hr hlk rfl ⟨rfl, (fun _ _ => rfl), (ver), (pth), (prd), (lif), (ren), (flg), (xpy), e_pr, (by unfold rulR; rw [if_neg (by simp only [Int32.lt_iff_toInt_lt, Int32.le_iff_toInt_le, ← Int32.toInt_inj, show (nI 0).toInt = 0 from rfl, show (nI 1).toInt = 1 from rfl, show (nI 2).toInt = 2 from rfl, show (nI 3).toInt = 3 from rfl, show (nI 4).toInt = 4 from rfl, show (nI 7).toInt = 7 from rfl, show (nI 8).toInt = 8 from rfl, show (nI 12).toInt = 12 from rfl, show (nI 32).toInt = 32 from rfl, show (nI 63).toInt = 63 from rfl, show (nI 200).toInt = 200 from rfl, show (nI 1000000).toInt = 1000000 from rfl, show (nI 10000000).toInt = 10000000 from rfl, show (nI 2000000000).toInt = 2000000000 from rfl, show (0 : Int32).toInt = 0 from rfl, show (-1 : Int32).toInt = -1 from rfl] at c1 c2 ea1 c9 ⊢ <;> omega)])⟩ d_Pr_rule_28
        · skip
          refine lv_iload_n X.1 X.2.1 d_Pr_rule_18 rfl (lv_at hl 2 rfl) ?_
          refine k_gets 5 (by decide) X Y KS sk_Pr_90 d_Pr_rule_19 ?_
          refine lv_iload_n X.1 X.2.1 d_Pr_rule_22 rfl (lv_at hl 1 rfl) ?_
          refine t_eq ea1 ?_
          refine k_iald 5 (by decide) rfl X Y KS (vp_in_nI (show 1 < sL 5 by first | decide | exact (by omega : 1 < 4)) (by decide)) d_Pr_rule_23 ?_
          refine t_eq (y := nI 10000000) (by decide) ?_
          refine lv_icmp_le (tgt := 29) X.1 X.2.1 d_Pr_rule_24 (by decide) (fun c10 => ?_) (fun c10 => ?_)
          · skip
            refine lv_iload_n X.1 X.2.1 d_Pr_rule_29 rfl (lv_at hl 1 rfl) ?_
            refine t_eq ea1 ?_
            refine lv_tableIn (x := nI 1) (off := 34) (tgt := 64) X.1 X.2.1 d_Pr_rule_30 (by decide) (by decide) (by decide) (by decide) ?_
            refine lv_aload_n X.1 X.2.1 d_Pr_rule_64 rfl (lv_at hl 0 rfl) ?_
            refine lv_iload_n X.1 X.2.1 d_Pr_rule_65 rfl (lv_at hl 2 rfl) ?_
            refine q_put X.1 X.2.1 X.2.2.1 i_Pr t_Pr t_Pr_ok n_Pr X.2.2.2.1 X.2.2.2.2 Y m_pr e_pr rfl 10 (by decide) (X.2.2.1 _ lk_Pr_49) (fun _ h9 => h9) rfl (t_Pr_ok 10 (by decide)) rfl rfl (Nat.le_of_ble_eq_true rfl) d_Pr_rule_66 (fun H locs Y => ?_)
            have e12 : (va_up f pr (.inr (7, [.ref nbo, .ref sno, .int pth, .int (nI ver), .int prd, .ref l18, .ref l17, .ref d18, .ref d17, .int lif, .int a2, .int flg, .int xpy]))) pr = .inr (7, [.ref nbo, .ref sno, .int pth, .int (nI ver), .int prd, .ref l18, .ref l17, .ref d18, .ref d17, .int lif, .int a2, .int flg, .int xpy]) := q_up
            have hF13 : ∀ x, x ≠ pr → (va_up f pr (.inr (7, [.ref nbo, .ref sno, .int pth, .int (nI ver), .int prd, .ref l18, .ref l17, .ref d18, .ref d17, .int lif, .int a2, .int flg, .int xpy]))) x = f x := fun x h0 => (q_ne h0).trans rfl
            have Y : pH D cCl (pA L sz) s.heap L (va_up f pr (.inr (7, [.ref nbo, .ref sno, .int pth, .int (nI ver), .int prd, .ref l18, .ref l17, .ref d18, .ref d17, .int lif, .int a2, .int flg, .int xpy]))) H locs := Y
            generalize (va_up f pr (.inr (7, [.ref nbo, .ref sno, .int pth, .int (nI ver), .int prd, .ref l18, .ref l17, .ref d18, .ref d17, .int lif, .int a2, .int flg, .int xpy]))) = f11 at Y e12 hF13
            refine lv_goto (tgt := 85) X.1 X.2.1 d_Pr_rule_69 (by decide) ?_
            refine lv_iconst (v := (nI 1)) X.1 X.2.1 d_Pr_rule_85 (by decide) ?_
            exact c_retz hQQ X Y hr hlk rfl ⟨rfl, hF13, (ver), (pth), (prd), (lif), (a2), (flg), (xpy), e12, (by unfold rulR; rw [if_pos (by simp only [Int32.lt_iff_toInt_lt, Int32.le_iff_toInt_le, ← Int32.toInt_inj, show (nI 0).toInt = 0 from rfl, show (nI 1).toInt = 1 from rfl, show (nI 2).toInt = 2 from rfl, show (nI 3).toInt = 3 from rfl, show (nI 4).toInt = 4 from rfl, show (nI 7).toInt = 7 from rfl, show (nI 8).toInt = 8 from rfl, show (nI 12).toInt = 12 from rfl, show (nI 32).toInt = 32 from rfl, show (nI 63).toInt = 63 from rfl, show (nI 200).toInt = 200 from rfl, show (nI 1000000).toInt = 1000000 from rfl, show (nI 10000000).toInt = 10000000 from rfl, show (nI 2000000000).toInt = 2000000000 from rfl, show (0 : Int32).toInt = 0 from rfl, show (-1 : Int32).toInt = -1 from rfl] at c1 c2 ea1 c9 c10 ⊢ <;> omega)])⟩ d_Pr_rule_86
          · skip
            refine lv_iconst (v := (nI 0)) X.1 X.2.1 d_Pr_rule_27 (by decide) ?_
            exact c_retz hQQ X Y hr hlk rfl ⟨rfl, (fun _ _ => rfl), (ver), (pth), (prd), (lif), (ren), (flg), (xpy), e_pr, (by unfold rulR; rw [if_neg (by simp only [Int32.lt_iff_toInt_lt, Int32.le_iff_toInt_le, ← Int32.toInt_inj, show (nI 0).toInt = 0 from rfl, show (nI 1).toInt = 1 from rfl, show (nI 2).toInt = 2 from rfl, show (nI 3).toInt = 3 from rfl, show (nI 4).toInt = 4 from rfl, show (nI 7).toInt = 7 from rfl, show (nI 8).toInt = 8 from rfl, show (nI 12).toInt = 12 from rfl, show (nI 32).toInt = 32 from rfl, show (nI 63).toInt = 63 from rfl, show (nI 200).toInt = 200 from rfl, show (nI 1000000).toInt = 1000000 from rfl, show (nI 10000000).toInt = 10000000 from rfl, show (nI 2000000000).toInt = 2000000000 from rfl, show (0 : Int32).toInt = 0 from rfl, show (-1 : Int32).toInt = -1 from rfl] at c1 c2 ea1 c9 c10 ⊢ <;> omega)])⟩ d_Pr_rule_28
      · skip
        subst hz
        have ea1 : a1 = nI 2 := en3
        refine lv_iload_n X.1 X.2.1 d_Pr_rule_9 rfl (lv_at hl 2 rfl) ?_
        refine k_gets 4 (by decide) X Y KS sk_Pr_86 d_Pr_rule_10 ?_
        refine lv_iload_n X.1 X.2.1 d_Pr_rule_13 rfl (lv_at hl 1 rfl) ?_
        refine t_eq ea1 ?_
        refine k_iald 4 (by decide) rfl X Y KS (vp_in_nI (show 2 < sL 4 by first | decide | exact (by omega : 2 < 4)) (by decide)) d_Pr_rule_14 ?_
        refine t_eq (y := nI 0) (by decide) ?_
        refine lv_icmp_lt (tgt := 27) X.1 X.2.1 d_Pr_rule_15 (by decide) (fun c14 => ?_) (fun c14 => ?_)
        · skip
          refine lv_iconst (v := (nI 0)) X.1 X.2.1 d_Pr_rule_27 (by decide) ?_
          exact c_retz hQQ X Y hr hlk rfl ⟨rfl, (fun _ _ => rfl), (ver), (pth), (prd), (lif), (ren), (flg), (xpy), e_pr, (by unfold rulR; rw [if_neg (by simp only [Int32.lt_iff_toInt_lt, Int32.le_iff_toInt_le, ← Int32.toInt_inj, show (nI 0).toInt = 0 from rfl, show (nI 1).toInt = 1 from rfl, show (nI 2).toInt = 2 from rfl, show (nI 3).toInt = 3 from rfl, show (nI 4).toInt = 4 from rfl, show (nI 7).toInt = 7 from rfl, show (nI 8).toInt = 8 from rfl, show (nI 12).toInt = 12 from rfl, show (nI 32).toInt = 32 from rfl, show (nI 63).toInt = 63 from rfl, show (nI 200).toInt = 200 from rfl, show (nI 1000000).toInt = 1000000 from rfl, show (nI 10000000).toInt = 10000000 from rfl, show (nI 2000000000).toInt = 2000000000 from rfl, show (0 : Int32).toInt = 0 from rfl, show (-1 : Int32).toInt = -1 from rfl] at c1 c2 ea1 c14 ⊢ <;> omega)])⟩ d_Pr_rule_28
        · skip
          refine lv_iload_n X.1 X.2.1 d_Pr_rule_18 rfl (lv_at hl 2 rfl) ?_
          refine k_gets 5 (by decide) X Y KS sk_Pr_90 d_Pr_rule_19 ?_
          refine lv_iload_n X.1 X.2.1 d_Pr_rule_22 rfl (lv_at hl 1 rfl) ?_
          refine t_eq ea1 ?_
          refine k_iald 5 (by decide) rfl X Y KS (vp_in_nI (show 2 < sL 5 by first | decide | exact (by omega : 2 < 4)) (by decide)) d_Pr_rule_23 ?_
          refine t_eq (y := nI 63) (by decide) ?_
          refine lv_icmp_le (tgt := 29) X.1 X.2.1 d_Pr_rule_24 (by decide) (fun c15 => ?_) (fun c15 => ?_)
          · skip
            refine lv_iload_n X.1 X.2.1 d_Pr_rule_29 rfl (lv_at hl 1 rfl) ?_
            refine t_eq ea1 ?_
            refine lv_tableIn (x := nI 2) (off := 42) (tgt := 72) X.1 X.2.1 d_Pr_rule_30 (by decide) (by decide) (by decide) (by decide) ?_
            refine lv_aload_n X.1 X.2.1 d_Pr_rule_72 rfl (lv_at hl 0 rfl) ?_
            refine lv_iload_n X.1 X.2.1 d_Pr_rule_73 rfl (lv_at hl 2 rfl) ?_
            refine q_put X.1 X.2.1 X.2.2.1 i_Pr t_Pr t_Pr_ok n_Pr X.2.2.2.1 X.2.2.2.2 Y m_pr e_pr rfl 11 (by decide) (X.2.2.1 _ lk_Pr_52) (fun _ h9 => h9) rfl (t_Pr_ok 11 (by decide)) rfl rfl (Nat.le_of_ble_eq_true rfl) d_Pr_rule_74 (fun H locs Y => ?_)
            have e17 : (va_up f pr (.inr (7, [.ref nbo, .ref sno, .int pth, .int (nI ver), .int prd, .ref l18, .ref l17, .ref d18, .ref d17, .int lif, .int ren, .int a2, .int xpy]))) pr = .inr (7, [.ref nbo, .ref sno, .int pth, .int (nI ver), .int prd, .ref l18, .ref l17, .ref d18, .ref d17, .int lif, .int ren, .int a2, .int xpy]) := q_up
            have hF18 : ∀ x, x ≠ pr → (va_up f pr (.inr (7, [.ref nbo, .ref sno, .int pth, .int (nI ver), .int prd, .ref l18, .ref l17, .ref d18, .ref d17, .int lif, .int ren, .int a2, .int xpy]))) x = f x := fun x h0 => (q_ne h0).trans rfl
            have Y : pH D cCl (pA L sz) s.heap L (va_up f pr (.inr (7, [.ref nbo, .ref sno, .int pth, .int (nI ver), .int prd, .ref l18, .ref l17, .ref d18, .ref d17, .int lif, .int ren, .int a2, .int xpy]))) H locs := Y
            generalize (va_up f pr (.inr (7, [.ref nbo, .ref sno, .int pth, .int (nI ver), .int prd, .ref l18, .ref l17, .ref d18, .ref d17, .int lif, .int ren, .int a2, .int xpy]))) = f16 at Y e17 hF18
            refine lv_goto (tgt := 85) X.1 X.2.1 d_Pr_rule_77 (by decide) ?_
            refine lv_iconst (v := (nI 1)) X.1 X.2.1 d_Pr_rule_85 (by decide) ?_
            exact c_retz hQQ X Y hr hlk rfl ⟨rfl, hF18, (ver), (pth), (prd), (lif), (ren), (a2), (xpy), e17, (by unfold rulR; rw [if_pos (by simp only [Int32.lt_iff_toInt_lt, Int32.le_iff_toInt_le, ← Int32.toInt_inj, show (nI 0).toInt = 0 from rfl, show (nI 1).toInt = 1 from rfl, show (nI 2).toInt = 2 from rfl, show (nI 3).toInt = 3 from rfl, show (nI 4).toInt = 4 from rfl, show (nI 7).toInt = 7 from rfl, show (nI 8).toInt = 8 from rfl, show (nI 12).toInt = 12 from rfl, show (nI 32).toInt = 32 from rfl, show (nI 63).toInt = 63 from rfl, show (nI 200).toInt = 200 from rfl, show (nI 1000000).toInt = 1000000 from rfl, show (nI 10000000).toInt = 10000000 from rfl, show (nI 2000000000).toInt = 2000000000 from rfl, show (0 : Int32).toInt = 0 from rfl, show (-1 : Int32).toInt = -1 from rfl] at c1 c2 ea1 c14 c15 ⊢ <;> omega)])⟩ d_Pr_rule_86
          · skip
            refine lv_iconst (v := (nI 0)) X.1 X.2.1 d_Pr_rule_27 (by decide) ?_
            exact c_retz hQQ X Y hr hlk rfl ⟨rfl, (fun _ _ => rfl), (ver), (pth), (prd), (lif), (ren), (flg), (xpy), e_pr, (by unfold rulR; rw [if_neg (by simp only [Int32.lt_iff_toInt_lt, Int32.le_iff_toInt_le, ← Int32.toInt_inj, show (nI 0).toInt = 0 from rfl, show (nI 1).toInt = 1 from rfl, show (nI 2).toInt = 2 from rfl, show (nI 3).toInt = 3 from rfl, show (nI 4).toInt = 4 from rfl, show (nI 7).toInt = 7 from rfl, show (nI 8).toInt = 8 from rfl, show (nI 12).toInt = 12 from rfl, show (nI 32).toInt = 32 from rfl, show (nI 63).toInt = 63 from rfl, show (nI 200).toInt = 200 from rfl, show (nI 1000000).toInt = 1000000 from rfl, show (nI 10000000).toInt = 10000000 from rfl, show (nI 2000000000).toInt = 2000000000 from rfl, show (0 : Int32).toInt = 0 from rfl, show (-1 : Int32).toInt = -1 from rfl] at c1 c2 ea1 c14 c15 ⊢ <;> omega)])⟩ d_Pr_rule_28
      · skip
        subst hz
        have ea1 : a1 = nI 3 := en3
        refine lv_iload_n X.1 X.2.1 d_Pr_rule_9 rfl (lv_at hl 2 rfl) ?_
        refine k_gets 4 (by decide) X Y KS sk_Pr_86 d_Pr_rule_10 ?_
        refine lv_iload_n X.1 X.2.1 d_Pr_rule_13 rfl (lv_at hl 1 rfl) ?_
        refine t_eq ea1 ?_
        refine k_iald 4 (by decide) rfl X Y KS (vp_in_nI (show 3 < sL 4 by first | decide | exact (by omega : 3 < 4)) (by decide)) d_Pr_rule_14 ?_
        refine t_eq (y := nI 0) (by decide) ?_
        refine lv_icmp_lt (tgt := 27) X.1 X.2.1 d_Pr_rule_15 (by decide) (fun c19 => ?_) (fun c19 => ?_)
        · skip
          refine lv_iconst (v := (nI 0)) X.1 X.2.1 d_Pr_rule_27 (by decide) ?_
          exact c_retz hQQ X Y hr hlk rfl ⟨rfl, (fun _ _ => rfl), (ver), (pth), (prd), (lif), (ren), (flg), (xpy), e_pr, (by unfold rulR; rw [if_neg (by simp only [Int32.lt_iff_toInt_lt, Int32.le_iff_toInt_le, ← Int32.toInt_inj, show (nI 0).toInt = 0 from rfl, show (nI 1).toInt = 1 from rfl, show (nI 2).toInt = 2 from rfl, show (nI 3).toInt = 3 from rfl, show (nI 4).toInt = 4 from rfl, show (nI 7).toInt = 7 from rfl, show (nI 8).toInt = 8 from rfl, show (nI 12).toInt = 12 from rfl, show (nI 32).toInt = 32 from rfl, show (nI 63).toInt = 63 from rfl, show (nI 200).toInt = 200 from rfl, show (nI 1000000).toInt = 1000000 from rfl, show (nI 10000000).toInt = 10000000 from rfl, show (nI 2000000000).toInt = 2000000000 from rfl, show (0 : Int32).toInt = 0 from rfl, show (-1 : Int32).toInt = -1 from rfl] at c1 c2 ea1 c19 ⊢ <;> omega)])⟩ d_Pr_rule_28
        · skip
          refine lv_iload_n X.1 X.2.1 d_Pr_rule_18 rfl (lv_at hl 2 rfl) ?_
          refine k_gets 5 (by decide) X Y KS sk_Pr_90 d_Pr_rule_19 ?_
          refine lv_iload_n X.1 X.2.1 d_Pr_rule_22 rfl (lv_at hl 1 rfl) ?_
          refine t_eq ea1 ?_
          refine k_iald 5 (by decide) rfl X Y KS (vp_in_nI (show 3 < sL 5 by first | decide | exact (by omega : 3 < 4)) (by decide)) d_Pr_rule_23 ?_
          refine t_eq (y := nI 2000000000) (by decide) ?_
          refine lv_icmp_le (tgt := 29) X.1 X.2.1 d_Pr_rule_24 (by decide) (fun c20 => ?_) (fun c20 => ?_)
          · skip
            refine lv_iload_n X.1 X.2.1 d_Pr_rule_29 rfl (lv_at hl 1 rfl) ?_
            refine t_eq ea1 ?_
            refine lv_tableOut (x := nI 3) (tgt := 80) X.1 X.2.1 d_Pr_rule_30 (Or.inr (by decide)) (by decide) ?_
            refine lv_aload_n X.1 X.2.1 d_Pr_rule_80 rfl (lv_at hl 0 rfl) ?_
            refine lv_iload_n X.1 X.2.1 d_Pr_rule_81 rfl (lv_at hl 2 rfl) ?_
            refine q_put X.1 X.2.1 X.2.2.1 i_Pr t_Pr t_Pr_ok n_Pr X.2.2.2.1 X.2.2.2.2 Y m_pr e_pr rfl 12 (by decide) (X.2.2.1 _ lk_Pr_93) (fun _ h9 => h9) rfl (t_Pr_ok 12 (by decide)) rfl rfl (Nat.le_of_ble_eq_true rfl) d_Pr_rule_82 (fun H locs Y => ?_)
            have e22 : (va_up f pr (.inr (7, [.ref nbo, .ref sno, .int pth, .int (nI ver), .int prd, .ref l18, .ref l17, .ref d18, .ref d17, .int lif, .int ren, .int flg, .int a2]))) pr = .inr (7, [.ref nbo, .ref sno, .int pth, .int (nI ver), .int prd, .ref l18, .ref l17, .ref d18, .ref d17, .int lif, .int ren, .int flg, .int a2]) := q_up
            have hF23 : ∀ x, x ≠ pr → (va_up f pr (.inr (7, [.ref nbo, .ref sno, .int pth, .int (nI ver), .int prd, .ref l18, .ref l17, .ref d18, .ref d17, .int lif, .int ren, .int flg, .int a2]))) x = f x := fun x h0 => (q_ne h0).trans rfl
            have Y : pH D cCl (pA L sz) s.heap L (va_up f pr (.inr (7, [.ref nbo, .ref sno, .int pth, .int (nI ver), .int prd, .ref l18, .ref l17, .ref d18, .ref d17, .int lif, .int ren, .int flg, .int a2]))) H locs := Y
            generalize (va_up f pr (.inr (7, [.ref nbo, .ref sno, .int pth, .int (nI ver), .int prd, .ref l18, .ref l17, .ref d18, .ref d17, .int lif, .int ren, .int flg, .int a2]))) = f21 at Y e22 hF23
            refine lv_iconst (v := (nI 1)) X.1 X.2.1 d_Pr_rule_85 (by decide) ?_
            exact c_retz hQQ X Y hr hlk rfl ⟨rfl, hF23, (ver), (pth), (prd), (lif), (ren), (flg), (a2), e22, (by unfold rulR; rw [if_pos (by simp only [Int32.lt_iff_toInt_lt, Int32.le_iff_toInt_le, ← Int32.toInt_inj, show (nI 0).toInt = 0 from rfl, show (nI 1).toInt = 1 from rfl, show (nI 2).toInt = 2 from rfl, show (nI 3).toInt = 3 from rfl, show (nI 4).toInt = 4 from rfl, show (nI 7).toInt = 7 from rfl, show (nI 8).toInt = 8 from rfl, show (nI 12).toInt = 12 from rfl, show (nI 32).toInt = 32 from rfl, show (nI 63).toInt = 63 from rfl, show (nI 200).toInt = 200 from rfl, show (nI 1000000).toInt = 1000000 from rfl, show (nI 10000000).toInt = 10000000 from rfl, show (nI 2000000000).toInt = 2000000000 from rfl, show (0 : Int32).toInt = 0 from rfl, show (-1 : Int32).toInt = -1 from rfl] at c1 c2 ea1 c19 c20 ⊢ <;> omega)])⟩ d_Pr_rule_86
          · skip
            refine lv_iconst (v := (nI 0)) X.1 X.2.1 d_Pr_rule_27 (by decide) ?_
            exact c_retz hQQ X Y hr hlk rfl ⟨rfl, (fun _ _ => rfl), (ver), (pth), (prd), (lif), (ren), (flg), (xpy), e_pr, (by unfold rulR; rw [if_neg (by simp only [Int32.lt_iff_toInt_lt, Int32.le_iff_toInt_le, ← Int32.toInt_inj, show (nI 0).toInt = 0 from rfl, show (nI 1).toInt = 1 from rfl, show (nI 2).toInt = 2 from rfl, show (nI 3).toInt = 3 from rfl, show (nI 4).toInt = 4 from rfl, show (nI 7).toInt = 7 from rfl, show (nI 8).toInt = 8 from rfl, show (nI 12).toInt = 12 from rfl, show (nI 32).toInt = 32 from rfl, show (nI 63).toInt = 63 from rfl, show (nI 200).toInt = 200 from rfl, show (nI 1000000).toInt = 1000000 from rfl, show (nI 10000000).toInt = 10000000 from rfl, show (nI 2000000000).toInt = 2000000000 from rfl, show (0 : Int32).toInt = 0 from rfl, show (-1 : Int32).toInt = -1 from rfl] at c1 c2 ea1 c19 c20 ⊢ <;> omega)])⟩ d_Pr_rule_28
set_option maxHeartbeats 4000000 in
set_option maxRecDepth 100000 in
theorem c_By_at_empty (l : Launch) (D : va_G) (E : cE) (T : cT) (L : List Nat) (f : pF) (sz : Nat) (N b r : Nat) (g_r : Nat → Int32) (m_b : b ∈ L) (m_r : r ∈ L) (e_b : f b = .inr (3, [.ref r, .int (nI 0)])) (e_r : f r = .inl (E.1, N, .inl g_r)) (f_r : fB g_r) : Met l y_By_at (k_By_at :: lw_tg) (kRm 0 0 0 (0)) (va_Pc [.ref b, .int (nI 0)] (kPre D E T L f sz)) (va_Qi (fun (r0 : Int32) (u : cU) => u.1 = L ∧ (∀ x, u.2 x = f x) ∧ (r0 = (-1))) (cPost D E (pA L sz)) (pA L sz)) 0 (0) (pA L sz) := by
  refine k_enter (own := R_By) (by decide) rfl (Nat.le_of_ble_eq_true rfl) (fun p e s m below meth c ls AV QQ H locs hQQ X Y hA hin hr hlk hml hl KS KR => ?_)
  have hl : lv_has ls 2 [(0, .ref b), (1, .int (nI 0))] := hl
  refine lv_iload_n X.1 X.2.1 d_By_at_0 rfl (lv_at hl 1 rfl) ?_
  refine lv_if_lt (tgt := 25) X.1 X.2.1 d_By_at_1 (by decide) (fun c1 => absurd c1 ?_) (fun c1 => ?_)
  · (rw [← nI_0, nI_ltI (by omega) (by omega)] <;> omega)
  rw [← nI_0] at c1
  rw [nI_ltI (by omega) (by omega)] at c1
  refine lv_iload_n X.1 X.2.1 d_By_at_4 rfl (lv_at hl 1 rfl) ?_
  refine lv_aload_n X.1 X.2.1 d_By_at_5 rfl (lv_at hl 0 rfl) ?_
  refine q_get X.1 X.2.1 X.2.2.1 i_By X.2.2.2.1 X.2.2.2.2 Y m_b e_b rfl 1 (by decide) (X.2.2.1 _ lk_By_21) (fun _ h9 => h9) rfl d_By_at_6 ?_
  refine lv_icmp_ge (tgt := 25) X.1 X.2.1 d_By_at_9 (by decide) (fun c2 => ?_) (fun c2 => absurd ?_ c2)
  rotate_left
  · (rw [nI_leI (by omega) (by omega)] <;> omega)
  rw [nI_leI (by omega) (by omega)] at c2
  refine lv_iconst (v := (-1)) X.1 X.2.1 d_By_at_25 (by decide) ?_
  exact c_reti hQQ X Y hr hlk ⟨rfl, (fun _ => rfl), rfl⟩ d_By_at_26
set_option maxHeartbeats 4000000 in
set_option maxRecDepth 100000 in
theorem c_By_stop_neg (l : Launch) (D : va_G) (E : cE) (T : cT) (L : List Nat) (f : pF) (sz : Nat) (a1 : Int32) (a2 : Int32) (N b r : Nat) (g_r : Nat → Int32) (m_b : b ∈ L) (m_r : r ∈ L) (e_b : f b = .inr (3, [.ref r, .int (nI 0)])) (e_r : f r = .inl (E.1, N, .inl g_r)) (f_r : fB g_r) (hh0 : a1 < 0) : Met l y_By_stop (k_By_stop :: lw_tg) (kRm 0 0 0 (0)) (va_Pc [.ref b, .int a1, .int a2] (kPre D E T L f sz)) (va_Qi (fun (r0 : Int32) (u : cU) => u.1 = L ∧ (∀ x, u.2 x = f x) ∧ (r0 = (-1))) (cPost D E (pA L sz)) (pA L sz)) 0 (0) (pA L sz) := by
  refine k_enter (own := R_By) (by decide) rfl (Nat.le_of_ble_eq_true rfl) (fun p e s m below meth c ls AV QQ H locs hQQ X Y hA hin hr hlk hml hl KS KR => ?_)
  have hl : lv_has ls 6 [(0, .ref b), (1, .int a1), (2, .int a2)] := hl
  refine lv_iload_n X.1 X.2.1 d_By_stop_0 rfl (lv_at hl 1 rfl) ?_
  refine lv_if_lt (tgt := 19) X.1 X.2.1 d_By_stop_1 (by decide) (fun c1 => ?_) (fun c1 => absurd ?_ c1)
  rotate_left
  · exact hh0
  refine lv_iconst (v := (-1)) X.1 X.2.1 d_By_stop_19 (by decide) ?_
  exact c_reti hQQ X Y hr hlk ⟨rfl, (fun _ => rfl), rfl⟩ d_By_stop_20
set_option maxHeartbeats 4000000 in
set_option maxRecDepth 100000 in
theorem c_By_body_neg (l : Launch) (D : va_G) (E : cE) (T : cT) (L : List Nat) (f : pF) (sz : Nat) (a1 : Int32) (N b r : Nat) (g_r : Nat → Int32) (m_b : b ∈ L) (m_r : r ∈ L) (e_b : f b = .inr (3, [.ref r, .int (nI 0)])) (e_r : f r = .inl (E.1, N, .inl g_r)) (f_r : fB g_r) (hh0 : a1 < 0) : Met l y_By_body (k_By_body :: lw_tg) (kRm 0 0 0 (0)) (va_Pc [.ref b, .int a1] (kPre D E T L f sz)) (va_Qi (fun (r0 : Int32) (u : cU) => u.1 = L ∧ (∀ x, u.2 x = f x) ∧ (r0 = (-1))) (cPost D E (pA L sz)) (pA L sz)) 0 (0) (pA L sz) := by
  refine k_enter (own := R_By) (by decide) rfl (Nat.le_of_ble_eq_true rfl) (fun p e s m below meth c ls AV QQ H locs hQQ X Y hA hin hr hlk hml hl KS KR => ?_)
  have hl : lv_has ls 3 [(0, .ref b), (1, .int a1)] := hl
  refine lv_iload_n X.1 X.2.1 d_By_body_0 rfl (lv_at hl 1 rfl) ?_
  refine lv_if_lt (tgt := 14) X.1 X.2.1 d_By_body_1 (by decide) (fun c1 => ?_) (fun c1 => absurd ?_ c1)
  rotate_left
  · exact hh0
  refine lv_iconst (v := (-1)) X.1 X.2.1 d_By_body_14 (by decide) ?_
  exact c_reti hQQ X Y hr hlk ⟨rfl, (fun _ => rfl), rfl⟩ d_By_body_15
set_option maxHeartbeats 4000000 in
set_option maxRecDepth 100000 in
theorem c_By_field_neg (l : Launch) (D : va_G) (E : cE) (T : cT) (L : List Nat) (f : pF) (sz : Nat) (a1 : Int32) (a2 : Int32) (N b r : Nat) (g_r : Nat → Int32) (m_b : b ∈ L) (m_r : r ∈ L) (e_b : f b = .inr (3, [.ref r, .int (nI 0)])) (e_r : f r = .inl (E.1, N, .inl g_r)) (f_r : fB g_r) (hh0 : a1 < 0) : Met l y_By_field (k_By_field :: lw_tg) (kRm 1 25 0 (0)) (va_Pc [.ref b, .int a1, .int a2] (kPre D E T L f sz)) (va_Qi (fun (r0 : Int32) (u : cU) => u.1 = L ∧ (∀ x, u.2 x = f x) ∧ (r0 = (-1))) (cPost D E (pA L sz)) (pA L sz)) 0 (0) (pA L sz) := by
  refine k_enter (own := R_By) (by decide) rfl (Nat.le_of_ble_eq_true rfl) (fun p e s m below meth c ls AV QQ H locs hQQ X Y hA hin hr hlk hml hl KS KR => ?_)
  have hl : lv_has ls 8 [(0, .ref b), (1, .int a1), (2, .int a2)] := hl
  refine lv_iload_n X.1 X.2.1 d_By_field_0 rfl (lv_at hl 1 rfl) ?_
  refine lv_if_lt (tgt := 25) X.1 X.2.1 d_By_field_1 (by decide) (fun c1 => ?_) (fun c1 => absurd ?_ c1)
  rotate_left
  · exact hh0
  refine lv_iconst (v := (nI 0)) X.1 X.2.1 d_By_field_25 (by decide) ?_
  refine lv_istore_n (lv' := [(3, .int (nI 0)), (0, .ref b), (1, .int a1), (2, .int a2)]) X.1 X.2.1 d_By_field_26 rfl hl (by decide) rfl (fun ls hl => ?_)
  refine lv_iload_n X.1 X.2.1 d_By_field_27 rfl (lv_at hl 0 rfl) ?_
  refine lv_bipush (v := (nI 96)) X.1 X.2.1 d_By_field_28 (by decide) ?_
  refine lv_icmp_ne (tgt := 41) X.1 X.2.1 d_By_field_30 (by decide) (fun c2 => ?_) (fun c2 => absurd c2 ?_)
  rotate_left
  · (rw [nI_eq (by omega) (by omega)] <;> omega)
  rw [nI_eq (by omega) (by omega)] at c2
  refine lv_iload_n X.1 X.2.1 d_By_field_41 rfl (lv_at hl 2 rfl) ?_
  refine lv_istore (lv' := [(4, .int a1), (3, .int (nI 0)), (0, .ref b), (1, .int a1), (2, .int a2)]) X.1 X.2.1 d_By_field_42 hl (by decide) rfl (fun ls hl => ?_)
  refine lv_aload_n X.1 X.2.1 d_By_field_44 rfl (lv_at hl 2 rfl) ?_
  refine lv_iload X.1 X.2.1 d_By_field_45 (lv_at hl 0 rfl) ?_
  refine lv_aload_n X.1 X.2.1 d_By_field_47 rfl (lv_at hl 2 rfl) ?_
  refine q_get X.1 X.2.1 X.2.2.1 i_By X.2.2.2.1 X.2.2.2.2 Y m_b e_b rfl 1 (by decide) (X.2.2.1 _ lk_By_21) (fun _ h9 => h9) rfl d_By_field_48 ?_
  refine x_i (x_runV (As := [.int a1, .int (nI 0)]) (rest := []) (n := 2) X Y hml hl.1 (c_By_stop_neg l D E T L f H.size (a1) ((nI 0)) (N) b r g_r m_b m_r e_b e_r f_r hh0) (ok_k X Y hA KS KR) m_b e_b rfl kl_By_By_stop ks_By_stop kx_By_stop ki_By_stop ini_By ⟨rfl, rfl⟩ hd_By_stop ⟨by decide, by decide⟩ rfl (Nat.le_of_ble_eq_true rfl) d_By_field_51 ⟨(show 0 + 0 ≤ 0 by omega), (show 0 + (0) ≤ (0) by omega)⟩) X Y hA (fun r3 u H locs hp Y => ?_)
  obtain ⟨L5, f4⟩ := u
  obtain ⟨eL7, hF6, pr8⟩ := hp
  dsimp only at eL7 hF6 pr8 Y
  rw [eL7] at Y
  rw [show f4 = f from funext hF6] at Y
  refine t_eq pr8 ?_
  refine lv_istore (lv' := [(5, .int (-1)), (4, .int a1), (3, .int (nI 0)), (0, .ref b), (1, .int a1), (2, .int a2)]) X.1 X.2.1 d_By_field_54 hl (by decide) rfl (fun ls hl => ?_)
  refine lv_aload_n X.1 X.2.1 d_By_field_56 rfl (lv_at hl 3 rfl) ?_
  refine lv_iload X.1 X.2.1 d_By_field_57 (lv_at hl 1 rfl) ?_
  refine x_i (x_runV (As := [.int a1]) (rest := []) (n := 1) X Y hml hl.1 (c_By_body_neg l D E T L f H.size (a1) (N) b r g_r m_b m_r e_b e_r f_r hh0) (ok_k X Y hA KS KR) m_b e_b rfl kl_By_By_body ks_By_body kx_By_body ki_By_body ini_By ⟨rfl, rfl⟩ hd_By_body ⟨by decide, by decide⟩ rfl (Nat.le_of_ble_eq_true rfl) d_By_field_59 ⟨(show 0 + 0 ≤ 0 by omega), (show 0 + (0) ≤ (0) by omega)⟩) X Y hA (fun r9 u H locs hp Y => ?_)
  obtain ⟨L11, f10⟩ := u
  obtain ⟨eL13, hF12, pr14⟩ := hp
  dsimp only at eL13 hF12 pr14 Y
  rw [eL13] at Y
  rw [show f10 = f from funext hF12] at Y
  refine t_eq pr14 ?_
  refine lv_istore (lv' := [(6, .int (-1)), (5, .int (-1)), (4, .int a1), (3, .int (nI 0)), (0, .ref b), (1, .int a1), (2, .int a2)]) X.1 X.2.1 d_By_field_62 hl (by decide) rfl (fun ls hl => ?_)
  refine lv_iconst (v := (nI 0)) X.1 X.2.1 d_By_field_64 (by decide) ?_
  refine lv_istore (lv' := [(7, .int (nI 0)), (6, .int (-1)), (5, .int (-1)), (4, .int a1), (3, .int (nI 0)), (0, .ref b), (1, .int a1), (2, .int a2)]) X.1 X.2.1 d_By_field_65 hl (by decide) rfl (fun ls hl => ?_)
  refine lv_iload X.1 X.2.1 d_By_field_67 (lv_at hl 0 rfl) ?_
  refine lv_bipush (v := (nI 13)) X.1 X.2.1 d_By_field_69 (by decide) ?_
  refine lv_icmp_ge (tgt := 128) X.1 X.2.1 d_By_field_71 (by decide) (fun c15 => absurd c15 ?_) (fun c15 => ?_)
  · (rw [nI_leI (by omega) (by omega)] <;> omega)
  rw [nI_leI (by omega) (by omega)] at c15
  refine lv_iload X.1 X.2.1 d_By_field_74 (lv_at hl 1 rfl) ?_
  refine lv_if_lt (tgt := 128) X.1 X.2.1 d_By_field_76 (by decide) (fun c16 => ?_) (fun c16 => absurd ?_ c16)
  rotate_left
  · decide
  refine lv_iconst (v := (-1)) X.1 X.2.1 d_By_field_128 (by decide) ?_
  exact c_reti hQQ X Y hr hlk ⟨rfl, (fun _ => rfl), rfl⟩ d_By_field_129
set_option maxHeartbeats 4000000 in
set_option maxRecDepth 100000 in
theorem c_Ga_judge_empty (l : Launch) (D : va_G) (E : cE) (T : cT) (L : List Nat) (f : pF) (sz : Nat) (hst0 : Nat) (sno0 : Nat) (a6 : Int32) (N ga b r vo gpo gqo gko : Nat) (mst : Int32) (g_r : Nat → Int32) (m_ga : ga ∈ L) (m_b : b ∈ L) (m_r : r ∈ L) (e_ga : f ga = .inr (5, [.ref vo, .ref gpo, .ref gqo, .ref gko, .int mst])) (e_b : f b = .inr (3, [.ref r, .int (nI 0)])) (e_r : f r = .inl (E.1, N, .inl g_r)) (f_r : fB g_r) : Met l y_Ga_judge (k_Ga_judge :: lw_tg) (kRm 3 74 0 (0)) (va_Pc [.ref ga, .ref b, .int (nI 0), .int (nI 0), .ref hst0, .ref sno0, .int a6] (kPre D E T L f sz)) (va_Qi (fun (r0 : Int32) (u : cU) => u.1 = L ∧ (∀ x, u.2 x = f x) ∧ (r0 = nI 60)) (cPost D E (pA L sz)) (pA L sz)) 0 (0) (pA L sz) := by
  refine k_enter (own := R_Ga) (by decide) rfl (Nat.le_of_ble_eq_true rfl) (fun p e s m below meth c ls AV QQ H locs hQQ X Y hA hin hr hlk hml hl KS KR => ?_)
  have hl : lv_has ls 9 [(0, .ref ga), (1, .ref b), (2, .int (nI 0)), (3, .int (nI 0)), (4, .ref hst0), (5, .ref sno0), (6, .int a6)] := hl
  refine lv_aload_n X.1 X.2.1 d_Ga_judge_0 rfl (lv_at hl 1 rfl) ?_
  refine lv_sipush (v := (nI 366)) X.1 X.2.1 d_Ga_judge_1 (by decide) ?_
  refine lv_iload_n X.1 X.2.1 d_Ga_judge_4 rfl (lv_at hl 2 rfl) ?_
  refine lv_iload_n X.1 X.2.1 d_Ga_judge_5 rfl (lv_at hl 3 rfl) ?_
  refine x_i (x_runV (As := [.int (nI 366), .int (nI 0), .int (nI 0)]) (rest := []) (n := 3) X Y hml hl.1 (c_By_isA_empty l D E L f H.size (N) (nI 366) b r (0) g_r m_b m_r e_b e_r f_r (by omega)) (ok_c X Y) m_b e_b rfl kl_Ga_By_isA ks_By_isA kx_By_isA ki_By_isA ini_By ⟨rfl, rfl⟩ hd_By_isA ⟨by decide, by decide⟩ rfl (Nat.le_of_ble_eq_true rfl) d_Ga_judge_6 ⟨(show 0 + 0 ≤ 0 by omega), (show 0 + (0) ≤ (0) by omega)⟩) X Y hA (fun r4 u H locs hp Y => ?_)
  obtain ⟨L2, f1⟩ := u
  obtain ⟨eL5, hF3, pr6⟩ := hp
  dsimp only at eL5 hF3 pr6 Y
  rw [eL5] at Y
  rw [show f1 = f from funext hF3] at Y
  refine t_eq pr6 ?_
  refine lv_if_ne (tgt := 15) X.1 X.2.1 d_Ga_judge_9 (by decide) (fun c7 => absurd c7 ?_) (fun c7 => ?_)
  · (rw [← nI_0, nI_eq (by omega) (by omega)] <;> omega)
  rw [← nI_0] at c7
  rw [nI_eq (by omega) (by omega)] at c7
  refine lv_bipush (v := (nI 60)) X.1 X.2.1 d_Ga_judge_12 (by decide) ?_
  exact c_reti hQQ X Y hr hlk ⟨rfl, (fun _ => rfl), rfl⟩ d_Ga_judge_14
set_option maxHeartbeats 4000000 in
set_option maxRecDepth 100000 in
theorem c_Ce_judge_empty (l : Launch) (D : va_G) (E : cE) (T : cT) (L : List Nat) (f : pF) (sz : Nat) (N ce b r vo gao pao sbo cso cl1 cl2 : Nat) (ce_initial ce_read ce_body ce_options ce_etype ce_flags ce_endTime ce_renewTill : Int32) (g_r : Nat → Int32) (m_ce : ce ∈ L) (m_b : b ∈ L) (m_r : r ∈ L) (e_ce : f ce = .inr (4, [.ref vo, .ref gao, .ref pao, .ref b, .ref sbo, .ref cso, .int ce_initial, .int ce_read, .int ce_body, .int ce_options, .ref cl1, .ref cl2, .int ce_etype, .int ce_flags, .int ce_endTime, .int ce_renewTill])) (e_b : f b = .inr (3, [.ref r, .int (nI 0)])) (e_r : f r = .inl (E.1, N, .inl g_r)) (f_r : fB g_r) : Met l y_Ce_judge (k_Ce_judge :: lw_tg) (kRm 1 21 0 (0)) (va_Pc [.ref ce] (kPre D E T L f sz)) (va_Qi (fun (r0 : Int32) (u : cU) => u.1 = L ∧ (∀ x, x ≠ ce → u.2 x = f x) ∧ u.2 ce = .inr (4, [.ref vo, .ref gao, .ref pao, .ref b, .ref sbo, .ref cso, .int (nI 0), .int (nI 0), .int ce_body, .int ce_options, .ref cl1, .ref cl2, .int ce_etype, .int ce_flags, .int ce_endTime, .int ce_renewTill]) ∧ (r0 = nI 60)) (cPost D E (pA L sz)) (pA L sz)) 0 (0) (pA L sz) := by
  refine k_enter (own := R_Ce) (by decide) rfl (Nat.le_of_ble_eq_true rfl) (fun p e s m below meth c ls AV QQ H locs hQQ X Y hA hin hr hlk hml hl KS KR => ?_)
  have hl : lv_has ls 2 [(0, .ref ce)] := hl
  refine lv_aload_n X.1 X.2.1 d_Ce_judge_0 rfl (lv_at hl 0 rfl) ?_
  refine q_get X.1 X.2.1 X.2.2.1 i_Ce X.2.2.2.1 X.2.2.2.2 Y m_ce e_ce rfl 3 (by decide) (X.2.2.1 _ lk_Ce_30) (fun _ h9 => h9) rfl d_Ce_judge_1 ?_
  refine lv_iconst (v := (nI 0)) X.1 X.2.1 d_Ce_judge_4 (by decide) ?_
  refine x_i (x_runV (As := [.int (nI 0)]) (rest := []) (n := 1) X Y hml hl.1 (c_By_at_empty l D E T L f H.size (N) b r g_r m_b m_r e_b e_r f_r) (ok_k X Y hA KS KR) m_b e_b rfl kl_Ce_By_at ks_By_at kx_By_at ki_By_at ini_By ⟨rfl, rfl⟩ hd_By_at ⟨by decide, by decide⟩ rfl (Nat.le_of_ble_eq_true rfl) d_Ce_judge_5 ⟨(show 0 + 0 ≤ 0 by omega), (show 0 + (0) ≤ (0) by omega)⟩) X Y hA (fun r1 u H locs hp Y => ?_)
  obtain ⟨L3, f2⟩ := u
  obtain ⟨eL5, hF4, pr6⟩ := hp
  dsimp only at eL5 hF4 pr6 Y
  rw [eL5] at Y
  rw [show f2 = f from funext hF4] at Y
  refine t_eq pr6 ?_
  refine lv_istore_n (lv' := [(1, .int (-1)), (0, .ref ce)]) X.1 X.2.1 d_Ce_judge_8 rfl hl (by decide) rfl (fun ls hl => ?_)
  refine lv_aload_n X.1 X.2.1 d_Ce_judge_9 rfl (lv_at hl 1 rfl) ?_
  refine lv_iload_n X.1 X.2.1 d_Ce_judge_10 rfl (lv_at hl 0 rfl) ?_
  refine lv_bipush (v := (nI 106)) X.1 X.2.1 d_Ce_judge_11 (by decide) ?_
  refine lv_icmp_ne (tgt := 20) X.1 X.2.1 d_Ce_judge_13 (by decide) (fun c7 => ?_) (fun c7 => absurd c7 ?_)
  rotate_left
  · decide
  refine lv_iconst (v := (nI 0)) X.1 X.2.1 d_Ce_judge_20 (by decide) ?_
  refine q_put X.1 X.2.1 X.2.2.1 i_Ce t_Ce t_Ce_ok n_Ce X.2.2.2.1 X.2.2.2.2 Y m_ce e_ce rfl 6 (by decide) (X.2.2.1 _ lk_Ce_65) (fun _ h9 => h9) rfl (t_Ce_ok 6 (by decide)) rfl rfl (Nat.le_of_ble_eq_true rfl) d_Ce_judge_21 (fun H locs Y => ?_)
  have e9 : (va_up f ce (.inr (4, [.ref vo, .ref gao, .ref pao, .ref b, .ref sbo, .ref cso, .int (nI 0), .int ce_read, .int ce_body, .int ce_options, .ref cl1, .ref cl2, .int ce_etype, .int ce_flags, .int ce_endTime, .int ce_renewTill]))) ce = .inr (4, [.ref vo, .ref gao, .ref pao, .ref b, .ref sbo, .ref cso, .int (nI 0), .int ce_read, .int ce_body, .int ce_options, .ref cl1, .ref cl2, .int ce_etype, .int ce_flags, .int ce_endTime, .int ce_renewTill]) := q_up
  have e10 : (va_up f ce (.inr (4, [.ref vo, .ref gao, .ref pao, .ref b, .ref sbo, .ref cso, .int (nI 0), .int ce_read, .int ce_body, .int ce_options, .ref cl1, .ref cl2, .int ce_etype, .int ce_flags, .int ce_endTime, .int ce_renewTill]))) b = .inr (3, [.ref r, .int (nI 0)]) := (q_ne (q_tag e_b e_ce (show (3 : Nat) ≠ 4 by decide))).trans e_b
  have e11 : (va_up f ce (.inr (4, [.ref vo, .ref gao, .ref pao, .ref b, .ref sbo, .ref cso, .int (nI 0), .int ce_read, .int ce_body, .int ce_options, .ref cl1, .ref cl2, .int ce_etype, .int ce_flags, .int ce_endTime, .int ce_renewTill]))) r = .inl (E.1, N, .inl g_r) := (q_ne (q_tag e_r e_ce (show (1000 : Nat) ≠ 4 by decide))).trans e_r
  have hF12 : ∀ x, x ≠ ce → (va_up f ce (.inr (4, [.ref vo, .ref gao, .ref pao, .ref b, .ref sbo, .ref cso, .int (nI 0), .int ce_read, .int ce_body, .int ce_options, .ref cl1, .ref cl2, .int ce_etype, .int ce_flags, .int ce_endTime, .int ce_renewTill]))) x = f x := fun x h0 => (q_ne h0).trans rfl
  have Y : pH D cCl (pA L sz) s.heap L (va_up f ce (.inr (4, [.ref vo, .ref gao, .ref pao, .ref b, .ref sbo, .ref cso, .int (nI 0), .int ce_read, .int ce_body, .int ce_options, .ref cl1, .ref cl2, .int ce_etype, .int ce_flags, .int ce_endTime, .int ce_renewTill]))) H locs := Y
  generalize (va_up f ce (.inr (4, [.ref vo, .ref gao, .ref pao, .ref b, .ref sbo, .ref cso, .int (nI 0), .int ce_read, .int ce_body, .int ce_options, .ref cl1, .ref cl2, .int ce_etype, .int ce_flags, .int ce_endTime, .int ce_renewTill]))) = f8 at Y e9 e10 e11 hF12
  refine lv_aload_n X.1 X.2.1 d_Ce_judge_24 rfl (lv_at hl 1 rfl) ?_
  refine lv_aload_n X.1 X.2.1 d_Ce_judge_25 rfl (lv_at hl 1 rfl) ?_
  refine q_get X.1 X.2.1 X.2.2.1 i_Ce X.2.2.2.1 X.2.2.2.2 Y m_ce e9 rfl 6 (by decide) (X.2.2.1 _ lk_Ce_65) (fun _ h9 => h9) rfl d_Ce_judge_26 ?_
  refine lv_if_ne (tgt := 38) X.1 X.2.1 d_Ce_judge_29 (by decide) (fun c13 => absurd c13 ?_) (fun c13 => ?_)
  · (rw [← nI_0, nI_eq (by omega) (by omega)] <;> omega)
  rw [← nI_0] at c13
  rw [nI_eq (by omega) (by omega)] at c13
  refine lv_iload_n X.1 X.2.1 d_Ce_judge_32 rfl (lv_at hl 0 rfl) ?_
  refine lv_bipush (v := (nI 108)) X.1 X.2.1 d_Ce_judge_33 (by decide) ?_
  refine lv_icmp_ne (tgt := 65) X.1 X.2.1 d_Ce_judge_35 (by decide) (fun c14 => ?_) (fun c14 => absurd c14 ?_)
  rotate_left
  · decide
  refine lv_iconst (v := (nI 0)) X.1 X.2.1 d_Ce_judge_65 (by decide) ?_
  refine q_put X.1 X.2.1 X.2.2.1 i_Ce t_Ce t_Ce_ok n_Ce X.2.2.2.1 X.2.2.2.2 Y m_ce e9 rfl 7 (by decide) (X.2.2.1 _ lk_Ce_76) (fun _ h9 => h9) rfl (t_Ce_ok 7 (by decide)) rfl rfl (Nat.le_of_ble_eq_true rfl) d_Ce_judge_66 (fun H locs Y => ?_)
  have e16 : (va_up f8 ce (.inr (4, [.ref vo, .ref gao, .ref pao, .ref b, .ref sbo, .ref cso, .int (nI 0), .int (nI 0), .int ce_body, .int ce_options, .ref cl1, .ref cl2, .int ce_etype, .int ce_flags, .int ce_endTime, .int ce_renewTill]))) ce = .inr (4, [.ref vo, .ref gao, .ref pao, .ref b, .ref sbo, .ref cso, .int (nI 0), .int (nI 0), .int ce_body, .int ce_options, .ref cl1, .ref cl2, .int ce_etype, .int ce_flags, .int ce_endTime, .int ce_renewTill]) := q_up
  have e17 : (va_up f8 ce (.inr (4, [.ref vo, .ref gao, .ref pao, .ref b, .ref sbo, .ref cso, .int (nI 0), .int (nI 0), .int ce_body, .int ce_options, .ref cl1, .ref cl2, .int ce_etype, .int ce_flags, .int ce_endTime, .int ce_renewTill]))) b = .inr (3, [.ref r, .int (nI 0)]) := (q_ne (q_tag e10 e9 (show (3 : Nat) ≠ 4 by decide))).trans e10
  have e18 : (va_up f8 ce (.inr (4, [.ref vo, .ref gao, .ref pao, .ref b, .ref sbo, .ref cso, .int (nI 0), .int (nI 0), .int ce_body, .int ce_options, .ref cl1, .ref cl2, .int ce_etype, .int ce_flags, .int ce_endTime, .int ce_renewTill]))) r = .inl (E.1, N, .inl g_r) := (q_ne (q_tag e11 e9 (show (1000 : Nat) ≠ 4 by decide))).trans e11
  have hF19 : ∀ x, x ≠ ce → (va_up f8 ce (.inr (4, [.ref vo, .ref gao, .ref pao, .ref b, .ref sbo, .ref cso, .int (nI 0), .int (nI 0), .int ce_body, .int ce_options, .ref cl1, .ref cl2, .int ce_etype, .int ce_flags, .int ce_endTime, .int ce_renewTill]))) x = f x := fun x h0 => (q_ne h0).trans (hF12 x h0)
  have Y : pH D cCl (pA L sz) s.heap L (va_up f8 ce (.inr (4, [.ref vo, .ref gao, .ref pao, .ref b, .ref sbo, .ref cso, .int (nI 0), .int (nI 0), .int ce_body, .int ce_options, .ref cl1, .ref cl2, .int ce_etype, .int ce_flags, .int ce_endTime, .int ce_renewTill]))) H locs := Y
  generalize (va_up f8 ce (.inr (4, [.ref vo, .ref gao, .ref pao, .ref b, .ref sbo, .ref cso, .int (nI 0), .int (nI 0), .int ce_body, .int ce_options, .ref cl1, .ref cl2, .int ce_etype, .int ce_flags, .int ce_endTime, .int ce_renewTill]))) = f15 at Y e16 e17 e18 hF19
  refine lv_aload_n X.1 X.2.1 d_Ce_judge_69 rfl (lv_at hl 1 rfl) ?_
  refine q_get X.1 X.2.1 X.2.2.1 i_Ce X.2.2.2.1 X.2.2.2.2 Y m_ce e16 rfl 7 (by decide) (X.2.2.1 _ lk_Ce_76) (fun _ h9 => h9) rfl d_Ce_judge_70 ?_
  refine lv_if_ne (tgt := 79) X.1 X.2.1 d_Ce_judge_73 (by decide) (fun c20 => absurd c20 ?_) (fun c20 => ?_)
  · (rw [← nI_0, nI_eq (by omega) (by omega)] <;> omega)
  rw [← nI_0] at c20
  rw [nI_eq (by omega) (by omega)] at c20
  refine lv_bipush (v := (nI 60)) X.1 X.2.1 d_Ce_judge_76 (by decide) ?_
  exact c_reti hQQ X Y hr hlk ⟨rfl, hF19, e16, rfl⟩ d_Ce_judge_78
set_option maxHeartbeats 4000000 in
set_option maxRecDepth 100000 in
theorem c_Ce_putError_empty (l : Launch) (D : va_G) (E : cE) (T : cT) (L : List Nat) (f : pF) (sz : Nat) (N NS M ce b r sb sr v pa pr b2 r2 gao cso cl1 cl2 txo dro v_hash v_aes v_seed coo deo v_turned v_brief sno l18 l17 d18 d17 sn n3 : Nat) (ce_body ce_options ce_etype ce_flags ce_endTime ce_renewTill now ssz cat crw pth ver prd lif ren flg xpy : Int32) (g_r g_sr g_r2 : Nat → Int32) (g_pa : Nat → Option Nat) (m_ce : ce ∈ L) (m_b : b ∈ L) (m_r : r ∈ L) (m_sb : sb ∈ L) (m_sr : sr ∈ L) (m_v : v ∈ L) (m_pa : pa ∈ L) (m_pr : pr ∈ L) (m_b2 : b2 ∈ L) (m_r2 : r2 ∈ L) (e_ce : f ce = .inr (4, [.ref v, .ref gao, .ref pa, .ref b, .ref sb, .ref cso, .int (nI 0), .int (nI 0), .int ce_body, .int ce_options, .ref cl1, .ref cl2, .int ce_etype, .int ce_flags, .int ce_endTime, .int ce_renewTill])) (e_b : f b = .inr (3, [.ref r, .int (nI 0)])) (e_r : f r = .inl (E.1, N, .inl g_r)) (e_sb : f sb = .inr (3, [.ref sr, .int (nI sn)])) (e_sr : f sr = .inl (E.1, NS, .inl g_sr)) (e_v : f v = .inr (11, [.int now, .ref txo, .ref dro, .ref v_hash, .ref v_aes, .ref v_seed, .int ssz, .ref coo, .int cat, .int crw, .ref deo, .ref v_turned, .ref v_brief])) (e_pa : f pa = .inl (E.2.2.1, 12, .inr (.inr (.inr (.inr g_pa))))) (e_pr : f pr = .inr (7, [.ref b2, .ref sno, .int pth, .int ver, .int prd, .ref l18, .ref l17, .ref d18, .ref d17, .int lif, .int ren, .int flg, .int xpy])) (e_b2 : f b2 = .inr (3, [.ref r2, .int (nI n3)])) (e_r2 : f r2 = .inl (E.1, M, .inl g_r2)) (f_r : fB g_r) (f_sr : fB g_sr) (f_r2 : fB g_r2) (ap_b_sb : b ≠ sb) (ap_b_b2 : b ≠ b2) (ap_r_sr : r ≠ sr) (ap_r_pa : r ≠ pa) (ap_r_r2 : r ≠ r2) (ap_sb_b2 : sb ≠ b2) (ap_sr_pa : sr ≠ pa) (ap_sr_r2 : sr ≠ r2) (ap_pa_r2 : pa ≠ r2) (hh0 : g_pa 0 = some pr) (hh1 : sn ≤ NS) (hh2 : NS < 100000) (hh3 : n3 ≤ M) (hh4 : M < 100000) : Met l y_Ce_putError (k_Ce_putError :: lw_tg) (kRm 7 156 0 (0)) (va_Pc [.ref ce, .int (nI 60)] (kPre D E T L f sz)) (va_Qv (fun (u : cU) => u.1 = L ∧ (∀ x, x ≠ sb → x ≠ sr → u.2 x = f x) ∧ ∃ (sn2 : Nat) (k_sr : Nat → Int32), fB k_sr ∧ (sn2 ≤ NS) ∧ u.2 sb = .inr (3, [.ref sr, .int (nI sn2)]) ∧ u.2 sr = .inl (E.1, NS, .inl k_sr)) (cPost D E (pA L sz)) (pA L sz)) 0 (0) (pA L sz) := by
  refine k_enter (own := R_Ce) (by decide) rfl (Nat.le_of_ble_eq_true rfl) (fun p e s m below meth c ls AV QQ H locs hQQ X Y hA hin hr hlk hml hl KS KR => ?_)
  have hl : lv_has ls 7 [(0, .ref ce), (1, .int (nI 60))] := hl
  refine lv_aload_n X.1 X.2.1 d_Ce_putError_0 rfl (lv_at hl 0 rfl) ?_
  refine q_get X.1 X.2.1 X.2.2.1 i_Ce X.2.2.2.1 X.2.2.2.2 Y m_ce e_ce rfl 7 (by decide) (X.2.2.1 _ lk_Ce_76) (fun _ h9 => h9) rfl d_Ce_putError_1 ?_
  refine lv_if_eq (tgt := 19) X.1 X.2.1 d_Ce_putError_4 (by decide) (fun c1 => ?_) (fun c1 => absurd ?_ c1)
  rotate_left
  · (rw [← nI_0, nI_eq (by omega) (by omega)] <;> omega)
  rw [← nI_0] at c1
  rw [nI_eq (by omega) (by omega)] at c1
  refine lv_iconst (v := (-1)) X.1 X.2.1 d_Ce_putError_19 (by decide) ?_
  refine lv_istore_n (lv' := [(2, .int (-1)), (0, .ref ce), (1, .int (nI 60))]) X.1 X.2.1 d_Ce_putError_20 rfl hl (by decide) rfl (fun ls hl => ?_)
  refine lv_aload_n X.1 X.2.1 d_Ce_putError_21 rfl (lv_at hl 1 rfl) ?_
  refine q_get X.1 X.2.1 X.2.2.1 i_Ce X.2.2.2.1 X.2.2.2.2 Y m_ce e_ce rfl 6 (by decide) (X.2.2.1 _ lk_Ce_65) (fun _ h9 => h9) rfl d_Ce_putError_22 ?_
  refine lv_if_eq (tgt := 40) X.1 X.2.1 d_Ce_putError_25 (by decide) (fun c2 => ?_) (fun c2 => absurd ?_ c2)
  rotate_left
  · (rw [← nI_0, nI_eq (by omega) (by omega)] <;> omega)
  rw [← nI_0] at c2
  rw [nI_eq (by omega) (by omega)] at c2
  refine lv_iconst (v := (-1)) X.1 X.2.1 d_Ce_putError_40 (by decide) ?_
  refine lv_istore_n (lv' := [(3, .int (-1)), (2, .int (-1)), (0, .ref ce), (1, .int (nI 60))]) X.1 X.2.1 d_Ce_putError_41 rfl hl (by decide) rfl (fun ls hl => ?_)
  refine lv_aload_n X.1 X.2.1 d_Ce_putError_42 rfl (lv_at hl 2 rfl) ?_
  refine q_get X.1 X.2.1 X.2.2.1 i_Ce X.2.2.2.1 X.2.2.2.2 Y m_ce e_ce rfl 3 (by decide) (X.2.2.1 _ lk_Ce_30) (fun _ h9 => h9) rfl d_Ce_putError_43 ?_
  refine lv_iload_n X.1 X.2.1 d_Ce_putError_46 rfl (lv_at hl 1 rfl) ?_
  refine lv_iconst (v := (nI 3)) X.1 X.2.1 d_Ce_putError_47 (by decide) ?_
  refine x_i (x_runV (As := [.int (-1), .int (nI 3)]) (rest := []) (n := 2) X Y hml hl.1 (c_By_field_neg l D E T L f H.size ((-1)) ((nI 3)) (N) b r g_r m_b m_r e_b e_r f_r (by decide)) (ok_k X Y hA KS KR) m_b e_b rfl kl_Ce_By_field ks_By_field kx_By_field ki_By_field ini_By ⟨rfl, rfl⟩ hd_By_field ⟨by decide, by decide⟩ rfl (Nat.le_of_ble_eq_true rfl) d_Ce_putError_48 ⟨(show 0 + 0 ≤ 0 by omega), (show 0 + (0) ≤ (0) by omega)⟩) X Y hA (fun r3 u H locs hp Y => ?_)
  obtain ⟨L5, f4⟩ := u
  obtain ⟨eL7, hF6, pr8⟩ := hp
  dsimp only at eL7 hF6 pr8 Y
  rw [eL7] at Y
  rw [show f4 = f from funext hF6] at Y
  refine t_eq pr8 ?_
  refine lv_istore (lv' := [(4, .int (-1)), (3, .int (-1)), (2, .int (-1)), (0, .ref ce), (1, .int (nI 60))]) X.1 X.2.1 d_Ce_putError_51 hl (by decide) rfl (fun ls hl => ?_)
  refine lv_aload_n X.1 X.2.1 d_Ce_putError_53 rfl (lv_at hl 3 rfl) ?_
  refine q_get X.1 X.2.1 X.2.2.1 i_Ce X.2.2.2.1 X.2.2.2.2 Y m_ce e_ce rfl 4 (by decide) (X.2.2.1 _ lk_Ce_34) (fun _ h9 => h9) rfl d_Ce_putError_54 ?_
  refine x_v (x_runV (As := []) (rest := []) (n := 0) X Y hml hl.1 (c_By_clear l D E L f H.size  sb sr (NS) (sn) g_sr m_sb e_sb m_sr e_sr (by omega) (by omega) f_sr) (ok_c X Y) m_sb e_sb rfl kl_Ce_By_clear ks_By_clear kx_By_clear ki_By_clear ini_By ⟨rfl, rfl⟩ hd_By_clear ⟨by decide, by decide⟩ rfl (Nat.le_of_ble_eq_true rfl) d_Ce_putError_57 ⟨(show 0 + 0 ≤ 0 by omega), (show 0 + (0) ≤ (0) by omega)⟩) X Y hA (fun u H locs hp Y => ?_)
  obtain ⟨L10, f9⟩ := u
  obtain ⟨eL20, hF11, n12, g13, h15, h16, h17, e18, e19⟩ := hp
  dsimp only at eL20 hF11 e18 e19 Y
  rw [eL20] at Y
  have e22 : f9 ce = .inr (4, [.ref v, .ref gao, .ref pa, .ref b, .ref sb, .ref cso, .int (nI 0), .int (nI 0), .int ce_body, .int ce_options, .ref cl1, .ref cl2, .int ce_etype, .int ce_flags, .int ce_endTime, .int ce_renewTill]) := (hF11 ce (q_tag e_ce e_sb (show (4 : Nat) ≠ 3 by decide)) (q_tag e_ce e_sr (show (4 : Nat) ≠ 1000 by decide))).trans e_ce
  have e23 : f9 b = .inr (3, [.ref r, .int (nI 0)]) := (hF11 b ap_b_sb (q_tag e_b e_sr (show (3 : Nat) ≠ 1000 by decide))).trans e_b
  have e24 : f9 r = .inl (E.1, N, .inl g_r) := (hF11 r (q_tag e_r e_sb (show (1000 : Nat) ≠ 3 by decide)) ap_r_sr).trans e_r
  have e25 : f9 v = .inr (11, [.int now, .ref txo, .ref dro, .ref v_hash, .ref v_aes, .ref v_seed, .int ssz, .ref coo, .int cat, .int crw, .ref deo, .ref v_turned, .ref v_brief]) := (hF11 v (q_tag e_v e_sb (show (11 : Nat) ≠ 3 by decide)) (q_tag e_v e_sr (show (11 : Nat) ≠ 1000 by decide))).trans e_v
  have e26 : f9 pa = .inl (E.2.2.1, 12, .inr (.inr (.inr (.inr g_pa)))) := (hF11 pa (q_tag e_pa e_sb (show (1000 : Nat) ≠ 3 by decide)) ap_sr_pa.symm).trans e_pa
  have e27 : f9 pr = .inr (7, [.ref b2, .ref sno, .int pth, .int ver, .int prd, .ref l18, .ref l17, .ref d18, .ref d17, .int lif, .int ren, .int flg, .int xpy]) := (hF11 pr (q_tag e_pr e_sb (show (7 : Nat) ≠ 3 by decide)) (q_tag e_pr e_sr (show (7 : Nat) ≠ 1000 by decide))).trans e_pr
  have e28 : f9 b2 = .inr (3, [.ref r2, .int (nI n3)]) := (hF11 b2 ap_sb_b2.symm (q_tag e_b2 e_sr (show (3 : Nat) ≠ 1000 by decide))).trans e_b2
  have e29 : f9 r2 = .inl (E.1, M, .inl g_r2) := (hF11 r2 (q_tag e_r2 e_sb (show (1000 : Nat) ≠ 3 by decide)) ap_sr_r2.symm).trans e_r2
  have hF30 : ∀ x, x ≠ sb → x ≠ sr → f9 x = f x := fun x h0 h1 => (hF11 x h0 h1).trans rfl
  refine lv_aload_n X.1 X.2.1 d_Ce_putError_60 rfl (lv_at hl 3 rfl) ?_
  refine q_get X.1 X.2.1 X.2.2.1 i_Ce X.2.2.2.1 X.2.2.2.2 Y m_ce e22 rfl 4 (by decide) (X.2.2.1 _ lk_Ce_34) (fun _ h9 => h9) rfl d_Ce_putError_61 ?_
  refine lv_bipush (v := (nI 126)) X.1 X.2.1 d_Ce_putError_64 (by decide) ?_
  refine x_i (x_runV (As := [.int (nI 126)]) (rest := []) (n := 1) X Y hml hl.1 (c_By_open l D E L f9 H.size ((nI 126)) sb sr (NS) (n12) g13 m_sb e18 m_sr e19 (by omega) (by omega) h16) (ok_c X Y) m_sb e18 rfl kl_Ce_By_open ks_By_open kx_By_open ki_By_open ini_By ⟨rfl, rfl⟩ hd_By_open ⟨by decide, by decide⟩ rfl (Nat.le_of_ble_eq_true rfl) d_Ce_putError_66 ⟨(show 0 + 0 ≤ 0 by omega), (show 0 + (0) ≤ (0) by omega)⟩) X Y hA (fun r36 u H locs hp Y => ?_)
  obtain ⟨L32, f31⟩ := u
  obtain ⟨eL43, hF33, n34, g35, h37, h38, h39, h40, e41, e42, pr44⟩ := hp
  dsimp only at eL43 hF33 e41 e42 Y pr44
  rw [eL43] at Y
  have e45 : f31 ce = .inr (4, [.ref v, .ref gao, .ref pa, .ref b, .ref sb, .ref cso, .int (nI 0), .int (nI 0), .int ce_body, .int ce_options, .ref cl1, .ref cl2, .int ce_etype, .int ce_flags, .int ce_endTime, .int ce_renewTill]) := (hF33 ce (q_tag e22 e18 (show (4 : Nat) ≠ 3 by decide)) (q_tag e22 e19 (show (4 : Nat) ≠ 1000 by decide))).trans e22
  have e46 : f31 b = .inr (3, [.ref r, .int (nI 0)]) := (hF33 b ap_b_sb (q_tag e23 e19 (show (3 : Nat) ≠ 1000 by decide))).trans e23
  have e47 : f31 r = .inl (E.1, N, .inl g_r) := (hF33 r (q_tag e24 e18 (show (1000 : Nat) ≠ 3 by decide)) ap_r_sr).trans e24
  have e48 : f31 v = .inr (11, [.int now, .ref txo, .ref dro, .ref v_hash, .ref v_aes, .ref v_seed, .int ssz, .ref coo, .int cat, .int crw, .ref deo, .ref v_turned, .ref v_brief]) := (hF33 v (q_tag e25 e18 (show (11 : Nat) ≠ 3 by decide)) (q_tag e25 e19 (show (11 : Nat) ≠ 1000 by decide))).trans e25
  have e49 : f31 pa = .inl (E.2.2.1, 12, .inr (.inr (.inr (.inr g_pa)))) := (hF33 pa (q_tag e26 e18 (show (1000 : Nat) ≠ 3 by decide)) ap_sr_pa.symm).trans e26
  have e50 : f31 pr = .inr (7, [.ref b2, .ref sno, .int pth, .int ver, .int prd, .ref l18, .ref l17, .ref d18, .ref d17, .int lif, .int ren, .int flg, .int xpy]) := (hF33 pr (q_tag e27 e18 (show (7 : Nat) ≠ 3 by decide)) (q_tag e27 e19 (show (7 : Nat) ≠ 1000 by decide))).trans e27
  have e51 : f31 b2 = .inr (3, [.ref r2, .int (nI n3)]) := (hF33 b2 ap_sb_b2.symm (q_tag e28 e19 (show (3 : Nat) ≠ 1000 by decide))).trans e28
  have e52 : f31 r2 = .inl (E.1, M, .inl g_r2) := (hF33 r2 (q_tag e29 e18 (show (1000 : Nat) ≠ 3 by decide)) ap_sr_r2.symm).trans e29
  have hF53 : ∀ x, x ≠ sb → x ≠ sr → f31 x = f x := fun x h0 h1 => (hF33 x h0 h1).trans (hF30 x h0 h1)
  refine lv_istore (lv' := [(5, .int r36), (4, .int (-1)), (3, .int (-1)), (2, .int (-1)), (0, .ref ce), (1, .int (nI 60))]) X.1 X.2.1 d_Ce_putError_69 hl (by decide) rfl (fun ls hl => ?_)
  refine lv_aload_n X.1 X.2.1 d_Ce_putError_71 rfl (lv_at hl 4 rfl) ?_
  refine q_get X.1 X.2.1 X.2.2.1 i_Ce X.2.2.2.1 X.2.2.2.2 Y m_ce e45 rfl 4 (by decide) (X.2.2.1 _ lk_Ce_34) (fun _ h9 => h9) rfl d_Ce_putError_72 ?_
  refine lv_bipush (v := (nI 48)) X.1 X.2.1 d_Ce_putError_75 (by decide) ?_
  refine x_i (x_runV (As := [.int (nI 48)]) (rest := []) (n := 1) X Y hml hl.1 (c_By_open l D E L f31 H.size ((nI 48)) sb sr (NS) (n34) g35 m_sb e41 m_sr e42 (by omega) (by omega) h38) (ok_c X Y) m_sb e41 rfl kl_Ce_By_open ks_By_open kx_By_open ki_By_open ini_By ⟨rfl, rfl⟩ hd_By_open ⟨by decide, by decide⟩ rfl (Nat.le_of_ble_eq_true rfl) d_Ce_putError_77 ⟨(show 0 + 0 ≤ 0 by omega), (show 0 + (0) ≤ (0) by omega)⟩) X Y hA (fun r59 u H locs hp Y => ?_)
  obtain ⟨L55, f54⟩ := u
  obtain ⟨eL66, hF56, n57, g58, h60, h61, h62, h63, e64, e65, pr67⟩ := hp
  dsimp only at eL66 hF56 e64 e65 Y pr67
  rw [eL66] at Y
  have e68 : f54 ce = .inr (4, [.ref v, .ref gao, .ref pa, .ref b, .ref sb, .ref cso, .int (nI 0), .int (nI 0), .int ce_body, .int ce_options, .ref cl1, .ref cl2, .int ce_etype, .int ce_flags, .int ce_endTime, .int ce_renewTill]) := (hF56 ce (q_tag e45 e41 (show (4 : Nat) ≠ 3 by decide)) (q_tag e45 e42 (show (4 : Nat) ≠ 1000 by decide))).trans e45
  have e69 : f54 b = .inr (3, [.ref r, .int (nI 0)]) := (hF56 b ap_b_sb (q_tag e46 e42 (show (3 : Nat) ≠ 1000 by decide))).trans e46
  have e70 : f54 r = .inl (E.1, N, .inl g_r) := (hF56 r (q_tag e47 e41 (show (1000 : Nat) ≠ 3 by decide)) ap_r_sr).trans e47
  have e71 : f54 v = .inr (11, [.int now, .ref txo, .ref dro, .ref v_hash, .ref v_aes, .ref v_seed, .int ssz, .ref coo, .int cat, .int crw, .ref deo, .ref v_turned, .ref v_brief]) := (hF56 v (q_tag e48 e41 (show (11 : Nat) ≠ 3 by decide)) (q_tag e48 e42 (show (11 : Nat) ≠ 1000 by decide))).trans e48
  have e72 : f54 pa = .inl (E.2.2.1, 12, .inr (.inr (.inr (.inr g_pa)))) := (hF56 pa (q_tag e49 e41 (show (1000 : Nat) ≠ 3 by decide)) ap_sr_pa.symm).trans e49
  have e73 : f54 pr = .inr (7, [.ref b2, .ref sno, .int pth, .int ver, .int prd, .ref l18, .ref l17, .ref d18, .ref d17, .int lif, .int ren, .int flg, .int xpy]) := (hF56 pr (q_tag e50 e41 (show (7 : Nat) ≠ 3 by decide)) (q_tag e50 e42 (show (7 : Nat) ≠ 1000 by decide))).trans e50
  have e74 : f54 b2 = .inr (3, [.ref r2, .int (nI n3)]) := (hF56 b2 ap_sb_b2.symm (q_tag e51 e42 (show (3 : Nat) ≠ 1000 by decide))).trans e51
  have e75 : f54 r2 = .inl (E.1, M, .inl g_r2) := (hF56 r2 (q_tag e52 e41 (show (1000 : Nat) ≠ 3 by decide)) ap_sr_r2.symm).trans e52
  have hF76 : ∀ x, x ≠ sb → x ≠ sr → f54 x = f x := fun x h0 h1 => (hF56 x h0 h1).trans (hF53 x h0 h1)
  refine lv_istore (lv' := [(6, .int r59), (5, .int r36), (4, .int (-1)), (3, .int (-1)), (2, .int (-1)), (0, .ref ce), (1, .int (nI 60))]) X.1 X.2.1 d_Ce_putError_80 hl (by decide) rfl (fun ls hl => ?_)
  refine lv_aload_n X.1 X.2.1 d_Ce_putError_82 rfl (lv_at hl 5 rfl) ?_
  refine q_get X.1 X.2.1 X.2.2.1 i_Ce X.2.2.2.1 X.2.2.2.2 Y m_ce e68 rfl 4 (by decide) (X.2.2.1 _ lk_Ce_34) (fun _ h9 => h9) rfl d_Ce_putError_83 ?_
  refine lv_aload_n X.1 X.2.1 d_Ce_putError_86 rfl (lv_at hl 5 rfl) ?_
  refine q_get X.1 X.2.1 X.2.2.1 i_Ce X.2.2.2.1 X.2.2.2.2 Y m_ce e68 rfl 0 (by decide) (X.2.2.1 _ lk_Ce_18) (fun _ h9 => h9) rfl d_Ce_putError_87 ?_
  refine q_get X.1 X.2.1 X.2.2.1 i_Va X.2.2.2.1 X.2.2.2.2 Y m_v e71 rfl 0 (by decide) (X.2.2.1 _ lk_Ce_112) (fun _ h9 => h9) rfl d_Ce_putError_90 ?_
  refine lv_iload_n X.1 X.2.1 d_Ce_putError_93 rfl (lv_at hl 6 rfl) ?_
  refine x_v (x_runV (As := [.int now, .int (nI 60)]) (rest := []) (n := 2) X Y hml hl.1 (c_By_putErrorHead l D E T L f54 H.size (now) ((nI 60)) (NS) sb sr (n57) g58 m_sb m_sr e64 e65 h61 (by omega) (by omega)) (ok_k X Y hA KS KR) m_sb e64 rfl kl_Ce_By_putErrorHead ks_By_putErrorHead kx_By_putErrorHead ki_By_putErrorHead ini_By ⟨rfl, rfl⟩ hd_By_putErrorHead ⟨by decide, by decide⟩ rfl (Nat.le_of_ble_eq_true rfl) d_Ce_putError_94 ⟨(show 0 + 0 ≤ 0 by omega), (show 0 + (0) ≤ (0) by omega)⟩) X Y hA (fun u H locs hp Y => ?_)
  obtain ⟨L79, f78⟩ := u
  obtain ⟨eL81, hF80, n83, g84, hg85, h86, h87, e88, e89⟩ := hp
  dsimp only at eL81 hF80 e88 e89 Y
  rw [eL81] at Y
  have e90 : f78 ce = .inr (4, [.ref v, .ref gao, .ref pa, .ref b, .ref sb, .ref cso, .int (nI 0), .int (nI 0), .int ce_body, .int ce_options, .ref cl1, .ref cl2, .int ce_etype, .int ce_flags, .int ce_endTime, .int ce_renewTill]) := (hF80 ce (q_tag e68 e64 (show (4 : Nat) ≠ 3 by decide)) (q_tag e68 e65 (show (4 : Nat) ≠ 1000 by decide))).trans e68
  have e91 : f78 b = .inr (3, [.ref r, .int (nI 0)]) := (hF80 b ap_b_sb (q_tag e69 e65 (show (3 : Nat) ≠ 1000 by decide))).trans e69
  have e92 : f78 r = .inl (E.1, N, .inl g_r) := (hF80 r (q_tag e70 e64 (show (1000 : Nat) ≠ 3 by decide)) ap_r_sr).trans e70
  have e93 : f78 v = .inr (11, [.int now, .ref txo, .ref dro, .ref v_hash, .ref v_aes, .ref v_seed, .int ssz, .ref coo, .int cat, .int crw, .ref deo, .ref v_turned, .ref v_brief]) := (hF80 v (q_tag e71 e64 (show (11 : Nat) ≠ 3 by decide)) (q_tag e71 e65 (show (11 : Nat) ≠ 1000 by decide))).trans e71
  have e94 : f78 pa = .inl (E.2.2.1, 12, .inr (.inr (.inr (.inr g_pa)))) := (hF80 pa (q_tag e72 e64 (show (1000 : Nat) ≠ 3 by decide)) ap_sr_pa.symm).trans e72
  have e95 : f78 pr = .inr (7, [.ref b2, .ref sno, .int pth, .int ver, .int prd, .ref l18, .ref l17, .ref d18, .ref d17, .int lif, .int ren, .int flg, .int xpy]) := (hF80 pr (q_tag e73 e64 (show (7 : Nat) ≠ 3 by decide)) (q_tag e73 e65 (show (7 : Nat) ≠ 1000 by decide))).trans e73
  have e96 : f78 b2 = .inr (3, [.ref r2, .int (nI n3)]) := (hF80 b2 ap_sb_b2.symm (q_tag e74 e65 (show (3 : Nat) ≠ 1000 by decide))).trans e74
  have e97 : f78 r2 = .inl (E.1, M, .inl g_r2) := (hF80 r2 (q_tag e75 e64 (show (1000 : Nat) ≠ 3 by decide)) ap_sr_r2.symm).trans e75
  have hF98 : ∀ x, x ≠ sb → x ≠ sr → f78 x = f x := fun x h0 h1 => (hF80 x h0 h1).trans (hF76 x h0 h1)
  refine lv_iload_n X.1 X.2.1 d_Ce_putError_97 rfl (lv_at hl 3 rfl) ?_
  refine lv_if_lt (tgt := 137) X.1 X.2.1 d_Ce_putError_98 (by decide) (fun c99 => ?_) (fun c99 => absurd ?_ c99)
  rotate_left
  · decide
  refine lv_aload_n X.1 X.2.1 d_Ce_putError_137 rfl (lv_at hl 5 rfl) ?_
  refine q_get X.1 X.2.1 X.2.2.1 i_Ce X.2.2.2.1 X.2.2.2.2 Y m_ce e90 rfl 4 (by decide) (X.2.2.1 _ lk_Ce_34) (fun _ h9 => h9) rfl d_Ce_putError_138 ?_
  refine lv_bipush (v := (nI 9)) X.1 X.2.1 d_Ce_putError_141 (by decide) ?_
  refine x_v (x_runV (As := [.int (nI 9)]) (rest := []) (n := 1) X Y hml hl.1 (c_By_putRealm l D E T L f78 H.size ((nI 9)) (NS) sb sr (n83) g84 m_sb m_sr e88 e89 hg85 (by omega) (by omega)) (ok_k X Y hA KS KR) m_sb e88 rfl kl_Ce_By_putRealm ks_By_putRealm kx_By_putRealm ki_By_putRealm ini_By ⟨rfl, rfl⟩ hd_By_putRealm ⟨by decide, by decide⟩ rfl (Nat.le_of_ble_eq_true rfl) d_Ce_putError_143 ⟨(show 0 + 0 ≤ 0 by omega), (show 0 + (0) ≤ (0) by omega)⟩) X Y hA (fun u H locs hp Y => ?_)
  obtain ⟨L102, f101⟩ := u
  obtain ⟨eL104, hF103, n106, g107, hg108, h109, h110, e111, e112⟩ := hp
  dsimp only at eL104 hF103 e111 e112 Y
  rw [eL104] at Y
  have e113 : f101 ce = .inr (4, [.ref v, .ref gao, .ref pa, .ref b, .ref sb, .ref cso, .int (nI 0), .int (nI 0), .int ce_body, .int ce_options, .ref cl1, .ref cl2, .int ce_etype, .int ce_flags, .int ce_endTime, .int ce_renewTill]) := (hF103 ce (q_tag e90 e88 (show (4 : Nat) ≠ 3 by decide)) (q_tag e90 e89 (show (4 : Nat) ≠ 1000 by decide))).trans e90
  have e114 : f101 b = .inr (3, [.ref r, .int (nI 0)]) := (hF103 b ap_b_sb (q_tag e91 e89 (show (3 : Nat) ≠ 1000 by decide))).trans e91
  have e115 : f101 r = .inl (E.1, N, .inl g_r) := (hF103 r (q_tag e92 e88 (show (1000 : Nat) ≠ 3 by decide)) ap_r_sr).trans e92
  have e116 : f101 v = .inr (11, [.int now, .ref txo, .ref dro, .ref v_hash, .ref v_aes, .ref v_seed, .int ssz, .ref coo, .int cat, .int crw, .ref deo, .ref v_turned, .ref v_brief]) := (hF103 v (q_tag e93 e88 (show (11 : Nat) ≠ 3 by decide)) (q_tag e93 e89 (show (11 : Nat) ≠ 1000 by decide))).trans e93
  have e117 : f101 pa = .inl (E.2.2.1, 12, .inr (.inr (.inr (.inr g_pa)))) := (hF103 pa (q_tag e94 e88 (show (1000 : Nat) ≠ 3 by decide)) ap_sr_pa.symm).trans e94
  have e118 : f101 pr = .inr (7, [.ref b2, .ref sno, .int pth, .int ver, .int prd, .ref l18, .ref l17, .ref d18, .ref d17, .int lif, .int ren, .int flg, .int xpy]) := (hF103 pr (q_tag e95 e88 (show (7 : Nat) ≠ 3 by decide)) (q_tag e95 e89 (show (7 : Nat) ≠ 1000 by decide))).trans e95
  have e119 : f101 b2 = .inr (3, [.ref r2, .int (nI n3)]) := (hF103 b2 ap_sb_b2.symm (q_tag e96 e89 (show (3 : Nat) ≠ 1000 by decide))).trans e96
  have e120 : f101 r2 = .inl (E.1, M, .inl g_r2) := (hF103 r2 (q_tag e97 e88 (show (1000 : Nat) ≠ 3 by decide)) ap_sr_r2.symm).trans e97
  have hF121 : ∀ x, x ≠ sb → x ≠ sr → f101 x = f x := fun x h0 h1 => (hF103 x h0 h1).trans (hF98 x h0 h1)
  refine lv_iload X.1 X.2.1 d_Ce_putError_146 (lv_at hl 2 rfl) ?_
  refine lv_if_lt (tgt := 169) X.1 X.2.1 d_Ce_putError_148 (by decide) (fun c122 => ?_) (fun c122 => absurd ?_ c122)
  rotate_left
  · decide
  refine lv_aload_n X.1 X.2.1 d_Ce_putError_169 rfl (lv_at hl 5 rfl) ?_
  refine q_get X.1 X.2.1 X.2.2.1 i_Ce X.2.2.2.1 X.2.2.2.2 Y m_ce e113 rfl 4 (by decide) (X.2.2.1 _ lk_Ce_34) (fun _ h9 => h9) rfl d_Ce_putError_170 ?_
  refine lv_bipush (v := (nI 10)) X.1 X.2.1 d_Ce_putError_173 (by decide) ?_
  refine lv_iconst (v := (nI 2)) X.1 X.2.1 d_Ce_putError_175 (by decide) ?_
  refine lv_aload_n X.1 X.2.1 d_Ce_putError_176 rfl (lv_at hl 5 rfl) ?_
  refine q_get X.1 X.2.1 X.2.2.1 i_Ce X.2.2.2.1 X.2.2.2.2 Y m_ce e113 rfl 2 (by decide) (X.2.2.1 _ lk_Ce_26) (fun _ h9 => h9) rfl d_Ce_putError_177 ?_
  refine lv_iconst (v := (nI 0)) X.1 X.2.1 d_Ce_putError_180 (by decide) ?_
  refine q_aald X.1 X.2.1 X.2.2.2.2 Y 2 m_pa e117 rfl (vp_in_nI (by omega) (by omega)) d_Ce_putError_181 ?_
  refine t_rf (show _ = some pr by rw [nI_clamp (by decide)]; exact hh0) ?_
  refine q_get X.1 X.2.1 X.2.2.1 i_Pr X.2.2.2.1 X.2.2.2.2 Y m_pr e118 rfl 0 (by decide) (X.2.2.1 _ lk_Ce_350) (fun _ h9 => h9) rfl d_Ce_putError_182 ?_
  refine x_v (x_runV (As := [.int (nI 10), .int (nI 2), .ref b2]) (rest := []) (n := 3) X Y hml hl.1 (c_By_putName l D E T L f101 H.size ((nI 10)) ((nI 2)) (NS) (M) sb sr b2 r2 (n106) (n3) g107 g_r2 m_sb m_sr m_b2 m_r2 e111 e112 e119 e120 hg108 f_r2 ap_sb_b2 ap_sr_r2 (by omega) (by omega) (by omega) (by omega)) (ok_k X Y hA KS KR) m_sb e111 rfl kl_Ce_By_putName ks_By_putName kx_By_putName ki_By_putName ini_By ⟨rfl, rfl⟩ hd_By_putName ⟨by decide, by decide⟩ rfl (Nat.le_of_ble_eq_true rfl) d_Ce_putError_185 ⟨(show 0 + 0 ≤ 0 by omega), (show 0 + (0) ≤ (0) by omega)⟩) X Y hA (fun u H locs hp Y => ?_)
  obtain ⟨L125, f124⟩ := u
  obtain ⟨eL127, hF126, n129, g130, hg131, h132, h133, e134, e135⟩ := hp
  dsimp only at eL127 hF126 e134 e135 Y
  rw [eL127] at Y
  have e136 : f124 ce = .inr (4, [.ref v, .ref gao, .ref pa, .ref b, .ref sb, .ref cso, .int (nI 0), .int (nI 0), .int ce_body, .int ce_options, .ref cl1, .ref cl2, .int ce_etype, .int ce_flags, .int ce_endTime, .int ce_renewTill]) := (hF126 ce (q_tag e113 e111 (show (4 : Nat) ≠ 3 by decide)) (q_tag e113 e112 (show (4 : Nat) ≠ 1000 by decide))).trans e113
  have e137 : f124 b = .inr (3, [.ref r, .int (nI 0)]) := (hF126 b ap_b_sb (q_tag e114 e112 (show (3 : Nat) ≠ 1000 by decide))).trans e114
  have e138 : f124 r = .inl (E.1, N, .inl g_r) := (hF126 r (q_tag e115 e111 (show (1000 : Nat) ≠ 3 by decide)) ap_r_sr).trans e115
  have e139 : f124 v = .inr (11, [.int now, .ref txo, .ref dro, .ref v_hash, .ref v_aes, .ref v_seed, .int ssz, .ref coo, .int cat, .int crw, .ref deo, .ref v_turned, .ref v_brief]) := (hF126 v (q_tag e116 e111 (show (11 : Nat) ≠ 3 by decide)) (q_tag e116 e112 (show (11 : Nat) ≠ 1000 by decide))).trans e116
  have e140 : f124 pa = .inl (E.2.2.1, 12, .inr (.inr (.inr (.inr g_pa)))) := (hF126 pa (q_tag e117 e111 (show (1000 : Nat) ≠ 3 by decide)) ap_sr_pa.symm).trans e117
  have e141 : f124 pr = .inr (7, [.ref b2, .ref sno, .int pth, .int ver, .int prd, .ref l18, .ref l17, .ref d18, .ref d17, .int lif, .int ren, .int flg, .int xpy]) := (hF126 pr (q_tag e118 e111 (show (7 : Nat) ≠ 3 by decide)) (q_tag e118 e112 (show (7 : Nat) ≠ 1000 by decide))).trans e118
  have e142 : f124 b2 = .inr (3, [.ref r2, .int (nI n3)]) := (hF126 b2 ap_sb_b2.symm (q_tag e119 e112 (show (3 : Nat) ≠ 1000 by decide))).trans e119
  have e143 : f124 r2 = .inl (E.1, M, .inl g_r2) := (hF126 r2 (q_tag e120 e111 (show (1000 : Nat) ≠ 3 by decide)) ap_sr_r2.symm).trans e120
  have hF144 : ∀ x, x ≠ sb → x ≠ sr → f124 x = f x := fun x h0 h1 => (hF126 x h0 h1).trans (hF121 x h0 h1)
  refine lv_aload_n X.1 X.2.1 d_Ce_putError_188 rfl (lv_at hl 5 rfl) ?_
  refine q_get X.1 X.2.1 X.2.2.1 i_Ce X.2.2.2.1 X.2.2.2.2 Y m_ce e136 rfl 6 (by decide) (X.2.2.1 _ lk_Ce_65) (fun _ h9 => h9) rfl d_Ce_putError_189 ?_
  refine lv_if_eq (tgt := 205) X.1 X.2.1 d_Ce_putError_192 (by decide) (fun c145 => ?_) (fun c145 => absurd ?_ c145)
  rotate_left
  · (rw [← nI_0, nI_eq (by omega) (by omega)] <;> omega)
  rw [← nI_0] at c145
  rw [nI_eq (by omega) (by omega)] at c145
  refine lv_aload_n X.1 X.2.1 d_Ce_putError_205 rfl (lv_at hl 5 rfl) ?_
  refine q_get X.1 X.2.1 X.2.2.1 i_Ce X.2.2.2.1 X.2.2.2.2 Y m_ce e136 rfl 4 (by decide) (X.2.2.1 _ lk_Ce_34) (fun _ h9 => h9) rfl d_Ce_putError_206 ?_
  refine lv_iload X.1 X.2.1 d_Ce_putError_209 (lv_at hl 0 rfl) ?_
  refine x_v (x_runV (As := [.int r59]) (rest := []) (n := 1) X Y hml hl.1 (c_By_close l D E L f124 H.size (r59) sb sr (NS) (n129) g130 m_sb e134 m_sr e135 (by omega) (by omega) hg131) (ok_c X Y) m_sb e134 rfl kl_Ce_By_close ks_By_close kx_By_close ki_By_close ini_By ⟨rfl, rfl⟩ hd_By_close ⟨by decide, by decide⟩ rfl (Nat.le_of_ble_eq_true rfl) d_Ce_putError_211 ⟨(show 0 + 0 ≤ 0 by omega), (show 0 + (0) ≤ (0) by omega)⟩) X Y hA (fun u H locs hp Y => ?_)
  obtain ⟨L147, f146⟩ := u
  obtain ⟨eL158, hF148, n149, g150, h152, h153, h154, h155, e156, e157⟩ := hp
  dsimp only at eL158 hF148 e156 e157 Y
  rw [eL158] at Y
  have e160 : f146 ce = .inr (4, [.ref v, .ref gao, .ref pa, .ref b, .ref sb, .ref cso, .int (nI 0), .int (nI 0), .int ce_body, .int ce_options, .ref cl1, .ref cl2, .int ce_etype, .int ce_flags, .int ce_endTime, .int ce_renewTill]) := (hF148 ce (q_tag e136 e134 (show (4 : Nat) ≠ 3 by decide)) (q_tag e136 e135 (show (4 : Nat) ≠ 1000 by decide))).trans e136
  have e161 : f146 b = .inr (3, [.ref r, .int (nI 0)]) := (hF148 b ap_b_sb (q_tag e137 e135 (show (3 : Nat) ≠ 1000 by decide))).trans e137
  have e162 : f146 r = .inl (E.1, N, .inl g_r) := (hF148 r (q_tag e138 e134 (show (1000 : Nat) ≠ 3 by decide)) ap_r_sr).trans e138
  have e163 : f146 v = .inr (11, [.int now, .ref txo, .ref dro, .ref v_hash, .ref v_aes, .ref v_seed, .int ssz, .ref coo, .int cat, .int crw, .ref deo, .ref v_turned, .ref v_brief]) := (hF148 v (q_tag e139 e134 (show (11 : Nat) ≠ 3 by decide)) (q_tag e139 e135 (show (11 : Nat) ≠ 1000 by decide))).trans e139
  have e164 : f146 pa = .inl (E.2.2.1, 12, .inr (.inr (.inr (.inr g_pa)))) := (hF148 pa (q_tag e140 e134 (show (1000 : Nat) ≠ 3 by decide)) ap_sr_pa.symm).trans e140
  have e165 : f146 pr = .inr (7, [.ref b2, .ref sno, .int pth, .int ver, .int prd, .ref l18, .ref l17, .ref d18, .ref d17, .int lif, .int ren, .int flg, .int xpy]) := (hF148 pr (q_tag e141 e134 (show (7 : Nat) ≠ 3 by decide)) (q_tag e141 e135 (show (7 : Nat) ≠ 1000 by decide))).trans e141
  have e166 : f146 b2 = .inr (3, [.ref r2, .int (nI n3)]) := (hF148 b2 ap_sb_b2.symm (q_tag e142 e135 (show (3 : Nat) ≠ 1000 by decide))).trans e142
  have e167 : f146 r2 = .inl (E.1, M, .inl g_r2) := (hF148 r2 (q_tag e143 e134 (show (1000 : Nat) ≠ 3 by decide)) ap_sr_r2.symm).trans e143
  have hF168 : ∀ x, x ≠ sb → x ≠ sr → f146 x = f x := fun x h0 h1 => (hF148 x h0 h1).trans (hF144 x h0 h1)
  refine lv_aload_n X.1 X.2.1 d_Ce_putError_214 rfl (lv_at hl 5 rfl) ?_
  refine q_get X.1 X.2.1 X.2.2.1 i_Ce X.2.2.2.1 X.2.2.2.2 Y m_ce e160 rfl 4 (by decide) (X.2.2.1 _ lk_Ce_34) (fun _ h9 => h9) rfl d_Ce_putError_215 ?_
  refine lv_iload X.1 X.2.1 d_Ce_putError_218 (lv_at hl 1 rfl) ?_
  refine x_v (x_runV (As := [.int r36]) (rest := []) (n := 1) X Y hml hl.1 (c_By_close l D E L f146 H.size (r36) sb sr (NS) (n149) g150 m_sb e156 m_sr e157 (by omega) (by omega) h153) (ok_c X Y) m_sb e156 rfl kl_Ce_By_close ks_By_close kx_By_close ki_By_close ini_By ⟨rfl, rfl⟩ hd_By_close ⟨by decide, by decide⟩ rfl (Nat.le_of_ble_eq_true rfl) d_Ce_putError_220 ⟨(show 0 + 0 ≤ 0 by omega), (show 0 + (0) ≤ (0) by omega)⟩) X Y hA (fun u H locs hp Y => ?_)
  obtain ⟨L170, f169⟩ := u
  obtain ⟨eL181, hF171, n172, g173, h175, h176, h177, h178, e179, e180⟩ := hp
  dsimp only at eL181 hF171 e179 e180 Y
  rw [eL181] at Y
  have e183 : f169 ce = .inr (4, [.ref v, .ref gao, .ref pa, .ref b, .ref sb, .ref cso, .int (nI 0), .int (nI 0), .int ce_body, .int ce_options, .ref cl1, .ref cl2, .int ce_etype, .int ce_flags, .int ce_endTime, .int ce_renewTill]) := (hF171 ce (q_tag e160 e156 (show (4 : Nat) ≠ 3 by decide)) (q_tag e160 e157 (show (4 : Nat) ≠ 1000 by decide))).trans e160
  have e184 : f169 b = .inr (3, [.ref r, .int (nI 0)]) := (hF171 b ap_b_sb (q_tag e161 e157 (show (3 : Nat) ≠ 1000 by decide))).trans e161
  have e185 : f169 r = .inl (E.1, N, .inl g_r) := (hF171 r (q_tag e162 e156 (show (1000 : Nat) ≠ 3 by decide)) ap_r_sr).trans e162
  have e186 : f169 v = .inr (11, [.int now, .ref txo, .ref dro, .ref v_hash, .ref v_aes, .ref v_seed, .int ssz, .ref coo, .int cat, .int crw, .ref deo, .ref v_turned, .ref v_brief]) := (hF171 v (q_tag e163 e156 (show (11 : Nat) ≠ 3 by decide)) (q_tag e163 e157 (show (11 : Nat) ≠ 1000 by decide))).trans e163
  have e187 : f169 pa = .inl (E.2.2.1, 12, .inr (.inr (.inr (.inr g_pa)))) := (hF171 pa (q_tag e164 e156 (show (1000 : Nat) ≠ 3 by decide)) ap_sr_pa.symm).trans e164
  have e188 : f169 pr = .inr (7, [.ref b2, .ref sno, .int pth, .int ver, .int prd, .ref l18, .ref l17, .ref d18, .ref d17, .int lif, .int ren, .int flg, .int xpy]) := (hF171 pr (q_tag e165 e156 (show (7 : Nat) ≠ 3 by decide)) (q_tag e165 e157 (show (7 : Nat) ≠ 1000 by decide))).trans e165
  have e189 : f169 b2 = .inr (3, [.ref r2, .int (nI n3)]) := (hF171 b2 ap_sb_b2.symm (q_tag e166 e157 (show (3 : Nat) ≠ 1000 by decide))).trans e166
  have e190 : f169 r2 = .inl (E.1, M, .inl g_r2) := (hF171 r2 (q_tag e167 e156 (show (1000 : Nat) ≠ 3 by decide)) ap_sr_r2.symm).trans e167
  have hF191 : ∀ x, x ≠ sb → x ≠ sr → f169 x = f x := fun x h0 h1 => (hF171 x h0 h1).trans (hF168 x h0 h1)
  exact c_retv hQQ X Y hr hlk ⟨rfl, hF191, (n172), g173, h176, (by omega), e179, e180⟩ d_Ce_putError_223
set_option maxHeartbeats 4000000 in
set_option maxRecDepth 100000 in
theorem c_Ce_init (l : Launch) (D : va_G) (E : cE) (T : cT) (L : List Nat) (f : pF) (sz : Nat) (v : Nat) (gao : Nat) (b : Nat) (sb : Nat) (pr : Nat) (ce pa : Nat) (g_pa : Nat → Option Nat) (m_ce : ce ∈ L) (m_pa : pa ∈ L) (e_ce : f ce = .inr (4, [.null, .null, .null, .null, .null, .null, .int (nI 0), .int (nI 0), .int (nI 0), .int (nI 0), .null, .null, .int (nI 0), .int (nI 0), .int (nI 0), .int (nI 0)])) (e_pa : f pa = .inl (E.2.2.1, 12, .inr (.inr (.inr (.inr g_pa))))) (hh0 : g_pa 0 = some pr) : Met l y_Ce_init (k_Ce_init :: lw_tg) (kRm 2 40 5 (1381)) (va_Pc [.ref ce, .ref v, .ref gao, .ref pa, .ref b, .ref sb] (kPre D E T L f sz)) (va_Qv (fun (u : cU) => (∀ x, x ∈ L → x ∈ u.1) ∧ (∀ x, x ∈ L → x ≠ ce → u.2 x = f x) ∧ ∃ (cso pr : Nat), u.2 ce = .inr (4, [.ref v, .ref gao, .ref pa, .ref b, .ref sb, .ref cso, .int (nI 0), .int (nI 0), .int (nI 0), .int (nI 0), .ref pr, .ref pr, .int (nI 0), .int (nI 0), .int (nI 0), .int (nI 0)])) (cPost D E (pA L sz)) (pA L sz)) 5 (1381) (pA L sz) := by
  refine k_enter (own := R_Ce) (by decide) rfl (Nat.le_of_ble_eq_true rfl) (fun p e s m below meth c ls AV QQ H locs hQQ X Y hA hin hr hlk hml hl KS KR => ?_)
  have hl : lv_has ls 6 [(0, .ref ce), (1, .ref v), (2, .ref gao), (3, .ref pa), (4, .ref b), (5, .ref sb)] := hl
  refine lv_aload_n X.1 X.2.1 d_Ce_init_0 rfl (lv_at hl 0 rfl) ?_
  refine W.objInit X.1 X.2.1 X.2.2.2.1 (X.2.2.1 _ ol_Ce) (X.2.2.1 _ o_inst) (X.2.2.1 _ o_code) rfl (by rw [hml]; exact hl.1) rfl d_Ce_init_1 (Nat.le_of_ble_eq_true rfl) (Nat.le_of_ble_eq_true rfl) ?_
  refine W.eq (g2 := F0 m 4 ls []) rfl ?_
  refine lv_aload_n X.1 X.2.1 d_Ce_init_4 rfl (lv_at hl 0 rfl) ?_
  refine q_new X.1 X.2.1 X.2.2.1 i_Se t_Se t_Se_ok X.2.2.2.1 (X.2.2.1 _ ck_Ce_9) (X.2.2.1 _ mk_Se) (X.2.2.1 _ ini_Se) X.2.2.2.2 Y hA (ci := 8) rfl (fs := [.null, .null, .null, .null, .int (nI 0)]) (fun j hj => match j, hj with | 0, _ => rfl | 1, _ => rfl | 2, _ => rfl | 3, _ => rfl | 4, _ => rfl | n9 + 5, h9 => absurd (show n9 + 5 < 5 from h9) (by omega)) (show 0 + 1 ≤ 5 by omega) (show 0 + 5 ≤ (1381) by omega) d_Ce_init_5 (fun q1 H hqq1 Y => ?_)
  have Y : pH D cCl (pA L sz) s.heap (L ++ [q1]) (va_up f q1 (.inr (8, [.null, .null, .null, .null, .int (nI 0)]))) H locs := Y
  have e8 : (va_up f q1 (.inr (8, [.null, .null, .null, .null, .int (nI 0)]))) q1 = .inr (8, [.null, .null, .null, .null, .int (nI 0)]) := q_up
  have e9 : (va_up f q1 (.inr (8, [.null, .null, .null, .null, .int (nI 0)]))) ce = .inr (4, [.null, .null, .null, .null, .null, .null, .int (nI 0), .int (nI 0), .int (nI 0), .int (nI 0), .null, .null, .int (nI 0), .int (nI 0), .int (nI 0), .int (nI 0)]) := (q_ne (ne_mem hqq1 m_ce)).trans e_ce
  have e10 : (va_up f q1 (.inr (8, [.null, .null, .null, .null, .int (nI 0)]))) pa = .inl (E.2.2.1, 12, .inr (.inr (.inr (.inr g_pa)))) := (q_ne (ne_mem hqq1 m_pa)).trans e_pa
  have nl6 : q1 ∉ L := fun h9 => hqq1 h9
  have hF11 : ∀ x, x ∈ L → x ≠ ce → (va_up f q1 (.inr (8, [.null, .null, .null, .null, .int (nI 0)]))) x = f x := fun x hx h0 => (q_ne (ne_mem nl6 hx)).trans rfl
  generalize (va_up f q1 (.inr (8, [.null, .null, .null, .null, .int (nI 0)]))) = f7 at Y e8 e9 e10 hF11
  have s4 : ∀ x, x ∈ L → x ∈ L ++ [q1] := fun x hx => List.mem_append_left _ hx
  have m12 : ce ∈ L ++ [q1] := List.mem_append_left _ m_ce
  have m13 : pa ∈ L ++ [q1] := List.mem_append_left _ m_pa
  have m5 : q1 ∈ L ++ [q1] := List.mem_append_right _ (List.mem_singleton.mpr rfl)
  generalize L ++ [q1] = L2 at Y s4 m12 m13 m5
  refine lv_dup X.1 X.2.1 d_Ce_init_8 rfl ?_
  refine x_v (x_runIN (As := []) (rest := [.ref q1, .ref ce]) (n := 0) X KR hml hl.1 (c_Se_init l D E T L2 f7 H.size q1 m5 e8) (ok_k X Y hA KS KR) (by decide) ks_Se_init ki_Se_init ini_Se rfl ⟨rfl, rfl⟩ hd_Se_init.2 ⟨by decide, by decide⟩ rfl (Nat.le_of_ble_eq_true rfl) d_Ce_init_9 ⟨(show 1 + 4 ≤ 5 by omega), (show 5 + (1376) ≤ (1381) by omega)⟩) X Y hA (fun u H locs hp Y => ?_)
  obtain ⟨L16, f15⟩ := u
  obtain ⟨eL18, hF17, o21, o22, o23, o24, e20⟩ := hp
  dsimp only at eL18 hF17 e20 Y
  have e25 : f15 ce = .inr (4, [.null, .null, .null, .null, .null, .null, .int (nI 0), .int (nI 0), .int (nI 0), .int (nI 0), .null, .null, .int (nI 0), .int (nI 0), .int (nI 0), .int (nI 0)]) := (hF17 ce m12 (q_tag e9 e8 (show (4 : Nat) ≠ 8 by decide))).trans e9
  have e26 : f15 pa = .inl (E.2.2.1, 12, .inr (.inr (.inr (.inr g_pa)))) := (hF17 pa m13 (q_tag e10 e8 (show (1000 : Nat) ≠ 8 by decide))).trans e10
  have hF27 : ∀ x, x ∈ L → x ≠ ce → f15 x = f x := fun x hx h0 => (hF17 x (s4 x hx) (ne_mem nl6 hx)).trans (hF11 x hx h0)
  have s28 : ∀ x, x ∈ L → x ∈ L16 := fun x hx => eL18 x (s4 x hx)
  have m29 : ce ∈ L16 := eL18 _ m12
  have m30 : pa ∈ L16 := eL18 _ m13
  have m31 : q1 ∈ L16 := eL18 _ m5
  refine q_putF X.1 X.2.1 X.2.2.1 i_Ce t_Ce t_Ce_ok n_Ce X.2.2.2.1 X.2.2.2.2 Y m29 e25 rfl 5 (by decide) (X.2.2.1 _ lk_Ce_12) (fun _ h9 => h9) rfl hin rfl (t_Ce_ok 5 (by decide)) rfl rfl (Nat.le_of_ble_eq_true rfl) d_Ce_init_12 (fun H locs Y => ?_)
  have e33 : (va_up f15 ce (.inr (4, [.null, .null, .null, .null, .null, .ref q1, .int (nI 0), .int (nI 0), .int (nI 0), .int (nI 0), .null, .null, .int (nI 0), .int (nI 0), .int (nI 0), .int (nI 0)]))) ce = .inr (4, [.null, .null, .null, .null, .null, .ref q1, .int (nI 0), .int (nI 0), .int (nI 0), .int (nI 0), .null, .null, .int (nI 0), .int (nI 0), .int (nI 0), .int (nI 0)]) := q_up
  have e34 : (va_up f15 ce (.inr (4, [.null, .null, .null, .null, .null, .ref q1, .int (nI 0), .int (nI 0), .int (nI 0), .int (nI 0), .null, .null, .int (nI 0), .int (nI 0), .int (nI 0), .int (nI 0)]))) pa = .inl (E.2.2.1, 12, .inr (.inr (.inr (.inr g_pa)))) := (q_ne (q_tag e26 e25 (show (1000 : Nat) ≠ 4 by decide))).trans e26
  have e35 : (va_up f15 ce (.inr (4, [.null, .null, .null, .null, .null, .ref q1, .int (nI 0), .int (nI 0), .int (nI 0), .int (nI 0), .null, .null, .int (nI 0), .int (nI 0), .int (nI 0), .int (nI 0)]))) q1 = .inr (8, [.ref o21, .ref o22, .ref o23, .ref o24, .int (nI 0)]) := (q_ne (q_tag e20 e25 (show (8 : Nat) ≠ 4 by decide))).trans e20
  have hF36 : ∀ x, x ∈ L → x ≠ ce → (va_up f15 ce (.inr (4, [.null, .null, .null, .null, .null, .ref q1, .int (nI 0), .int (nI 0), .int (nI 0), .int (nI 0), .null, .null, .int (nI 0), .int (nI 0), .int (nI 0), .int (nI 0)]))) x = f x := fun x hx h0 => (q_ne h0).trans (hF27 x hx h0)
  have Y : pH D cCl (pA L sz) s.heap L16 (va_up f15 ce (.inr (4, [.null, .null, .null, .null, .null, .ref q1, .int (nI 0), .int (nI 0), .int (nI 0), .int (nI 0), .null, .null, .int (nI 0), .int (nI 0), .int (nI 0), .int (nI 0)]))) H locs := Y
  generalize (va_up f15 ce (.inr (4, [.null, .null, .null, .null, .null, .ref q1, .int (nI 0), .int (nI 0), .int (nI 0), .int (nI 0), .null, .null, .int (nI 0), .int (nI 0), .int (nI 0), .int (nI 0)]))) = f32 at Y e33 e34 e35 hF36
  refine lv_aload_n X.1 X.2.1 d_Ce_init_15 rfl (lv_at hl 0 rfl) ?_
  refine lv_aload_n X.1 X.2.1 d_Ce_init_16 rfl (lv_at hl 1 rfl) ?_
  refine q_putF X.1 X.2.1 X.2.2.1 i_Ce t_Ce t_Ce_ok n_Ce X.2.2.2.1 X.2.2.2.2 Y m29 e33 rfl 0 (by decide) (X.2.2.1 _ lk_Ce_18) (fun _ h9 => h9) rfl hin rfl (t_Ce_ok 0 (by decide)) rfl rfl (Nat.le_of_ble_eq_true rfl) d_Ce_init_17 (fun H locs Y => ?_)
  have e38 : (va_up f32 ce (.inr (4, [.ref v, .null, .null, .null, .null, .ref q1, .int (nI 0), .int (nI 0), .int (nI 0), .int (nI 0), .null, .null, .int (nI 0), .int (nI 0), .int (nI 0), .int (nI 0)]))) ce = .inr (4, [.ref v, .null, .null, .null, .null, .ref q1, .int (nI 0), .int (nI 0), .int (nI 0), .int (nI 0), .null, .null, .int (nI 0), .int (nI 0), .int (nI 0), .int (nI 0)]) := q_up
  have e39 : (va_up f32 ce (.inr (4, [.ref v, .null, .null, .null, .null, .ref q1, .int (nI 0), .int (nI 0), .int (nI 0), .int (nI 0), .null, .null, .int (nI 0), .int (nI 0), .int (nI 0), .int (nI 0)]))) pa = .inl (E.2.2.1, 12, .inr (.inr (.inr (.inr g_pa)))) := (q_ne (q_tag e34 e33 (show (1000 : Nat) ≠ 4 by decide))).trans e34
  have e40 : (va_up f32 ce (.inr (4, [.ref v, .null, .null, .null, .null, .ref q1, .int (nI 0), .int (nI 0), .int (nI 0), .int (nI 0), .null, .null, .int (nI 0), .int (nI 0), .int (nI 0), .int (nI 0)]))) q1 = .inr (8, [.ref o21, .ref o22, .ref o23, .ref o24, .int (nI 0)]) := (q_ne (q_tag e35 e33 (show (8 : Nat) ≠ 4 by decide))).trans e35
  have hF41 : ∀ x, x ∈ L → x ≠ ce → (va_up f32 ce (.inr (4, [.ref v, .null, .null, .null, .null, .ref q1, .int (nI 0), .int (nI 0), .int (nI 0), .int (nI 0), .null, .null, .int (nI 0), .int (nI 0), .int (nI 0), .int (nI 0)]))) x = f x := fun x hx h0 => (q_ne h0).trans (hF36 x hx h0)
  have Y : pH D cCl (pA L sz) s.heap L16 (va_up f32 ce (.inr (4, [.ref v, .null, .null, .null, .null, .ref q1, .int (nI 0), .int (nI 0), .int (nI 0), .int (nI 0), .null, .null, .int (nI 0), .int (nI 0), .int (nI 0), .int (nI 0)]))) H locs := Y
  generalize (va_up f32 ce (.inr (4, [.ref v, .null, .null, .null, .null, .ref q1, .int (nI 0), .int (nI 0), .int (nI 0), .int (nI 0), .null, .null, .int (nI 0), .int (nI 0), .int (nI 0), .int (nI 0)]))) = f37 at Y e38 e39 e40 hF41
  refine lv_aload_n X.1 X.2.1 d_Ce_init_20 rfl (lv_at hl 0 rfl) ?_
  refine lv_aload_n X.1 X.2.1 d_Ce_init_21 rfl (lv_at hl 2 rfl) ?_
  refine q_putF X.1 X.2.1 X.2.2.1 i_Ce t_Ce t_Ce_ok n_Ce X.2.2.2.1 X.2.2.2.2 Y m29 e38 rfl 1 (by decide) (X.2.2.1 _ lk_Ce_22) (fun _ h9 => h9) rfl hin rfl (t_Ce_ok 1 (by decide)) rfl rfl (Nat.le_of_ble_eq_true rfl) d_Ce_init_22 (fun H locs Y => ?_)
  have e43 : (va_up f37 ce (.inr (4, [.ref v, .ref gao, .null, .null, .null, .ref q1, .int (nI 0), .int (nI 0), .int (nI 0), .int (nI 0), .null, .null, .int (nI 0), .int (nI 0), .int (nI 0), .int (nI 0)]))) ce = .inr (4, [.ref v, .ref gao, .null, .null, .null, .ref q1, .int (nI 0), .int (nI 0), .int (nI 0), .int (nI 0), .null, .null, .int (nI 0), .int (nI 0), .int (nI 0), .int (nI 0)]) := q_up
  have e44 : (va_up f37 ce (.inr (4, [.ref v, .ref gao, .null, .null, .null, .ref q1, .int (nI 0), .int (nI 0), .int (nI 0), .int (nI 0), .null, .null, .int (nI 0), .int (nI 0), .int (nI 0), .int (nI 0)]))) pa = .inl (E.2.2.1, 12, .inr (.inr (.inr (.inr g_pa)))) := (q_ne (q_tag e39 e38 (show (1000 : Nat) ≠ 4 by decide))).trans e39
  have e45 : (va_up f37 ce (.inr (4, [.ref v, .ref gao, .null, .null, .null, .ref q1, .int (nI 0), .int (nI 0), .int (nI 0), .int (nI 0), .null, .null, .int (nI 0), .int (nI 0), .int (nI 0), .int (nI 0)]))) q1 = .inr (8, [.ref o21, .ref o22, .ref o23, .ref o24, .int (nI 0)]) := (q_ne (q_tag e40 e38 (show (8 : Nat) ≠ 4 by decide))).trans e40
  have hF46 : ∀ x, x ∈ L → x ≠ ce → (va_up f37 ce (.inr (4, [.ref v, .ref gao, .null, .null, .null, .ref q1, .int (nI 0), .int (nI 0), .int (nI 0), .int (nI 0), .null, .null, .int (nI 0), .int (nI 0), .int (nI 0), .int (nI 0)]))) x = f x := fun x hx h0 => (q_ne h0).trans (hF41 x hx h0)
  have Y : pH D cCl (pA L sz) s.heap L16 (va_up f37 ce (.inr (4, [.ref v, .ref gao, .null, .null, .null, .ref q1, .int (nI 0), .int (nI 0), .int (nI 0), .int (nI 0), .null, .null, .int (nI 0), .int (nI 0), .int (nI 0), .int (nI 0)]))) H locs := Y
  generalize (va_up f37 ce (.inr (4, [.ref v, .ref gao, .null, .null, .null, .ref q1, .int (nI 0), .int (nI 0), .int (nI 0), .int (nI 0), .null, .null, .int (nI 0), .int (nI 0), .int (nI 0), .int (nI 0)]))) = f42 at Y e43 e44 e45 hF46
  refine lv_aload_n X.1 X.2.1 d_Ce_init_25 rfl (lv_at hl 0 rfl) ?_
  refine lv_aload_n X.1 X.2.1 d_Ce_init_26 rfl (lv_at hl 3 rfl) ?_
  refine q_putF X.1 X.2.1 X.2.2.1 i_Ce t_Ce t_Ce_ok n_Ce X.2.2.2.1 X.2.2.2.2 Y m29 e43 rfl 2 (by decide) (X.2.2.1 _ lk_Ce_26) (fun _ h9 => h9) rfl hin rfl (t_Ce_ok 2 (by decide)) rfl rfl (Nat.le_of_ble_eq_true rfl) d_Ce_init_27 (fun H locs Y => ?_)
  have e48 : (va_up f42 ce (.inr (4, [.ref v, .ref gao, .ref pa, .null, .null, .ref q1, .int (nI 0), .int (nI 0), .int (nI 0), .int (nI 0), .null, .null, .int (nI 0), .int (nI 0), .int (nI 0), .int (nI 0)]))) ce = .inr (4, [.ref v, .ref gao, .ref pa, .null, .null, .ref q1, .int (nI 0), .int (nI 0), .int (nI 0), .int (nI 0), .null, .null, .int (nI 0), .int (nI 0), .int (nI 0), .int (nI 0)]) := q_up
  have e49 : (va_up f42 ce (.inr (4, [.ref v, .ref gao, .ref pa, .null, .null, .ref q1, .int (nI 0), .int (nI 0), .int (nI 0), .int (nI 0), .null, .null, .int (nI 0), .int (nI 0), .int (nI 0), .int (nI 0)]))) pa = .inl (E.2.2.1, 12, .inr (.inr (.inr (.inr g_pa)))) := (q_ne (q_tag e44 e43 (show (1000 : Nat) ≠ 4 by decide))).trans e44
  have e50 : (va_up f42 ce (.inr (4, [.ref v, .ref gao, .ref pa, .null, .null, .ref q1, .int (nI 0), .int (nI 0), .int (nI 0), .int (nI 0), .null, .null, .int (nI 0), .int (nI 0), .int (nI 0), .int (nI 0)]))) q1 = .inr (8, [.ref o21, .ref o22, .ref o23, .ref o24, .int (nI 0)]) := (q_ne (q_tag e45 e43 (show (8 : Nat) ≠ 4 by decide))).trans e45
  have hF51 : ∀ x, x ∈ L → x ≠ ce → (va_up f42 ce (.inr (4, [.ref v, .ref gao, .ref pa, .null, .null, .ref q1, .int (nI 0), .int (nI 0), .int (nI 0), .int (nI 0), .null, .null, .int (nI 0), .int (nI 0), .int (nI 0), .int (nI 0)]))) x = f x := fun x hx h0 => (q_ne h0).trans (hF46 x hx h0)
  have Y : pH D cCl (pA L sz) s.heap L16 (va_up f42 ce (.inr (4, [.ref v, .ref gao, .ref pa, .null, .null, .ref q1, .int (nI 0), .int (nI 0), .int (nI 0), .int (nI 0), .null, .null, .int (nI 0), .int (nI 0), .int (nI 0), .int (nI 0)]))) H locs := Y
  generalize (va_up f42 ce (.inr (4, [.ref v, .ref gao, .ref pa, .null, .null, .ref q1, .int (nI 0), .int (nI 0), .int (nI 0), .int (nI 0), .null, .null, .int (nI 0), .int (nI 0), .int (nI 0), .int (nI 0)]))) = f47 at Y e48 e49 e50 hF51
  refine lv_aload_n X.1 X.2.1 d_Ce_init_30 rfl (lv_at hl 0 rfl) ?_
  refine lv_aload X.1 X.2.1 d_Ce_init_31 (lv_at hl 4 rfl) ?_
  refine q_putF X.1 X.2.1 X.2.2.1 i_Ce t_Ce t_Ce_ok n_Ce X.2.2.2.1 X.2.2.2.2 Y m29 e48 rfl 3 (by decide) (X.2.2.1 _ lk_Ce_30) (fun _ h9 => h9) rfl hin rfl (t_Ce_ok 3 (by decide)) rfl rfl (Nat.le_of_ble_eq_true rfl) d_Ce_init_33 (fun H locs Y => ?_)
  have e53 : (va_up f47 ce (.inr (4, [.ref v, .ref gao, .ref pa, .ref b, .null, .ref q1, .int (nI 0), .int (nI 0), .int (nI 0), .int (nI 0), .null, .null, .int (nI 0), .int (nI 0), .int (nI 0), .int (nI 0)]))) ce = .inr (4, [.ref v, .ref gao, .ref pa, .ref b, .null, .ref q1, .int (nI 0), .int (nI 0), .int (nI 0), .int (nI 0), .null, .null, .int (nI 0), .int (nI 0), .int (nI 0), .int (nI 0)]) := q_up
  have e54 : (va_up f47 ce (.inr (4, [.ref v, .ref gao, .ref pa, .ref b, .null, .ref q1, .int (nI 0), .int (nI 0), .int (nI 0), .int (nI 0), .null, .null, .int (nI 0), .int (nI 0), .int (nI 0), .int (nI 0)]))) pa = .inl (E.2.2.1, 12, .inr (.inr (.inr (.inr g_pa)))) := (q_ne (q_tag e49 e48 (show (1000 : Nat) ≠ 4 by decide))).trans e49
  have e55 : (va_up f47 ce (.inr (4, [.ref v, .ref gao, .ref pa, .ref b, .null, .ref q1, .int (nI 0), .int (nI 0), .int (nI 0), .int (nI 0), .null, .null, .int (nI 0), .int (nI 0), .int (nI 0), .int (nI 0)]))) q1 = .inr (8, [.ref o21, .ref o22, .ref o23, .ref o24, .int (nI 0)]) := (q_ne (q_tag e50 e48 (show (8 : Nat) ≠ 4 by decide))).trans e50
  have hF56 : ∀ x, x ∈ L → x ≠ ce → (va_up f47 ce (.inr (4, [.ref v, .ref gao, .ref pa, .ref b, .null, .ref q1, .int (nI 0), .int (nI 0), .int (nI 0), .int (nI 0), .null, .null, .int (nI 0), .int (nI 0), .int (nI 0), .int (nI 0)]))) x = f x := fun x hx h0 => (q_ne h0).trans (hF51 x hx h0)
  have Y : pH D cCl (pA L sz) s.heap L16 (va_up f47 ce (.inr (4, [.ref v, .ref gao, .ref pa, .ref b, .null, .ref q1, .int (nI 0), .int (nI 0), .int (nI 0), .int (nI 0), .null, .null, .int (nI 0), .int (nI 0), .int (nI 0), .int (nI 0)]))) H locs := Y
  generalize (va_up f47 ce (.inr (4, [.ref v, .ref gao, .ref pa, .ref b, .null, .ref q1, .int (nI 0), .int (nI 0), .int (nI 0), .int (nI 0), .null, .null, .int (nI 0), .int (nI 0), .int (nI 0), .int (nI 0)]))) = f52 at Y e53 e54 e55 hF56
  refine lv_aload_n X.1 X.2.1 d_Ce_init_36 rfl (lv_at hl 0 rfl) ?_
  refine lv_aload X.1 X.2.1 d_Ce_init_37 (lv_at hl 5 rfl) ?_
  refine q_putF X.1 X.2.1 X.2.2.1 i_Ce t_Ce t_Ce_ok n_Ce X.2.2.2.1 X.2.2.2.2 Y m29 e53 rfl 4 (by decide) (X.2.2.1 _ lk_Ce_34) (fun _ h9 => h9) rfl hin rfl (t_Ce_ok 4 (by decide)) rfl rfl (Nat.le_of_ble_eq_true rfl) d_Ce_init_39 (fun H locs Y => ?_)
  have e58 : (va_up f52 ce (.inr (4, [.ref v, .ref gao, .ref pa, .ref b, .ref sb, .ref q1, .int (nI 0), .int (nI 0), .int (nI 0), .int (nI 0), .null, .null, .int (nI 0), .int (nI 0), .int (nI 0), .int (nI 0)]))) ce = .inr (4, [.ref v, .ref gao, .ref pa, .ref b, .ref sb, .ref q1, .int (nI 0), .int (nI 0), .int (nI 0), .int (nI 0), .null, .null, .int (nI 0), .int (nI 0), .int (nI 0), .int (nI 0)]) := q_up
  have e59 : (va_up f52 ce (.inr (4, [.ref v, .ref gao, .ref pa, .ref b, .ref sb, .ref q1, .int (nI 0), .int (nI 0), .int (nI 0), .int (nI 0), .null, .null, .int (nI 0), .int (nI 0), .int (nI 0), .int (nI 0)]))) pa = .inl (E.2.2.1, 12, .inr (.inr (.inr (.inr g_pa)))) := (q_ne (q_tag e54 e53 (show (1000 : Nat) ≠ 4 by decide))).trans e54
  have e60 : (va_up f52 ce (.inr (4, [.ref v, .ref gao, .ref pa, .ref b, .ref sb, .ref q1, .int (nI 0), .int (nI 0), .int (nI 0), .int (nI 0), .null, .null, .int (nI 0), .int (nI 0), .int (nI 0), .int (nI 0)]))) q1 = .inr (8, [.ref o21, .ref o22, .ref o23, .ref o24, .int (nI 0)]) := (q_ne (q_tag e55 e53 (show (8 : Nat) ≠ 4 by decide))).trans e55
  have hF61 : ∀ x, x ∈ L → x ≠ ce → (va_up f52 ce (.inr (4, [.ref v, .ref gao, .ref pa, .ref b, .ref sb, .ref q1, .int (nI 0), .int (nI 0), .int (nI 0), .int (nI 0), .null, .null, .int (nI 0), .int (nI 0), .int (nI 0), .int (nI 0)]))) x = f x := fun x hx h0 => (q_ne h0).trans (hF56 x hx h0)
  have Y : pH D cCl (pA L sz) s.heap L16 (va_up f52 ce (.inr (4, [.ref v, .ref gao, .ref pa, .ref b, .ref sb, .ref q1, .int (nI 0), .int (nI 0), .int (nI 0), .int (nI 0), .null, .null, .int (nI 0), .int (nI 0), .int (nI 0), .int (nI 0)]))) H locs := Y
  generalize (va_up f52 ce (.inr (4, [.ref v, .ref gao, .ref pa, .ref b, .ref sb, .ref q1, .int (nI 0), .int (nI 0), .int (nI 0), .int (nI 0), .null, .null, .int (nI 0), .int (nI 0), .int (nI 0), .int (nI 0)]))) = f57 at Y e58 e59 e60 hF61
  refine lv_aload_n X.1 X.2.1 d_Ce_init_42 rfl (lv_at hl 0 rfl) ?_
  refine lv_aload_n X.1 X.2.1 d_Ce_init_43 rfl (lv_at hl 3 rfl) ?_
  refine lv_iconst (v := (nI 0)) X.1 X.2.1 d_Ce_init_44 (by decide) ?_
  refine q_aald X.1 X.2.1 X.2.2.2.2 Y 2 m30 e59 rfl (vp_in_nI (by omega) (by omega)) d_Ce_init_45 ?_
  refine t_rf (show _ = some pr by rw [nI_clamp (by decide)]; exact hh0) ?_
  refine q_put X.1 X.2.1 X.2.2.1 i_Ce t_Ce t_Ce_ok n_Ce X.2.2.2.1 X.2.2.2.2 Y m29 e58 rfl 10 (by decide) (X.2.2.1 _ lk_Ce_37) (fun _ h9 => h9) rfl (t_Ce_ok 10 (by decide)) rfl rfl (Nat.le_of_ble_eq_true rfl) d_Ce_init_46 (fun H locs Y => ?_)
  have e63 : (va_up f57 ce (.inr (4, [.ref v, .ref gao, .ref pa, .ref b, .ref sb, .ref q1, .int (nI 0), .int (nI 0), .int (nI 0), .int (nI 0), .ref pr, .null, .int (nI 0), .int (nI 0), .int (nI 0), .int (nI 0)]))) ce = .inr (4, [.ref v, .ref gao, .ref pa, .ref b, .ref sb, .ref q1, .int (nI 0), .int (nI 0), .int (nI 0), .int (nI 0), .ref pr, .null, .int (nI 0), .int (nI 0), .int (nI 0), .int (nI 0)]) := q_up
  have e64 : (va_up f57 ce (.inr (4, [.ref v, .ref gao, .ref pa, .ref b, .ref sb, .ref q1, .int (nI 0), .int (nI 0), .int (nI 0), .int (nI 0), .ref pr, .null, .int (nI 0), .int (nI 0), .int (nI 0), .int (nI 0)]))) pa = .inl (E.2.2.1, 12, .inr (.inr (.inr (.inr g_pa)))) := (q_ne (q_tag e59 e58 (show (1000 : Nat) ≠ 4 by decide))).trans e59
  have e65 : (va_up f57 ce (.inr (4, [.ref v, .ref gao, .ref pa, .ref b, .ref sb, .ref q1, .int (nI 0), .int (nI 0), .int (nI 0), .int (nI 0), .ref pr, .null, .int (nI 0), .int (nI 0), .int (nI 0), .int (nI 0)]))) q1 = .inr (8, [.ref o21, .ref o22, .ref o23, .ref o24, .int (nI 0)]) := (q_ne (q_tag e60 e58 (show (8 : Nat) ≠ 4 by decide))).trans e60
  have hF66 : ∀ x, x ∈ L → x ≠ ce → (va_up f57 ce (.inr (4, [.ref v, .ref gao, .ref pa, .ref b, .ref sb, .ref q1, .int (nI 0), .int (nI 0), .int (nI 0), .int (nI 0), .ref pr, .null, .int (nI 0), .int (nI 0), .int (nI 0), .int (nI 0)]))) x = f x := fun x hx h0 => (q_ne h0).trans (hF61 x hx h0)
  have Y : pH D cCl (pA L sz) s.heap L16 (va_up f57 ce (.inr (4, [.ref v, .ref gao, .ref pa, .ref b, .ref sb, .ref q1, .int (nI 0), .int (nI 0), .int (nI 0), .int (nI 0), .ref pr, .null, .int (nI 0), .int (nI 0), .int (nI 0), .int (nI 0)]))) H locs := Y
  generalize (va_up f57 ce (.inr (4, [.ref v, .ref gao, .ref pa, .ref b, .ref sb, .ref q1, .int (nI 0), .int (nI 0), .int (nI 0), .int (nI 0), .ref pr, .null, .int (nI 0), .int (nI 0), .int (nI 0), .int (nI 0)]))) = f62 at Y e63 e64 e65 hF66
  refine lv_aload_n X.1 X.2.1 d_Ce_init_49 rfl (lv_at hl 0 rfl) ?_
  refine lv_aload_n X.1 X.2.1 d_Ce_init_50 rfl (lv_at hl 3 rfl) ?_
  refine lv_iconst (v := (nI 0)) X.1 X.2.1 d_Ce_init_51 (by decide) ?_
  refine q_aald X.1 X.2.1 X.2.2.2.2 Y 2 m30 e64 rfl (vp_in_nI (by omega) (by omega)) d_Ce_init_52 ?_
  refine t_rf (show _ = some pr by rw [nI_clamp (by decide)]; exact hh0) ?_
  refine q_put X.1 X.2.1 X.2.2.1 i_Ce t_Ce t_Ce_ok n_Ce X.2.2.2.1 X.2.2.2.2 Y m29 e63 rfl 11 (by decide) (X.2.2.1 _ lk_Ce_41) (fun _ h9 => h9) rfl (t_Ce_ok 11 (by decide)) rfl rfl (Nat.le_of_ble_eq_true rfl) d_Ce_init_53 (fun H locs Y => ?_)
  have e68 : (va_up f62 ce (.inr (4, [.ref v, .ref gao, .ref pa, .ref b, .ref sb, .ref q1, .int (nI 0), .int (nI 0), .int (nI 0), .int (nI 0), .ref pr, .ref pr, .int (nI 0), .int (nI 0), .int (nI 0), .int (nI 0)]))) ce = .inr (4, [.ref v, .ref gao, .ref pa, .ref b, .ref sb, .ref q1, .int (nI 0), .int (nI 0), .int (nI 0), .int (nI 0), .ref pr, .ref pr, .int (nI 0), .int (nI 0), .int (nI 0), .int (nI 0)]) := q_up
  have e69 : (va_up f62 ce (.inr (4, [.ref v, .ref gao, .ref pa, .ref b, .ref sb, .ref q1, .int (nI 0), .int (nI 0), .int (nI 0), .int (nI 0), .ref pr, .ref pr, .int (nI 0), .int (nI 0), .int (nI 0), .int (nI 0)]))) pa = .inl (E.2.2.1, 12, .inr (.inr (.inr (.inr g_pa)))) := (q_ne (q_tag e64 e63 (show (1000 : Nat) ≠ 4 by decide))).trans e64
  have e70 : (va_up f62 ce (.inr (4, [.ref v, .ref gao, .ref pa, .ref b, .ref sb, .ref q1, .int (nI 0), .int (nI 0), .int (nI 0), .int (nI 0), .ref pr, .ref pr, .int (nI 0), .int (nI 0), .int (nI 0), .int (nI 0)]))) q1 = .inr (8, [.ref o21, .ref o22, .ref o23, .ref o24, .int (nI 0)]) := (q_ne (q_tag e65 e63 (show (8 : Nat) ≠ 4 by decide))).trans e65
  have hF71 : ∀ x, x ∈ L → x ≠ ce → (va_up f62 ce (.inr (4, [.ref v, .ref gao, .ref pa, .ref b, .ref sb, .ref q1, .int (nI 0), .int (nI 0), .int (nI 0), .int (nI 0), .ref pr, .ref pr, .int (nI 0), .int (nI 0), .int (nI 0), .int (nI 0)]))) x = f x := fun x hx h0 => (q_ne h0).trans (hF66 x hx h0)
  have Y : pH D cCl (pA L sz) s.heap L16 (va_up f62 ce (.inr (4, [.ref v, .ref gao, .ref pa, .ref b, .ref sb, .ref q1, .int (nI 0), .int (nI 0), .int (nI 0), .int (nI 0), .ref pr, .ref pr, .int (nI 0), .int (nI 0), .int (nI 0), .int (nI 0)]))) H locs := Y
  generalize (va_up f62 ce (.inr (4, [.ref v, .ref gao, .ref pa, .ref b, .ref sb, .ref q1, .int (nI 0), .int (nI 0), .int (nI 0), .int (nI 0), .ref pr, .ref pr, .int (nI 0), .int (nI 0), .int (nI 0), .int (nI 0)]))) = f67 at Y e68 e69 e70 hF71
  refine W.cs (cells' := 5) (slots' := 1381) (by omega) (by omega) ?_
  exact c_retv hQQ X Y hr hlk ⟨s28, hF71, q1, pr, e68⟩ d_Ce_init_56
