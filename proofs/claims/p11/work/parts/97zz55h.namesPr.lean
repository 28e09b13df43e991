abbrev b_Pr_init : ByteArray := prog_8_method_1_code
def y_Pr_init : MethodName := ⟨R_Pr, "<init>", "()V"⟩
abbrev k_Pr_init : Cond := .code y_Pr_init b_Pr_init 1 none
theorem ki_Pr_init : k_Pr_init ∈ lw_tg := in_t 215 (by decide +kernel)
theorem ks_Pr_init : Cond.instanceMethod y_Pr_init ∈ lw_tg := in_t 214 (by decide +kernel)
theorem hd_Pr_init : y_Pr_init.cls = R_Pr ∧ y_Pr_init.cls ≠ "java/lang/invoke/MethodHandle" ∧ y_Pr_init.cls ≠ "java/lang/invoke/VarHandle" ∧ (parseMethodDescriptor y_Pr_init.desc).map (fun d => d.parameters.length) = some 0 := by decide +kernel
theorem d_Pr_init_0 : decode b_Pr_init 0 = .ok (.aload_n 0, 1) := by decide +kernel
theorem d_Pr_init_1 : decode b_Pr_init 1 = .ok (.invokespecial 3, 3) := by decide +kernel
theorem d_Pr_init_4 : decode b_Pr_init 4 = .ok (.aload_n 0, 1) := by decide +kernel
theorem d_Pr_init_5 : decode b_Pr_init 5 = .ok (.new 9, 3) := by decide +kernel
theorem d_Pr_init_8 : decode b_Pr_init 8 = .ok (.dup, 1) := by decide +kernel
theorem d_Pr_init_9 : decode b_Pr_init 9 = .ok (.bipush 40, 2) := by decide +kernel
theorem d_Pr_init_11 : decode b_Pr_init 11 = .ok (.invokespecial 11, 3) := by decide +kernel
theorem d_Pr_init_14 : decode b_Pr_init 14 = .ok (.putfield 14, 3) := by decide +kernel
theorem d_Pr_init_17 : decode b_Pr_init 17 = .ok (.aload_n 0, 1) := by decide +kernel
theorem d_Pr_init_18 : decode b_Pr_init 18 = .ok (.new 20, 3) := by decide +kernel
theorem d_Pr_init_21 : decode b_Pr_init 21 = .ok (.dup, 1) := by decide +kernel
theorem d_Pr_init_22 : decode b_Pr_init 22 = .ok (.invokespecial 22, 3) := by decide +kernel
theorem d_Pr_init_25 : decode b_Pr_init 25 = .ok (.putfield 23, 3) := by decide +kernel
theorem d_Pr_init_28 : decode b_Pr_init 28 = .ok (.aload_n 0, 1) := by decide +kernel
theorem d_Pr_init_29 : decode b_Pr_init 29 = .ok (.getstatic 27, 3) := by decide +kernel
theorem d_Pr_init_32 : decode b_Pr_init 32 = .ok (.putfield 31, 3) := by decide +kernel
theorem d_Pr_init_35 : decode b_Pr_init 35 = .ok (.aload_n 0, 1) := by decide +kernel
theorem d_Pr_init_36 : decode b_Pr_init 36 = .ok (.getstatic 27, 3) := by decide +kernel
theorem d_Pr_init_39 : decode b_Pr_init 39 = .ok (.putfield 34, 3) := by decide +kernel
theorem d_Pr_init_42 : decode b_Pr_init 42 = .ok (.aload_n 0, 1) := by decide +kernel
theorem d_Pr_init_43 : decode b_Pr_init 43 = .ok (.getstatic 27, 3) := by decide +kernel
theorem d_Pr_init_46 : decode b_Pr_init 46 = .ok (.putfield 37, 3) := by decide +kernel
theorem d_Pr_init_49 : decode b_Pr_init 49 = .ok (.aload_n 0, 1) := by decide +kernel
theorem d_Pr_init_50 : decode b_Pr_init 50 = .ok (.getstatic 27, 3) := by decide +kernel
theorem d_Pr_init_53 : decode b_Pr_init 53 = .ok (.putfield 40, 3) := by decide +kernel
theorem d_Pr_init_56 : decode b_Pr_init 56 = .ok (.aload_n 0, 1) := by decide +kernel
theorem d_Pr_init_57 : decode b_Pr_init 57 = .ok (.ldc 43, 2) := by decide +kernel
theorem d_Pr_init_59 : decode b_Pr_init 59 = .ok (.putfield 44, 3) := by decide +kernel
theorem d_Pr_init_62 : decode b_Pr_init 62 = .ok (.aload_n 0, 1) := by decide +kernel
theorem d_Pr_init_63 : decode b_Pr_init 63 = .ok (.ldc 48, 2) := by decide +kernel
theorem d_Pr_init_65 : decode b_Pr_init 65 = .ok (.putfield 49, 3) := by decide +kernel
theorem d_Pr_init_68 : decode b_Pr_init 68 = .ok (.aload_n 0, 1) := by decide +kernel
theorem d_Pr_init_69 : decode b_Pr_init 69 = .ok (.bipush 15, 2) := by decide +kernel
theorem d_Pr_init_71 : decode b_Pr_init 71 = .ok (.putfield 52, 3) := by decide +kernel
theorem d_Pr_init_74 : decode b_Pr_init 74 = .ok (.return_, 1) := by decide +kernel
abbrev b_Pr_findParts : ByteArray := prog_8_method_2_code
def y_Pr_findParts : MethodName := ⟨R_Pr, "findParts", "([LRealmHouse$Principal;LRealmHouse$Bytes;)I"⟩
abbrev k_Pr_findParts : Cond := .code y_Pr_findParts b_Pr_findParts 3 (some .int)
theorem ki_Pr_findParts : k_Pr_findParts ∈ lw_tg := in_t 805 (by decide +kernel)
theorem ks_Pr_findParts : Cond.static y_Pr_findParts ∈ lw_tg := in_t 804 (by decide +kernel)
theorem kl_H_Pr_findParts : Cond.methodLink R_H 128 y_Pr_findParts ∈ lw_tg := in_t 803 (by decide +kernel)
theorem hd_Pr_findParts : y_Pr_findParts.cls = R_Pr ∧ y_Pr_findParts.cls ≠ "java/lang/invoke/MethodHandle" ∧ y_Pr_findParts.cls ≠ "java/lang/invoke/VarHandle" ∧ (parseMethodDescriptor y_Pr_findParts.desc).map (fun d => d.parameters.length) = some 2 := by decide +kernel
theorem d_Pr_findParts_0 : decode b_Pr_findParts 0 = .ok (.iconst 0, 1) := by decide +kernel
theorem d_Pr_findParts_1 : decode b_Pr_findParts 1 = .ok (.istore_n 2, 1) := by decide +kernel
theorem d_Pr_findParts_2 : decode b_Pr_findParts 2 = .ok (.iload_n 2, 1) := by decide +kernel
theorem d_Pr_findParts_3 : decode b_Pr_findParts 3 = .ok (.aload_n 0, 1) := by decide +kernel
theorem d_Pr_findParts_4 : decode b_Pr_findParts 4 = .ok (.arraylength, 1) := by decide +kernel
theorem d_Pr_findParts_5 : decode b_Pr_findParts 5 = .ok (.if_icmp .ge 48, 3) := by decide +kernel
theorem d_Pr_findParts_8 : decode b_Pr_findParts 8 = .ok (.aload_n 0, 1) := by decide +kernel
theorem d_Pr_findParts_9 : decode b_Pr_findParts 9 = .ok (.iload_n 2, 1) := by decide +kernel
theorem d_Pr_findParts_10 : decode b_Pr_findParts 10 = .ok (.aaload, 1) := by decide +kernel
theorem d_Pr_findParts_11 : decode b_Pr_findParts 11 = .ok (.getfield 55, 3) := by decide +kernel
theorem d_Pr_findParts_14 : decode b_Pr_findParts 14 = .ok (.ifCond .eq 33, 3) := by decide +kernel
theorem d_Pr_findParts_17 : decode b_Pr_findParts 17 = .ok (.aload_n 1, 1) := by decide +kernel
theorem d_Pr_findParts_18 : decode b_Pr_findParts 18 = .ok (.iconst 0, 1) := by decide +kernel
theorem d_Pr_findParts_19 : decode b_Pr_findParts 19 = .ok (.aload_n 1, 1) := by decide +kernel
theorem d_Pr_findParts_20 : decode b_Pr_findParts 20 = .ok (.getfield 59, 3) := by decide +kernel
theorem d_Pr_findParts_23 : decode b_Pr_findParts 23 = .ok (.aload_n 0, 1) := by decide +kernel
theorem d_Pr_findParts_24 : decode b_Pr_findParts 24 = .ok (.iload_n 2, 1) := by decide +kernel
theorem d_Pr_findParts_25 : decode b_Pr_findParts 25 = .ok (.aaload, 1) := by decide +kernel
theorem d_Pr_findParts_26 : decode b_Pr_findParts 26 = .ok (.getfield 14, 3) := by decide +kernel
theorem d_Pr_findParts_29 : decode b_Pr_findParts 29 = .ok (.iconst 0, 1) := by decide +kernel
theorem d_Pr_findParts_30 : decode b_Pr_findParts 30 = .ok (.aload_n 0, 1) := by decide +kernel
theorem d_Pr_findParts_31 : decode b_Pr_findParts 31 = .ok (.iload_n 2, 1) := by decide +kernel
theorem d_Pr_findParts_32 : decode b_Pr_findParts 32 = .ok (.aaload, 1) := by decide +kernel
theorem d_Pr_findParts_33 : decode b_Pr_findParts 33 = .ok (.getfield 14, 3) := by decide +kernel
theorem d_Pr_findParts_36 : decode b_Pr_findParts 36 = .ok (.getfield 59, 3) := by decide +kernel
theorem d_Pr_findParts_39 : decode b_Pr_findParts 39 = .ok (.invokevirtual 62, 3) := by decide +kernel
theorem d_Pr_findParts_42 : decode b_Pr_findParts 42 = .ok (.ifCond .eq 5, 3) := by decide +kernel
theorem d_Pr_findParts_45 : decode b_Pr_findParts 45 = .ok (.iload_n 2, 1) := by decide +kernel
theorem d_Pr_findParts_46 : decode b_Pr_findParts 46 = .ok (.ireturn, 1) := by decide +kernel
theorem d_Pr_findParts_47 : decode b_Pr_findParts 47 = .ok (.iinc 2 1, 3) := by decide +kernel
theorem d_Pr_findParts_50 : decode b_Pr_findParts 50 = .ok (.goto (-48), 3) := by decide +kernel
theorem d_Pr_findParts_53 : decode b_Pr_findParts 53 = .ok (.iconst (-1), 1) := by decide +kernel
theorem d_Pr_findParts_54 : decode b_Pr_findParts 54 = .ok (.ireturn, 1) := by decide +kernel
abbrev b_Pr_findNamed : ByteArray := prog_8_method_3_code
def y_Pr_findNamed : MethodName := ⟨R_Pr, "findNamed", "([LRealmHouse$Principal;LRealmHouse$Bytes;I)I"⟩
abbrev k_Pr_findNamed : Cond := .code y_Pr_findNamed b_Pr_findNamed 4 (some .int)
theorem ki_Pr_findNamed : k_Pr_findNamed ∈ lw_tg := in_t 1107 (by decide +kernel)
theorem ks_Pr_findNamed : Cond.static y_Pr_findNamed ∈ lw_tg := in_t 1106 (by decide +kernel)
theorem kl_Ce_Pr_findNamed : Cond.methodLink R_Ce 146 y_Pr_findNamed ∈ lw_tg := in_t 1105 (by decide +kernel)
theorem hd_Pr_findNamed : y_Pr_findNamed.cls = R_Pr ∧ y_Pr_findNamed.cls ≠ "java/lang/invoke/MethodHandle" ∧ y_Pr_findNamed.cls ≠ "java/lang/invoke/VarHandle" ∧ (parseMethodDescriptor y_Pr_findNamed.desc).map (fun d => d.parameters.length) = some 3 := by decide +kernel
theorem d_Pr_findNamed_0 : decode b_Pr_findNamed 0 = .ok (.iconst 0, 1) := by decide +kernel
theorem d_Pr_findNamed_1 : decode b_Pr_findNamed 1 = .ok (.istore_n 3, 1) := by decide +kernel
theorem d_Pr_findNamed_2 : decode b_Pr_findNamed 2 = .ok (.iload_n 3, 1) := by decide +kernel
theorem d_Pr_findNamed_3 : decode b_Pr_findNamed 3 = .ok (.aload_n 0, 1) := by decide +kernel
theorem d_Pr_findNamed_4 : decode b_Pr_findNamed 4 = .ok (.arraylength, 1) := by decide +kernel
theorem d_Pr_findNamed_5 : decode b_Pr_findNamed 5 = .ok (.if_icmp .ge 34, 3) := by decide +kernel
theorem d_Pr_findNamed_8 : decode b_Pr_findNamed 8 = .ok (.aload_n 0, 1) := by decide +kernel
theorem d_Pr_findNamed_9 : decode b_Pr_findNamed 9 = .ok (.iload_n 3, 1) := by decide +kernel
theorem d_Pr_findNamed_10 : decode b_Pr_findNamed 10 = .ok (.aaload, 1) := by decide +kernel
theorem d_Pr_findNamed_11 : decode b_Pr_findNamed 11 = .ok (.getfield 55, 3) := by decide +kernel
theorem d_Pr_findNamed_14 : decode b_Pr_findNamed 14 = .ok (.ifCond .eq 19, 3) := by decide +kernel
theorem d_Pr_findNamed_17 : decode b_Pr_findNamed 17 = .ok (.aload_n 1, 1) := by decide +kernel
theorem d_Pr_findNamed_18 : decode b_Pr_findNamed 18 = .ok (.iload_n 2, 1) := by decide +kernel
theorem d_Pr_findNamed_19 : decode b_Pr_findNamed 19 = .ok (.aload_n 0, 1) := by decide +kernel
theorem d_Pr_findNamed_20 : decode b_Pr_findNamed 20 = .ok (.iload_n 3, 1) := by decide +kernel
theorem d_Pr_findNamed_21 : decode b_Pr_findNamed 21 = .ok (.aaload, 1) := by decide +kernel
theorem d_Pr_findNamed_22 : decode b_Pr_findNamed 22 = .ok (.getfield 14, 3) := by decide +kernel
theorem d_Pr_findNamed_25 : decode b_Pr_findNamed 25 = .ok (.invokevirtual 66, 3) := by decide +kernel
theorem d_Pr_findNamed_28 : decode b_Pr_findNamed 28 = .ok (.ifCond .eq 5, 3) := by decide +kernel
theorem d_Pr_findNamed_31 : decode b_Pr_findNamed 31 = .ok (.iload_n 3, 1) := by decide +kernel
theorem d_Pr_findNamed_32 : decode b_Pr_findNamed 32 = .ok (.ireturn, 1) := by decide +kernel
theorem d_Pr_findNamed_33 : decode b_Pr_findNamed 33 = .ok (.iinc 3 1, 3) := by decide +kernel
theorem d_Pr_findNamed_36 : decode b_Pr_findNamed 36 = .ok (.goto (-34), 3) := by decide +kernel
theorem d_Pr_findNamed_39 : decode b_Pr_findNamed 39 = .ok (.iconst (-1), 1) := by decide +kernel
theorem d_Pr_findNamed_40 : decode b_Pr_findNamed 40 = .ok (.ireturn, 1) := by decide +kernel
abbrev b_Pr_begin : ByteArray := prog_8_method_4_code
def y_Pr_begin : MethodName := ⟨R_Pr, "begin", "(LRealmHouse$Bytes;)V"⟩
abbrev k_Pr_begin : Cond := .code y_Pr_begin b_Pr_begin 2 none
theorem ki_Pr_begin : k_Pr_begin ∈ lw_tg := in_t 552 (by decide +kernel)
theorem ks_Pr_begin : Cond.instanceMethod y_Pr_begin ∈ lw_tg := in_t 550 (by decide +kernel)
theorem kx_Pr_begin : Cond.selects R_Pr y_Pr_begin y_Pr_begin ∈ lw_tg := in_t 551 (by decide +kernel)
theorem kl_H_Pr_begin : Cond.methodLink R_H 65 y_Pr_begin ∈ lw_tg := in_t 549 (by decide +kernel)
theorem hd_Pr_begin : y_Pr_begin.cls = R_Pr ∧ y_Pr_begin.cls ≠ "java/lang/invoke/MethodHandle" ∧ y_Pr_begin.cls ≠ "java/lang/invoke/VarHandle" ∧ (parseMethodDescriptor y_Pr_begin.desc).map (fun d => d.parameters.length) = some 1 := by decide +kernel
theorem d_Pr_begin_0 : decode b_Pr_begin 0 = .ok (.aload_n 0, 1) := by decide +kernel
theorem d_Pr_begin_1 : decode b_Pr_begin 1 = .ok (.getfield 14, 3) := by decide +kernel
theorem d_Pr_begin_4 : decode b_Pr_begin 4 = .ok (.aload_n 1, 1) := by decide +kernel
theorem d_Pr_begin_5 : decode b_Pr_begin 5 = .ok (.invokevirtual 70, 3) := by decide +kernel
theorem d_Pr_begin_8 : decode b_Pr_begin 8 = .ok (.aload_n 0, 1) := by decide +kernel
theorem d_Pr_begin_9 : decode b_Pr_begin 9 = .ok (.iconst 1, 1) := by decide +kernel
theorem d_Pr_begin_10 : decode b_Pr_begin 10 = .ok (.putfield 55, 3) := by decide +kernel
theorem d_Pr_begin_13 : decode b_Pr_begin 13 = .ok (.return_, 1) := by decide +kernel
abbrev b_Pr_rekey : ByteArray := prog_8_method_5_code
def y_Pr_rekey : MethodName := ⟨R_Pr, "rekey", "(LRealmHouse$Vault;LRealmHouse$Bytes;II)V"⟩
abbrev k_Pr_rekey : Cond := .code y_Pr_rekey b_Pr_rekey 5 none
theorem ki_Pr_rekey : k_Pr_rekey ∈ lw_tg := in_t 564 (by decide +kernel)
theorem ks_Pr_rekey : Cond.instanceMethod y_Pr_rekey ∈ lw_tg := in_t 562 (by decide +kernel)
theorem kx_Pr_rekey : Cond.selects R_Pr y_Pr_rekey y_Pr_rekey ∈ lw_tg := in_t 563 (by decide +kernel)
theorem kl_H_Pr_rekey : Cond.methodLink R_H 68 y_Pr_rekey ∈ lw_tg := in_t 561 (by decide +kernel)
theorem hd_Pr_rekey : y_Pr_rekey.cls = R_Pr ∧ y_Pr_rekey.cls ≠ "java/lang/invoke/MethodHandle" ∧ y_Pr_rekey.cls ≠ "java/lang/invoke/VarHandle" ∧ (parseMethodDescriptor y_Pr_rekey.desc).map (fun d => d.parameters.length) = some 4 := by decide +kernel
theorem d_Pr_rekey_0 : decode b_Pr_rekey 0 = .ok (.aload_n 0, 1) := by decide +kernel
theorem d_Pr_rekey_1 : decode b_Pr_rekey 1 = .ok (.aload_n 0, 1) := by decide +kernel
theorem d_Pr_rekey_2 : decode b_Pr_rekey 2 = .ok (.getfield 31, 3) := by decide +kernel
theorem d_Pr_rekey_5 : decode b_Pr_rekey 5 = .ok (.putfield 37, 3) := by decide +kernel
theorem d_Pr_rekey_8 : decode b_Pr_rekey 8 = .ok (.aload_n 0, 1) := by decide +kernel
theorem d_Pr_rekey_9 : decode b_Pr_rekey 9 = .ok (.aload_n 0, 1) := by decide +kernel
theorem d_Pr_rekey_10 : decode b_Pr_rekey 10 = .ok (.getfield 34, 3) := by decide +kernel
theorem d_Pr_rekey_13 : decode b_Pr_rekey 13 = .ok (.putfield 40, 3) := by decide +kernel
theorem d_Pr_rekey_16 : decode b_Pr_rekey 16 = .ok (.aload_n 0, 1) := by decide +kernel
theorem d_Pr_rekey_17 : decode b_Pr_rekey 17 = .ok (.aload_n 1, 1) := by decide +kernel
theorem d_Pr_rekey_18 : decode b_Pr_rekey 18 = .ok (.bipush 18, 2) := by decide +kernel
theorem d_Pr_rekey_20 : decode b_Pr_rekey 20 = .ok (.aload_n 0, 1) := by decide +kernel
theorem d_Pr_rekey_21 : decode b_Pr_rekey 21 = .ok (.getfield 14, 3) := by decide +kernel
theorem d_Pr_rekey_24 : decode b_Pr_rekey 24 = .ok (.aload_n 2, 1) := by decide +kernel
theorem d_Pr_rekey_25 : decode b_Pr_rekey 25 = .ok (.iload_n 3, 1) := by decide +kernel
theorem d_Pr_rekey_26 : decode b_Pr_rekey 26 = .ok (.iload 4, 2) := by decide +kernel
theorem d_Pr_rekey_28 : decode b_Pr_rekey 28 = .ok (.invokevirtual 74, 3) := by decide +kernel
theorem d_Pr_rekey_31 : decode b_Pr_rekey 31 = .ok (.putfield 31, 3) := by decide +kernel
theorem d_Pr_rekey_34 : decode b_Pr_rekey 34 = .ok (.aload_n 0, 1) := by decide +kernel
theorem d_Pr_rekey_35 : decode b_Pr_rekey 35 = .ok (.aload_n 1, 1) := by decide +kernel
theorem d_Pr_rekey_36 : decode b_Pr_rekey 36 = .ok (.bipush 17, 2) := by decide +kernel
theorem d_Pr_rekey_38 : decode b_Pr_rekey 38 = .ok (.aload_n 0, 1) := by decide +kernel
theorem d_Pr_rekey_39 : decode b_Pr_rekey 39 = .ok (.getfield 14, 3) := by decide +kernel
theorem d_Pr_rekey_42 : decode b_Pr_rekey 42 = .ok (.aload_n 2, 1) := by decide +kernel
theorem d_Pr_rekey_43 : decode b_Pr_rekey 43 = .ok (.iload_n 3, 1) := by decide +kernel
theorem d_Pr_rekey_44 : decode b_Pr_rekey 44 = .ok (.iload 4, 2) := by decide +kernel
theorem d_Pr_rekey_46 : decode b_Pr_rekey 46 = .ok (.invokevirtual 74, 3) := by decide +kernel
theorem d_Pr_rekey_49 : decode b_Pr_rekey 49 = .ok (.putfield 34, 3) := by decide +kernel
theorem d_Pr_rekey_52 : decode b_Pr_rekey 52 = .ok (.aload_n 0, 1) := by decide +kernel
theorem d_Pr_rekey_53 : decode b_Pr_rekey 53 = .ok (.iload 4, 2) := by decide +kernel
theorem d_Pr_rekey_55 : decode b_Pr_rekey 55 = .ok (.putfield 80, 3) := by decide +kernel
theorem d_Pr_rekey_58 : decode b_Pr_rekey 58 = .ok (.aload_n 0, 1) := by decide +kernel
theorem d_Pr_rekey_59 : decode b_Pr_rekey 59 = .ok (.dup, 1) := by decide +kernel
theorem d_Pr_rekey_60 : decode b_Pr_rekey 60 = .ok (.getfield 83, 3) := by decide +kernel
theorem d_Pr_rekey_63 : decode b_Pr_rekey 63 = .ok (.iconst 1, 1) := by decide +kernel
theorem d_Pr_rekey_64 : decode b_Pr_rekey 64 = .ok (.iadd, 1) := by decide +kernel
theorem d_Pr_rekey_65 : decode b_Pr_rekey 65 = .ok (.putfield 83, 3) := by decide +kernel
theorem d_Pr_rekey_68 : decode b_Pr_rekey 68 = .ok (.return_, 1) := by decide +kernel
abbrev b_Pr_rule : ByteArray := prog_8_method_6_code
def y_Pr_rule : MethodName := ⟨R_Pr, "rule", "(II)Z"⟩
abbrev k_Pr_rule : Cond := .code y_Pr_rule b_Pr_rule 3 (some .boolean)
theorem ki_Pr_rule : k_Pr_rule ∈ lw_tg := in_t 825 (by decide +kernel)
theorem ks_Pr_rule : Cond.instanceMethod y_Pr_rule ∈ lw_tg := in_t 823 (by decide +kernel)
theorem kx_Pr_rule : Cond.selects R_Pr y_Pr_rule y_Pr_rule ∈ lw_tg := in_t 824 (by decide +kernel)
theorem kl_H_Pr_rule : Cond.methodLink R_H 141 y_Pr_rule ∈ lw_tg := in_t 822 (by decide +kernel)
theorem hd_Pr_rule : y_Pr_rule.cls = R_Pr ∧ y_Pr_rule.cls ≠ "java/lang/invoke/MethodHandle" ∧ y_Pr_rule.cls ≠ "java/lang/invoke/VarHandle" ∧ (parseMethodDescriptor y_Pr_rule.desc).map (fun d => d.parameters.length) = some 2 := by decide +kernel
theorem d_Pr_rule_0 : decode b_Pr_rule 0 = .ok (.iload_n 1, 1) := by decide +kernel
theorem d_Pr_rule_1 : decode b_Pr_rule 1 = .ok (.ifCond .lt 26, 3) := by decide +kernel
theorem d_Pr_rule_4 : decode b_Pr_rule 4 = .ok (.iload_n 1, 1) := by decide +kernel
theorem d_Pr_rule_5 : decode b_Pr_rule 5 = .ok (.iconst 3, 1) := by decide +kernel
theorem d_Pr_rule_6 : decode b_Pr_rule 6 = .ok (.if_icmp .gt 21, 3) := by decide +kernel
theorem d_Pr_rule_9 : decode b_Pr_rule 9 = .ok (.iload_n 2, 1) := by decide +kernel
theorem d_Pr_rule_10 : decode b_Pr_rule 10 = .ok (.getstatic 86, 3) := by decide +kernel
theorem d_Pr_rule_13 : decode b_Pr_rule 13 = .ok (.iload_n 1, 1) := by decide +kernel
theorem d_Pr_rule_14 : decode b_Pr_rule 14 = .ok (.iaload, 1) := by decide +kernel
theorem d_Pr_rule_15 : decode b_Pr_rule 15 = .ok (.if_icmp .lt 12, 3) := by decide +kernel
theorem d_Pr_rule_18 : decode b_Pr_rule 18 = .ok (.iload_n 2, 1) := by decide +kernel
theorem d_Pr_rule_19 : decode b_Pr_rule 19 = .ok (.getstatic 90, 3) := by decide +kernel
theorem d_Pr_rule_22 : decode b_Pr_rule 22 = .ok (.iload_n 1, 1) := by decide +kernel
theorem d_Pr_rule_23 : decode b_Pr_rule 23 = .ok (.iaload, 1) := by decide +kernel
theorem d_Pr_rule_24 : decode b_Pr_rule 24 = .ok (.if_icmp .le 5, 3) := by decide +kernel
theorem d_Pr_rule_27 : decode b_Pr_rule 27 = .ok (.iconst 0, 1) := by decide +kernel
theorem d_Pr_rule_28 : decode b_Pr_rule 28 = .ok (.ireturn, 1) := by decide +kernel
theorem d_Pr_rule_29 : decode b_Pr_rule 29 = .ok (.iload_n 1, 1) := by decide +kernel
theorem d_Pr_rule_30 : decode b_Pr_rule 30 = .ok (.tableswitch 50 0 2 #[26, 34, 42], 26) := by decide +kernel
theorem d_Pr_rule_56 : decode b_Pr_rule 56 = .ok (.aload_n 0, 1) := by decide +kernel
theorem d_Pr_rule_57 : decode b_Pr_rule 57 = .ok (.iload_n 2, 1) := by decide +kernel
theorem d_Pr_rule_58 : decode b_Pr_rule 58 = .ok (.putfield 44, 3) := by decide +kernel
theorem d_Pr_rule_61 : decode b_Pr_rule 61 = .ok (.goto 24, 3) := by decide +kernel
theorem d_Pr_rule_64 : decode b_Pr_rule 64 = .ok (.aload_n 0, 1) := by decide +kernel
theorem d_Pr_rule_65 : decode b_Pr_rule 65 = .ok (.iload_n 2, 1) := by decide +kernel
theorem d_Pr_rule_66 : decode b_Pr_rule 66 = .ok (.putfield 49, 3) := by decide +kernel
theorem d_Pr_rule_69 : decode b_Pr_rule 69 = .ok (.goto 16, 3) := by decide +kernel
theorem d_Pr_rule_72 : decode b_Pr_rule 72 = .ok (.aload_n 0, 1) := by decide +kernel
theorem d_Pr_rule_73 : decode b_Pr_rule 73 = .ok (.iload_n 2, 1) := by decide +kernel
theorem d_Pr_rule_74 : decode b_Pr_rule 74 = .ok (.putfield 52, 3) := by decide +kernel
theorem d_Pr_rule_77 : decode b_Pr_rule 77 = .ok (.goto 8, 3) := by decide +kernel
theorem d_Pr_rule_80 : decode b_Pr_rule 80 = .ok (.aload_n 0, 1) := by decide +kernel
theorem d_Pr_rule_81 : decode b_Pr_rule 81 = .ok (.iload_n 2, 1) := by decide +kernel
theorem d_Pr_rule_82 : decode b_Pr_rule 82 = .ok (.putfield 93, 3) := by decide +kernel
theorem d_Pr_rule_85 : decode b_Pr_rule 85 = .ok (.iconst 1, 1) := by decide +kernel
theorem d_Pr_rule_86 : decode b_Pr_rule 86 = .ok (.ireturn, 1) := by decide +kernel
abbrev b_Pr_is : ByteArray := prog_8_method_7_code
def y_Pr_is : MethodName := ⟨R_Pr, "is", "(I)Z"⟩
abbrev k_Pr_is : Cond := .code y_Pr_is b_Pr_is 2 (some .boolean)
theorem ki_Pr_is : k_Pr_is ∈ lw_tg := in_t 1112 (by decide +kernel)
theorem ks_Pr_is : Cond.instanceMethod y_Pr_is ∈ lw_tg := in_t 1110 (by decide +kernel)
theorem kx_Pr_is : Cond.selects R_Pr y_Pr_is y_Pr_is ∈ lw_tg := in_t 1111 (by decide +kernel)
theorem kl_Ce_Pr_is : Cond.methodLink R_Ce 121 y_Pr_is ∈ lw_tg := in_t 1109 (by decide +kernel)
theorem kl_Ga_Pr_is : Cond.methodLink R_Ga 158 y_Pr_is ∈ lw_tg := in_t 1566 (by decide +kernel)
theorem hd_Pr_is : y_Pr_is.cls = R_Pr ∧ y_Pr_is.cls ≠ "java/lang/invoke/MethodHandle" ∧ y_Pr_is.cls ≠ "java/lang/invoke/VarHandle" ∧ (parseMethodDescriptor y_Pr_is.desc).map (fun d => d.parameters.length) = some 1 := by decide +kernel
theorem d_Pr_is_0 : decode b_Pr_is 0 = .ok (.aload_n 0, 1) := by decide +kernel
theorem d_Pr_is_1 : decode b_Pr_is 1 = .ok (.getfield 52, 3) := by decide +kernel
theorem d_Pr_is_4 : decode b_Pr_is 4 = .ok (.iload_n 1, 1) := by decide +kernel
theorem d_Pr_is_5 : decode b_Pr_is 5 = .ok (.iand, 1) := by decide +kernel
theorem d_Pr_is_6 : decode b_Pr_is 6 = .ok (.ifCond .eq 7, 3) := by decide +kernel
theorem d_Pr_is_9 : decode b_Pr_is 9 = .ok (.iconst 1, 1) := by decide +kernel
theorem d_Pr_is_10 : decode b_Pr_is 10 = .ok (.goto 4, 3) := by decide +kernel
theorem d_Pr_is_13 : decode b_Pr_is 13 = .ok (.iconst 0, 1) := by decide +kernel
theorem d_Pr_is_14 : decode b_Pr_is 14 = .ok (.ireturn, 1) := by decide +kernel
abbrev b_Pr_isOver : ByteArray := prog_8_method_8_code
def y_Pr_isOver : MethodName := ⟨R_Pr, "isOver", "(I)Z"⟩
abbrev k_Pr_isOver : Cond := .code y_Pr_isOver b_Pr_isOver 2 (some .boolean)
theorem ki_Pr_isOver : k_Pr_isOver ∈ lw_tg := in_t 1116 (by decide +kernel)
theorem ks_Pr_isOver : Cond.instanceMethod y_Pr_isOver ∈ lw_tg := in_t 1114 (by decide +kernel)
theorem kx_Pr_isOver : Cond.selects R_Pr y_Pr_isOver y_Pr_isOver ∈ lw_tg := in_t 1115 (by decide +kernel)
theorem kl_Ce_Pr_isOver : Cond.methodLink R_Ce 150 y_Pr_isOver ∈ lw_tg := in_t 1113 (by decide +kernel)
theorem hd_Pr_isOver : y_Pr_isOver.cls = R_Pr ∧ y_Pr_isOver.cls ≠ "java/lang/invoke/MethodHandle" ∧ y_Pr_isOver.cls ≠ "java/lang/invoke/VarHandle" ∧ (parseMethodDescriptor y_Pr_isOver.desc).map (fun d => d.parameters.length) = some 1 := by decide +kernel
theorem d_Pr_isOver_0 : decode b_Pr_isOver 0 = .ok (.aload_n 0, 1) := by decide +kernel
theorem d_Pr_isOver_1 : decode b_Pr_isOver 1 = .ok (.getfield 93, 3) := by decide +kernel
theorem d_Pr_isOver_4 : decode b_Pr_isOver 4 = .ok (.ifCond .le 15, 3) := by decide +kernel
theorem d_Pr_isOver_7 : decode b_Pr_isOver 7 = .ok (.iload_n 1, 1) := by decide +kernel
theorem d_Pr_isOver_8 : decode b_Pr_isOver 8 = .ok (.aload_n 0, 1) := by decide +kernel
theorem d_Pr_isOver_9 : decode b_Pr_isOver 9 = .ok (.getfield 93, 3) := by decide +kernel
theorem d_Pr_isOver_12 : decode b_Pr_isOver 12 = .ok (.if_icmp .lt 7, 3) := by decide +kernel
theorem d_Pr_isOver_15 : decode b_Pr_isOver 15 = .ok (.iconst 1, 1) := by decide +kernel
theorem d_Pr_isOver_16 : decode b_Pr_isOver 16 = .ok (.goto 4, 3) := by decide +kernel
theorem d_Pr_isOver_19 : decode b_Pr_isOver 19 = .ok (.iconst 0, 1) := by decide +kernel
theorem d_Pr_isOver_20 : decode b_Pr_isOver 20 = .ok (.ireturn, 1) := by decide +kernel
abbrev b_Pr_canOpen : ByteArray := prog_8_method_9_code
def y_Pr_canOpen : MethodName := ⟨R_Pr, "canOpen", "(J)Z"⟩
abbrev k_Pr_canOpen : Cond := .code y_Pr_canOpen b_Pr_canOpen 3 (some .boolean)
theorem ki_Pr_canOpen : k_Pr_canOpen ∈ lw_tg := in_t 987 (by decide +kernel)
theorem ks_Pr_canOpen : Cond.instanceMethod y_Pr_canOpen ∈ lw_tg := in_t 985 (by decide +kernel)
theorem kx_Pr_canOpen : Cond.selects R_Pr y_Pr_canOpen y_Pr_canOpen ∈ lw_tg := in_t 986 (by decide +kernel)
theorem kl_Ga_Pr_canOpen : Cond.methodLink R_Ga 90 y_Pr_canOpen ∈ lw_tg := in_t 984 (by decide +kernel)
theorem hd_Pr_canOpen : y_Pr_canOpen.cls = R_Pr ∧ y_Pr_canOpen.cls ≠ "java/lang/invoke/MethodHandle" ∧ y_Pr_canOpen.cls ≠ "java/lang/invoke/VarHandle" ∧ (parseMethodDescriptor y_Pr_canOpen.desc).map (fun d => d.parameters.length) = some 1 := by decide +kernel
theorem d_Pr_canOpen_0 : decode b_Pr_canOpen 0 = .ok (.lload_n 1, 1) := by decide +kernel
theorem d_Pr_canOpen_1 : decode b_Pr_canOpen 1 = .ok (.lconst 1, 1) := by decide +kernel
theorem d_Pr_canOpen_2 : decode b_Pr_canOpen 2 = .ok (.lcmp, 1) := by decide +kernel
theorem d_Pr_canOpen_3 : decode b_Pr_canOpen 3 = .ok (.ifCond .lt 29, 3) := by decide +kernel
theorem d_Pr_canOpen_6 : decode b_Pr_canOpen 6 = .ok (.lload_n 1, 1) := by decide +kernel
theorem d_Pr_canOpen_7 : decode b_Pr_canOpen 7 = .ok (.aload_n 0, 1) := by decide +kernel
theorem d_Pr_canOpen_8 : decode b_Pr_canOpen 8 = .ok (.getfield 83, 3) := by decide +kernel
theorem d_Pr_canOpen_11 : decode b_Pr_canOpen 11 = .ok (.i2l, 1) := by decide +kernel
theorem d_Pr_canOpen_12 : decode b_Pr_canOpen 12 = .ok (.lcmp, 1) := by decide +kernel
theorem d_Pr_canOpen_13 : decode b_Pr_canOpen 13 = .ok (.ifCond .eq 15, 3) := by decide +kernel
theorem d_Pr_canOpen_16 : decode b_Pr_canOpen 16 = .ok (.lload_n 1, 1) := by decide +kernel
theorem d_Pr_canOpen_17 : decode b_Pr_canOpen 17 = .ok (.aload_n 0, 1) := by decide +kernel
theorem d_Pr_canOpen_18 : decode b_Pr_canOpen 18 = .ok (.getfield 83, 3) := by decide +kernel
theorem d_Pr_canOpen_21 : decode b_Pr_canOpen 21 = .ok (.iconst 1, 1) := by decide +kernel
theorem d_Pr_canOpen_22 : decode b_Pr_canOpen 22 = .ok (.isub, 1) := by decide +kernel
theorem d_Pr_canOpen_23 : decode b_Pr_canOpen 23 = .ok (.i2l, 1) := by decide +kernel
theorem d_Pr_canOpen_24 : decode b_Pr_canOpen 24 = .ok (.lcmp, 1) := by decide +kernel
theorem d_Pr_canOpen_25 : decode b_Pr_canOpen 25 = .ok (.ifCond .ne 7, 3) := by decide +kernel
theorem d_Pr_canOpen_28 : decode b_Pr_canOpen 28 = .ok (.iconst 1, 1) := by decide +kernel
theorem d_Pr_canOpen_29 : decode b_Pr_canOpen 29 = .ok (.goto 4, 3) := by decide +kernel
theorem d_Pr_canOpen_32 : decode b_Pr_canOpen 32 = .ok (.iconst 0, 1) := by decide +kernel
theorem d_Pr_canOpen_33 : decode b_Pr_canOpen 33 = .ok (.ireturn, 1) := by decide +kernel
abbrev b_Pr_latestKey : ByteArray := prog_8_method_10_code
def y_Pr_latestKey : MethodName := ⟨R_Pr, "latestKey", "(J)[B"⟩
abbrev k_Pr_latestKey : Cond := .code y_Pr_latestKey b_Pr_latestKey 3 (some (.array .byte))
theorem ki_Pr_latestKey : k_Pr_latestKey ∈ lw_tg := in_t 997 (by decide +kernel)
theorem ks_Pr_latestKey : Cond.instanceMethod y_Pr_latestKey ∈ lw_tg := in_t 995 (by decide +kernel)
theorem kx_Pr_latestKey : Cond.selects R_Pr y_Pr_latestKey y_Pr_latestKey ∈ lw_tg := in_t 996 (by decide +kernel)
theorem kl_Pr_Pr_latestKey : Cond.methodLink R_Pr 98 y_Pr_latestKey ∈ lw_tg := in_t 994 (by decide +kernel)
theorem kl_Ce_Pr_latestKey : Cond.methodLink R_Ce 168 y_Pr_latestKey ∈ lw_tg := in_t 1140 (by decide +kernel)
theorem hd_Pr_latestKey : y_Pr_latestKey.cls = R_Pr ∧ y_Pr_latestKey.cls ≠ "java/lang/invoke/MethodHandle" ∧ y_Pr_latestKey.cls ≠ "java/lang/invoke/VarHandle" ∧ (parseMethodDescriptor y_Pr_latestKey.desc).map (fun d => d.parameters.length) = some 1 := by decide +kernel
theorem d_Pr_latestKey_0 : decode b_Pr_latestKey 0 = .ok (.lload_n 1, 1) := by decide +kernel
theorem d_Pr_latestKey_1 : decode b_Pr_latestKey 1 = .ok (.ldc2_w 96, 3) := by decide +kernel
theorem d_Pr_latestKey_4 : decode b_Pr_latestKey 4 = .ok (.lcmp, 1) := by decide +kernel
theorem d_Pr_latestKey_5 : decode b_Pr_latestKey 5 = .ok (.ifCond .ne 10, 3) := by decide +kernel
theorem d_Pr_latestKey_8 : decode b_Pr_latestKey 8 = .ok (.aload_n 0, 1) := by decide +kernel
theorem d_Pr_latestKey_9 : decode b_Pr_latestKey 9 = .ok (.getfield 31, 3) := by decide +kernel
theorem d_Pr_latestKey_12 : decode b_Pr_latestKey 12 = .ok (.goto 7, 3) := by decide +kernel
theorem d_Pr_latestKey_15 : decode b_Pr_latestKey 15 = .ok (.aload_n 0, 1) := by decide +kernel
theorem d_Pr_latestKey_16 : decode b_Pr_latestKey 16 = .ok (.getfield 34, 3) := by decide +kernel
theorem d_Pr_latestKey_19 : decode b_Pr_latestKey 19 = .ok (.areturn, 1) := by decide +kernel
abbrev b_Pr_keyOf : ByteArray := prog_8_method_11_code
def y_Pr_keyOf : MethodName := ⟨R_Pr, "keyOf", "(JJ)[B"⟩
abbrev k_Pr_keyOf : Cond := .code y_Pr_keyOf b_Pr_keyOf 5 (some (.array .byte))
theorem ki_Pr_keyOf : k_Pr_keyOf ∈ lw_tg := in_t 993 (by decide +kernel)
theorem ks_Pr_keyOf : Cond.instanceMethod y_Pr_keyOf ∈ lw_tg := in_t 991 (by decide +kernel)
theorem kx_Pr_keyOf : Cond.selects R_Pr y_Pr_keyOf y_Pr_keyOf ∈ lw_tg := in_t 992 (by decide +kernel)
theorem kl_Ga_Pr_keyOf : Cond.methodLink R_Ga 98 y_Pr_keyOf ∈ lw_tg := in_t 990 (by decide +kernel)
theorem hd_Pr_keyOf : y_Pr_keyOf.cls = R_Pr ∧ y_Pr_keyOf.cls ≠ "java/lang/invoke/MethodHandle" ∧ y_Pr_keyOf.cls ≠ "java/lang/invoke/VarHandle" ∧ (parseMethodDescriptor y_Pr_keyOf.desc).map (fun d => d.parameters.length) = some 2 := by decide +kernel
theorem d_Pr_keyOf_0 : decode b_Pr_keyOf 0 = .ok (.lload_n 1, 1) := by decide +kernel
theorem d_Pr_keyOf_1 : decode b_Pr_keyOf 1 = .ok (.aload_n 0, 1) := by decide +kernel
theorem d_Pr_keyOf_2 : decode b_Pr_keyOf 2 = .ok (.getfield 83, 3) := by decide +kernel
theorem d_Pr_keyOf_5 : decode b_Pr_keyOf 5 = .ok (.i2l, 1) := by decide +kernel
theorem d_Pr_keyOf_6 : decode b_Pr_keyOf 6 = .ok (.lcmp, 1) := by decide +kernel
theorem d_Pr_keyOf_7 : decode b_Pr_keyOf 7 = .ok (.ifCond .ne 9, 3) := by decide +kernel
theorem d_Pr_keyOf_10 : decode b_Pr_keyOf 10 = .ok (.aload_n 0, 1) := by decide +kernel
theorem d_Pr_keyOf_11 : decode b_Pr_keyOf 11 = .ok (.lload_n 3, 1) := by decide +kernel
theorem d_Pr_keyOf_12 : decode b_Pr_keyOf 12 = .ok (.invokevirtual 98, 3) := by decide +kernel
theorem d_Pr_keyOf_15 : decode b_Pr_keyOf 15 = .ok (.areturn, 1) := by decide +kernel
theorem d_Pr_keyOf_16 : decode b_Pr_keyOf 16 = .ok (.lload_n 3, 1) := by decide +kernel
theorem d_Pr_keyOf_17 : decode b_Pr_keyOf 17 = .ok (.ldc2_w 96, 3) := by decide +kernel
theorem d_Pr_keyOf_20 : decode b_Pr_keyOf 20 = .ok (.lcmp, 1) := by decide +kernel
theorem d_Pr_keyOf_21 : decode b_Pr_keyOf 21 = .ok (.ifCond .ne 10, 3) := by decide +kernel
theorem d_Pr_keyOf_24 : decode b_Pr_keyOf 24 = .ok (.aload_n 0, 1) := by decide +kernel
theorem d_Pr_keyOf_25 : decode b_Pr_keyOf 25 = .ok (.getfield 37, 3) := by decide +kernel
theorem d_Pr_keyOf_28 : decode b_Pr_keyOf 28 = .ok (.goto 7, 3) := by decide +kernel
theorem d_Pr_keyOf_31 : decode b_Pr_keyOf 31 = .ok (.aload_n 0, 1) := by decide +kernel
theorem d_Pr_keyOf_32 : decode b_Pr_keyOf 32 = .ok (.getfield 40, 3) := by decide +kernel
theorem d_Pr_keyOf_35 : decode b_Pr_keyOf 35 = .ok (.areturn, 1) := by decide +kernel
