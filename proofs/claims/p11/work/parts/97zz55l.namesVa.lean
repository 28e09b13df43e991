abbrev b_Va_init : ByteArray := prog_12_method_1_code
def y_Va_init : MethodName := ⟨R_Va, "<init>", "()V"⟩
abbrev k_Va_init : Cond := .code y_Va_init b_Va_init 1 none
theorem ki_Va_init : k_Va_init ∈ lw_tg := in_t 32 (by decide +kernel)
theorem ks_Va_init : Cond.instanceMethod y_Va_init ∈ lw_tg := in_t 31 (by decide +kernel)
theorem hd_Va_init : y_Va_init.cls = R_Va ∧ y_Va_init.cls ≠ "java/lang/invoke/MethodHandle" ∧ y_Va_init.cls ≠ "java/lang/invoke/VarHandle" ∧ (parseMethodDescriptor y_Va_init.desc).map (fun d => d.parameters.length) = some 0 := by decide +kernel
theorem d_Va_init_0 : decode b_Va_init 0 = .ok (.aload_n 0, 1) := by decide +kernel
theorem d_Va_init_1 : decode b_Va_init 1 = .ok (.invokespecial 3, 3) := by decide +kernel
theorem d_Va_init_4 : decode b_Va_init 4 = .ok (.aload_n 0, 1) := by decide +kernel
theorem d_Va_init_5 : decode b_Va_init 5 = .ok (.ldc 9, 2) := by decide +kernel
theorem d_Va_init_7 : decode b_Va_init 7 = .ok (.putfield 10, 3) := by decide +kernel
theorem d_Va_init_10 : decode b_Va_init 10 = .ok (.aload_n 0, 1) := by decide +kernel
theorem d_Va_init_11 : decode b_Va_init 11 = .ok (.new 16, 3) := by decide +kernel
theorem d_Va_init_14 : decode b_Va_init 14 = .ok (.dup, 1) := by decide +kernel
theorem d_Va_init_15 : decode b_Va_init 15 = .ok (.sipush 6144, 3) := by decide +kernel
theorem d_Va_init_18 : decode b_Va_init 18 = .ok (.invokespecial 18, 3) := by decide +kernel
theorem d_Va_init_21 : decode b_Va_init 21 = .ok (.putfield 21, 3) := by decide +kernel
theorem d_Va_init_24 : decode b_Va_init 24 = .ok (.aload_n 0, 1) := by decide +kernel
theorem d_Va_init_25 : decode b_Va_init 25 = .ok (.new 16, 3) := by decide +kernel
theorem d_Va_init_28 : decode b_Va_init 28 = .ok (.dup, 1) := by decide +kernel
theorem d_Va_init_29 : decode b_Va_init 29 = .ok (.sipush 512, 3) := by decide +kernel
theorem d_Va_init_32 : decode b_Va_init 32 = .ok (.invokespecial 18, 3) := by decide +kernel
theorem d_Va_init_35 : decode b_Va_init 35 = .ok (.putfield 25, 3) := by decide +kernel
theorem d_Va_init_38 : decode b_Va_init 38 = .ok (.aload_n 0, 1) := by decide +kernel
theorem d_Va_init_39 : decode b_Va_init 39 = .ok (.new 28, 3) := by decide +kernel
theorem d_Va_init_42 : decode b_Va_init 42 = .ok (.dup, 1) := by decide +kernel
theorem d_Va_init_43 : decode b_Va_init 43 = .ok (.invokespecial 30, 3) := by decide +kernel
theorem d_Va_init_46 : decode b_Va_init 46 = .ok (.putfield 31, 3) := by decide +kernel
theorem d_Va_init_49 : decode b_Va_init 49 = .ok (.aload_n 0, 1) := by decide +kernel
theorem d_Va_init_50 : decode b_Va_init 50 = .ok (.new 35, 3) := by decide +kernel
theorem d_Va_init_53 : decode b_Va_init 53 = .ok (.dup, 1) := by decide +kernel
theorem d_Va_init_54 : decode b_Va_init 54 = .ok (.invokespecial 37, 3) := by decide +kernel
theorem d_Va_init_57 : decode b_Va_init 57 = .ok (.putfield 38, 3) := by decide +kernel
theorem d_Va_init_60 : decode b_Va_init 60 = .ok (.aload_n 0, 1) := by decide +kernel
theorem d_Va_init_61 : decode b_Va_init 61 = .ok (.bipush 64, 2) := by decide +kernel
theorem d_Va_init_63 : decode b_Va_init 63 = .ok (.newarray .byte, 2) := by decide +kernel
theorem d_Va_init_65 : decode b_Va_init 65 = .ok (.putfield 42, 3) := by decide +kernel
theorem d_Va_init_68 : decode b_Va_init 68 = .ok (.aload_n 0, 1) := by decide +kernel
theorem d_Va_init_69 : decode b_Va_init 69 = .ok (.bipush 20, 2) := by decide +kernel
theorem d_Va_init_71 : decode b_Va_init 71 = .ok (.newarray .byte, 2) := by decide +kernel
theorem d_Va_init_73 : decode b_Va_init 73 = .ok (.putfield 46, 3) := by decide +kernel
theorem d_Va_init_76 : decode b_Va_init 76 = .ok (.aload_n 0, 1) := by decide +kernel
theorem d_Va_init_77 : decode b_Va_init 77 = .ok (.bipush 20, 2) := by decide +kernel
theorem d_Va_init_79 : decode b_Va_init 79 = .ok (.putfield 49, 3) := by decide +kernel
theorem d_Va_init_82 : decode b_Va_init 82 = .ok (.aload_n 0, 1) := by decide +kernel
theorem d_Va_init_83 : decode b_Va_init 83 = .ok (.bipush 32, 2) := by decide +kernel
theorem d_Va_init_85 : decode b_Va_init 85 = .ok (.newarray .byte, 2) := by decide +kernel
theorem d_Va_init_87 : decode b_Va_init 87 = .ok (.putfield 52, 3) := by decide +kernel
theorem d_Va_init_90 : decode b_Va_init 90 = .ok (.aload_n 0, 1) := by decide +kernel
theorem d_Va_init_91 : decode b_Va_init 91 = .ok (.bipush 20, 2) := by decide +kernel
theorem d_Va_init_93 : decode b_Va_init 93 = .ok (.newarray .byte, 2) := by decide +kernel
theorem d_Va_init_95 : decode b_Va_init 95 = .ok (.putfield 55, 3) := by decide +kernel
theorem d_Va_init_98 : decode b_Va_init 98 = .ok (.aload_n 0, 1) := by decide +kernel
theorem d_Va_init_99 : decode b_Va_init 99 = .ok (.new 16, 3) := by decide +kernel
theorem d_Va_init_102 : decode b_Va_init 102 = .ok (.dup, 1) := by decide +kernel
theorem d_Va_init_103 : decode b_Va_init 103 = .ok (.bipush 64, 2) := by decide +kernel
theorem d_Va_init_105 : decode b_Va_init 105 = .ok (.invokespecial 18, 3) := by decide +kernel
theorem d_Va_init_108 : decode b_Va_init 108 = .ok (.putfield 58, 3) := by decide +kernel
theorem d_Va_init_111 : decode b_Va_init 111 = .ok (.return_, 1) := by decide +kernel
abbrev b_Va_typeOf : ByteArray := prog_12_method_2_code
def y_Va_typeOf : MethodName := ⟨R_Va, "typeOf", "([B)I"⟩
abbrev k_Va_typeOf : Cond := .code y_Va_typeOf b_Va_typeOf 1 (some .int)
theorem ki_Va_typeOf : k_Va_typeOf ∈ lw_tg := in_t 1007 (by decide +kernel)
theorem ks_Va_typeOf : Cond.static y_Va_typeOf ∈ lw_tg := in_t 1006 (by decide +kernel)
theorem kl_Va_Va_typeOf : Cond.methodLink R_Va 169 y_Va_typeOf ∈ lw_tg := in_t 1005 (by decide +kernel)
theorem kl_By_Va_typeOf : Cond.methodLink R_By 88 y_Va_typeOf ∈ lw_tg := in_t 1291 (by decide +kernel)
theorem kl_Ag_Va_typeOf : Cond.methodLink R_Ag 129 y_Va_typeOf ∈ lw_tg := in_t 1417 (by decide +kernel)
theorem kl_Ti_Va_typeOf : Cond.methodLink R_Ti 46 y_Va_typeOf ∈ lw_tg := in_t 1542 (by decide +kernel)
theorem hd_Va_typeOf : y_Va_typeOf.cls = R_Va ∧ y_Va_typeOf.cls ≠ "java/lang/invoke/MethodHandle" ∧ y_Va_typeOf.cls ≠ "java/lang/invoke/VarHandle" ∧ (parseMethodDescriptor y_Va_typeOf.desc).map (fun d => d.parameters.length) = some 1 := by decide +kernel
theorem d_Va_typeOf_0 : decode b_Va_typeOf 0 = .ok (.aload_n 0, 1) := by decide +kernel
theorem d_Va_typeOf_1 : decode b_Va_typeOf 1 = .ok (.arraylength, 1) := by decide +kernel
theorem d_Va_typeOf_2 : decode b_Va_typeOf 2 = .ok (.bipush 32, 2) := by decide +kernel
theorem d_Va_typeOf_4 : decode b_Va_typeOf 4 = .ok (.if_icmp .ne 8, 3) := by decide +kernel
theorem d_Va_typeOf_7 : decode b_Va_typeOf 7 = .ok (.bipush 18, 2) := by decide +kernel
theorem d_Va_typeOf_9 : decode b_Va_typeOf 9 = .ok (.goto 5, 3) := by decide +kernel
theorem d_Va_typeOf_12 : decode b_Va_typeOf 12 = .ok (.bipush 17, 2) := by decide +kernel
theorem d_Va_typeOf_14 : decode b_Va_typeOf 14 = .ok (.ireturn, 1) := by decide +kernel
abbrev b_Va_keyAt : ByteArray := prog_12_method_3_code
def y_Va_keyAt : MethodName := ⟨R_Va, "keyAt", "(LRealmHouse$Bytes;I)[B"⟩
abbrev k_Va_keyAt : Cond := .code y_Va_keyAt b_Va_keyAt 8 (some (.array .byte))
theorem ki_Va_keyAt : k_Va_keyAt ∈ lw_tg := in_t 1053 (by decide +kernel)
theorem ks_Va_keyAt : Cond.static y_Va_keyAt ∈ lw_tg := in_t 1052 (by decide +kernel)
theorem kl_Ga_Va_keyAt : Cond.methodLink R_Ga 114 y_Va_keyAt ∈ lw_tg := in_t 1051 (by decide +kernel)
theorem kl_Ce_Va_keyAt : Cond.methodLink R_Ce 338 y_Va_keyAt ∈ lw_tg := in_t 1342 (by decide +kernel)
theorem kl_Ag_Va_keyAt : Cond.methodLink R_Ag 278 y_Va_keyAt ∈ lw_tg := in_t 1503 (by decide +kernel)
theorem kl_So_Va_keyAt : Cond.methodLink R_So 51 y_Va_keyAt ∈ lw_tg := in_t 1584 (by decide +kernel)
theorem hd_Va_keyAt : y_Va_keyAt.cls = R_Va ∧ y_Va_keyAt.cls ≠ "java/lang/invoke/MethodHandle" ∧ y_Va_keyAt.cls ≠ "java/lang/invoke/VarHandle" ∧ (parseMethodDescriptor y_Va_keyAt.desc).map (fun d => d.parameters.length) = some 2 := by decide +kernel
theorem d_Va_keyAt_0 : decode b_Va_keyAt 0 = .ok (.aload_n 0, 1) := by decide +kernel
theorem d_Va_keyAt_1 : decode b_Va_keyAt 1 = .ok (.iload_n 1, 1) := by decide +kernel
theorem d_Va_keyAt_2 : decode b_Va_keyAt 2 = .ok (.iconst 1, 1) := by decide +kernel
theorem d_Va_keyAt_3 : decode b_Va_keyAt 3 = .ok (.invokevirtual 61, 3) := by decide +kernel
theorem d_Va_keyAt_6 : decode b_Va_keyAt 6 = .ok (.istore_n 2, 1) := by decide +kernel
theorem d_Va_keyAt_7 : decode b_Va_keyAt 7 = .ok (.aload_n 0, 1) := by decide +kernel
theorem d_Va_keyAt_8 : decode b_Va_keyAt 8 = .ok (.aload_n 0, 1) := by decide +kernel
theorem d_Va_keyAt_9 : decode b_Va_keyAt 9 = .ok (.iload_n 1, 1) := by decide +kernel
theorem d_Va_keyAt_10 : decode b_Va_keyAt 10 = .ok (.iconst 0, 1) := by decide +kernel
theorem d_Va_keyAt_11 : decode b_Va_keyAt 11 = .ok (.invokevirtual 61, 3) := by decide +kernel
theorem d_Va_keyAt_14 : decode b_Va_keyAt 14 = .ok (.invokevirtual 65, 3) := by decide +kernel
theorem d_Va_keyAt_17 : decode b_Va_keyAt 17 = .ok (.lstore_n 3, 1) := by decide +kernel
theorem d_Va_keyAt_18 : decode b_Va_keyAt 18 = .ok (.lload_n 3, 1) := by decide +kernel
theorem d_Va_keyAt_19 : decode b_Va_keyAt 19 = .ok (.ldc2_w 69, 3) := by decide +kernel
theorem d_Va_keyAt_22 : decode b_Va_keyAt 22 = .ok (.lcmp, 1) := by decide +kernel
theorem d_Va_keyAt_23 : decode b_Va_keyAt 23 = .ok (.ifCond .ne 8, 3) := by decide +kernel
theorem d_Va_keyAt_26 : decode b_Va_keyAt 26 = .ok (.bipush 32, 2) := by decide +kernel
theorem d_Va_keyAt_28 : decode b_Va_keyAt 28 = .ok (.goto 5, 3) := by decide +kernel
theorem d_Va_keyAt_31 : decode b_Va_keyAt 31 = .ok (.bipush 16, 2) := by decide +kernel
theorem d_Va_keyAt_33 : decode b_Va_keyAt 33 = .ok (.istore 5, 2) := by decide +kernel
theorem d_Va_keyAt_35 : decode b_Va_keyAt 35 = .ok (.aload_n 0, 1) := by decide +kernel
theorem d_Va_keyAt_36 : decode b_Va_keyAt 36 = .ok (.iload_n 2, 1) := by decide +kernel
theorem d_Va_keyAt_37 : decode b_Va_keyAt 37 = .ok (.invokevirtual 71, 3) := by decide +kernel
theorem d_Va_keyAt_40 : decode b_Va_keyAt 40 = .ok (.istore 6, 2) := by decide +kernel
theorem d_Va_keyAt_42 : decode b_Va_keyAt 42 = .ok (.iload_n 2, 1) := by decide +kernel
theorem d_Va_keyAt_43 : decode b_Va_keyAt 43 = .ok (.ifCond .lt 36, 3) := by decide +kernel
theorem d_Va_keyAt_46 : decode b_Va_keyAt 46 = .ok (.lload_n 3, 1) := by decide +kernel
theorem d_Va_keyAt_47 : decode b_Va_keyAt 47 = .ok (.ldc2_w 75, 3) := by decide +kernel
theorem d_Va_keyAt_50 : decode b_Va_keyAt 50 = .ok (.lcmp, 1) := by decide +kernel
theorem d_Va_keyAt_51 : decode b_Va_keyAt 51 = .ok (.ifCond .eq 11, 3) := by decide +kernel
theorem d_Va_keyAt_54 : decode b_Va_keyAt 54 = .ok (.lload_n 3, 1) := by decide +kernel
theorem d_Va_keyAt_55 : decode b_Va_keyAt 55 = .ok (.ldc2_w 69, 3) := by decide +kernel
theorem d_Va_keyAt_58 : decode b_Va_keyAt 58 = .ok (.lcmp, 1) := by decide +kernel
theorem d_Va_keyAt_59 : decode b_Va_keyAt 59 = .ok (.ifCond .ne 20, 3) := by decide +kernel
theorem d_Va_keyAt_62 : decode b_Va_keyAt 62 = .ok (.aload_n 0, 1) := by decide +kernel
theorem d_Va_keyAt_63 : decode b_Va_keyAt 63 = .ok (.iload_n 2, 1) := by decide +kernel
theorem d_Va_keyAt_64 : decode b_Va_keyAt 64 = .ok (.aload_n 0, 1) := by decide +kernel
theorem d_Va_keyAt_65 : decode b_Va_keyAt 65 = .ok (.getfield 77, 3) := by decide +kernel
theorem d_Va_keyAt_68 : decode b_Va_keyAt 68 = .ok (.invokevirtual 80, 3) := by decide +kernel
theorem d_Va_keyAt_71 : decode b_Va_keyAt 71 = .ok (.iload 6, 2) := by decide +kernel
theorem d_Va_keyAt_73 : decode b_Va_keyAt 73 = .ok (.isub, 1) := by decide +kernel
theorem d_Va_keyAt_74 : decode b_Va_keyAt 74 = .ok (.iload 5, 2) := by decide +kernel
theorem d_Va_keyAt_76 : decode b_Va_keyAt 76 = .ok (.if_icmp .eq 7, 3) := by decide +kernel
theorem d_Va_keyAt_79 : decode b_Va_keyAt 79 = .ok (.getstatic 83, 3) := by decide +kernel
theorem d_Va_keyAt_82 : decode b_Va_keyAt 82 = .ok (.areturn, 1) := by decide +kernel
theorem d_Va_keyAt_83 : decode b_Va_keyAt 83 = .ok (.iload 5, 2) := by decide +kernel
theorem d_Va_keyAt_85 : decode b_Va_keyAt 85 = .ok (.newarray .byte, 2) := by decide +kernel
theorem d_Va_keyAt_87 : decode b_Va_keyAt 87 = .ok (.astore 7, 2) := by decide +kernel
theorem d_Va_keyAt_89 : decode b_Va_keyAt 89 = .ok (.aload_n 0, 1) := by decide +kernel
theorem d_Va_keyAt_90 : decode b_Va_keyAt 90 = .ok (.getfield 86, 3) := by decide +kernel
theorem d_Va_keyAt_93 : decode b_Va_keyAt 93 = .ok (.iload 6, 2) := by decide +kernel
theorem d_Va_keyAt_95 : decode b_Va_keyAt 95 = .ok (.aload 7, 2) := by decide +kernel
theorem d_Va_keyAt_97 : decode b_Va_keyAt 97 = .ok (.iconst 0, 1) := by decide +kernel
theorem d_Va_keyAt_98 : decode b_Va_keyAt 98 = .ok (.iload 5, 2) := by decide +kernel
theorem d_Va_keyAt_100 : decode b_Va_keyAt 100 = .ok (.invokestatic 89, 3) := by decide +kernel
theorem d_Va_keyAt_103 : decode b_Va_keyAt 103 = .ok (.aload 7, 2) := by decide +kernel
theorem d_Va_keyAt_105 : decode b_Va_keyAt 105 = .ok (.areturn, 1) := by decide +kernel
abbrev b_Va_sow : ByteArray := prog_12_method_4_code
def y_Va_sow : MethodName := ⟨R_Va, "sow", "(LRealmHouse$Bytes;)V"⟩
abbrev k_Va_sow : Cond := .code y_Va_sow b_Va_sow 2 none
theorem ki_Va_sow : k_Va_sow ∈ lw_tg := in_t 774 (by decide +kernel)
theorem ks_Va_sow : Cond.instanceMethod y_Va_sow ∈ lw_tg := in_t 772 (by decide +kernel)
theorem kx_Va_sow : Cond.selects R_Va y_Va_sow y_Va_sow ∈ lw_tg := in_t 773 (by decide +kernel)
theorem kl_H_Va_sow : Cond.methodLink R_H 113 y_Va_sow ∈ lw_tg := in_t 771 (by decide +kernel)
theorem hd_Va_sow : y_Va_sow.cls = R_Va ∧ y_Va_sow.cls ≠ "java/lang/invoke/MethodHandle" ∧ y_Va_sow.cls ≠ "java/lang/invoke/VarHandle" ∧ (parseMethodDescriptor y_Va_sow.desc).map (fun d => d.parameters.length) = some 1 := by decide +kernel
theorem d_Va_sow_0 : decode b_Va_sow 0 = .ok (.aload_n 0, 1) := by decide +kernel
theorem d_Va_sow_1 : decode b_Va_sow 1 = .ok (.bipush 64, 2) := by decide +kernel
theorem d_Va_sow_3 : decode b_Va_sow 3 = .ok (.aload_n 1, 1) := by decide +kernel
theorem d_Va_sow_4 : decode b_Va_sow 4 = .ok (.getfield 77, 3) := by decide +kernel
theorem d_Va_sow_7 : decode b_Va_sow 7 = .ok (.invokestatic 95, 3) := by decide +kernel
theorem d_Va_sow_10 : decode b_Va_sow 10 = .ok (.putfield 100, 3) := by decide +kernel
theorem d_Va_sow_13 : decode b_Va_sow 13 = .ok (.aload_n 1, 1) := by decide +kernel
theorem d_Va_sow_14 : decode b_Va_sow 14 = .ok (.getfield 86, 3) := by decide +kernel
theorem d_Va_sow_17 : decode b_Va_sow 17 = .ok (.iconst 0, 1) := by decide +kernel
theorem d_Va_sow_18 : decode b_Va_sow 18 = .ok (.aload_n 0, 1) := by decide +kernel
theorem d_Va_sow_19 : decode b_Va_sow 19 = .ok (.getfield 42, 3) := by decide +kernel
theorem d_Va_sow_22 : decode b_Va_sow 22 = .ok (.iconst 0, 1) := by decide +kernel
theorem d_Va_sow_23 : decode b_Va_sow 23 = .ok (.aload_n 0, 1) := by decide +kernel
theorem d_Va_sow_24 : decode b_Va_sow 24 = .ok (.getfield 100, 3) := by decide +kernel
theorem d_Va_sow_27 : decode b_Va_sow 27 = .ok (.invokestatic 89, 3) := by decide +kernel
theorem d_Va_sow_30 : decode b_Va_sow 30 = .ok (.aload_n 0, 1) := by decide +kernel
theorem d_Va_sow_31 : decode b_Va_sow 31 = .ok (.bipush 20, 2) := by decide +kernel
theorem d_Va_sow_33 : decode b_Va_sow 33 = .ok (.putfield 49, 3) := by decide +kernel
theorem d_Va_sow_36 : decode b_Va_sow 36 = .ok (.aload_n 0, 1) := by decide +kernel
theorem d_Va_sow_37 : decode b_Va_sow 37 = .ok (.iconst 0, 1) := by decide +kernel
theorem d_Va_sow_38 : decode b_Va_sow 38 = .ok (.putfield 103, 3) := by decide +kernel
theorem d_Va_sow_41 : decode b_Va_sow 41 = .ok (.return_, 1) := by decide +kernel
abbrev b_Va_coin : ByteArray := prog_12_method_5_code
def y_Va_coin : MethodName := ⟨R_Va, "coin", "()I"⟩
abbrev k_Va_coin : Cond := .code y_Va_coin b_Va_coin 2 (some .int)
theorem ki_Va_coin : k_Va_coin ∈ lw_tg := in_t 1232 (by decide +kernel)
theorem ks_Va_coin : Cond.instanceMethod y_Va_coin ∈ lw_tg := in_t 1230 (by decide +kernel)
theorem kx_Va_coin : Cond.selects R_Va y_Va_coin y_Va_coin ∈ lw_tg := in_t 1231 (by decide +kernel)
theorem kl_Va_Va_coin : Cond.methodLink R_Va 128 y_Va_coin ∈ lw_tg := in_t 1229 (by decide +kernel)
theorem hd_Va_coin : y_Va_coin.cls = R_Va ∧ y_Va_coin.cls ≠ "java/lang/invoke/MethodHandle" ∧ y_Va_coin.cls ≠ "java/lang/invoke/VarHandle" ∧ (parseMethodDescriptor y_Va_coin.desc).map (fun d => d.parameters.length) = some 0 := by decide +kernel
theorem d_Va_coin_0 : decode b_Va_coin 0 = .ok (.aload_n 0, 1) := by decide +kernel
theorem d_Va_coin_1 : decode b_Va_coin 1 = .ok (.getfield 49, 3) := by decide +kernel
theorem d_Va_coin_4 : decode b_Va_coin 4 = .ok (.bipush 20, 2) := by decide +kernel
theorem d_Va_coin_6 : decode b_Va_coin 6 = .ok (.if_icmp .lt 100, 3) := by decide +kernel
theorem d_Va_coin_9 : decode b_Va_coin 9 = .ok (.aload_n 0, 1) := by decide +kernel
theorem d_Va_coin_10 : decode b_Va_coin 10 = .ok (.getfield 58, 3) := by decide +kernel
theorem d_Va_coin_13 : decode b_Va_coin 13 = .ok (.invokevirtual 106, 3) := by decide +kernel
theorem d_Va_coin_16 : decode b_Va_coin 16 = .ok (.aload_n 0, 1) := by decide +kernel
theorem d_Va_coin_17 : decode b_Va_coin 17 = .ok (.getfield 58, 3) := by decide +kernel
theorem d_Va_coin_20 : decode b_Va_coin 20 = .ok (.aload_n 0, 1) := by decide +kernel
theorem d_Va_coin_21 : decode b_Va_coin 21 = .ok (.getfield 103, 3) := by decide +kernel
theorem d_Va_coin_24 : decode b_Va_coin 24 = .ok (.invokevirtual 109, 3) := by decide +kernel
theorem d_Va_coin_27 : decode b_Va_coin 27 = .ok (.aload_n 0, 1) := by decide +kernel
theorem d_Va_coin_28 : decode b_Va_coin 28 = .ok (.getfield 31, 3) := by decide +kernel
theorem d_Va_coin_31 : decode b_Va_coin 31 = .ok (.aload_n 0, 1) := by decide +kernel
theorem d_Va_coin_32 : decode b_Va_coin 32 = .ok (.getfield 42, 3) := by decide +kernel
theorem d_Va_coin_35 : decode b_Va_coin 35 = .ok (.iconst 0, 1) := by decide +kernel
theorem d_Va_coin_36 : decode b_Va_coin 36 = .ok (.aload_n 0, 1) := by decide +kernel
theorem d_Va_coin_37 : decode b_Va_coin 37 = .ok (.getfield 100, 3) := by decide +kernel
theorem d_Va_coin_40 : decode b_Va_coin 40 = .ok (.invokevirtual 112, 3) := by decide +kernel
theorem d_Va_coin_43 : decode b_Va_coin 43 = .ok (.aload_n 0, 1) := by decide +kernel
theorem d_Va_coin_44 : decode b_Va_coin 44 = .ok (.getfield 31, 3) := by decide +kernel
theorem d_Va_coin_47 : decode b_Va_coin 47 = .ok (.invokevirtual 116, 3) := by decide +kernel
theorem d_Va_coin_50 : decode b_Va_coin 50 = .ok (.aload_n 0, 1) := by decide +kernel
theorem d_Va_coin_51 : decode b_Va_coin 51 = .ok (.getfield 31, 3) := by decide +kernel
theorem d_Va_coin_54 : decode b_Va_coin 54 = .ok (.aload_n 0, 1) := by decide +kernel
theorem d_Va_coin_55 : decode b_Va_coin 55 = .ok (.getfield 58, 3) := by decide +kernel
theorem d_Va_coin_58 : decode b_Va_coin 58 = .ok (.getfield 86, 3) := by decide +kernel
theorem d_Va_coin_61 : decode b_Va_coin 61 = .ok (.iconst 0, 1) := by decide +kernel
theorem d_Va_coin_62 : decode b_Va_coin 62 = .ok (.iconst 4, 1) := by decide +kernel
theorem d_Va_coin_63 : decode b_Va_coin 63 = .ok (.invokevirtual 119, 3) := by decide +kernel
theorem d_Va_coin_66 : decode b_Va_coin 66 = .ok (.aload_n 0, 1) := by decide +kernel
theorem d_Va_coin_67 : decode b_Va_coin 67 = .ok (.getfield 31, 3) := by decide +kernel
theorem d_Va_coin_70 : decode b_Va_coin 70 = .ok (.invokevirtual 122, 3) := by decide +kernel
theorem d_Va_coin_73 : decode b_Va_coin 73 = .ok (.aload_n 0, 1) := by decide +kernel
theorem d_Va_coin_74 : decode b_Va_coin 74 = .ok (.getfield 31, 3) := by decide +kernel
theorem d_Va_coin_77 : decode b_Va_coin 77 = .ok (.getfield 125, 3) := by decide +kernel
theorem d_Va_coin_80 : decode b_Va_coin 80 = .ok (.iconst 0, 1) := by decide +kernel
theorem d_Va_coin_81 : decode b_Va_coin 81 = .ok (.aload_n 0, 1) := by decide +kernel
theorem d_Va_coin_82 : decode b_Va_coin 82 = .ok (.getfield 46, 3) := by decide +kernel
theorem d_Va_coin_85 : decode b_Va_coin 85 = .ok (.iconst 0, 1) := by decide +kernel
theorem d_Va_coin_86 : decode b_Va_coin 86 = .ok (.bipush 20, 2) := by decide +kernel
theorem d_Va_coin_88 : decode b_Va_coin 88 = .ok (.invokestatic 89, 3) := by decide +kernel
theorem d_Va_coin_91 : decode b_Va_coin 91 = .ok (.aload_n 0, 1) := by decide +kernel
theorem d_Va_coin_92 : decode b_Va_coin 92 = .ok (.iconst 0, 1) := by decide +kernel
theorem d_Va_coin_93 : decode b_Va_coin 93 = .ok (.putfield 49, 3) := by decide +kernel
theorem d_Va_coin_96 : decode b_Va_coin 96 = .ok (.aload_n 0, 1) := by decide +kernel
theorem d_Va_coin_97 : decode b_Va_coin 97 = .ok (.dup, 1) := by decide +kernel
theorem d_Va_coin_98 : decode b_Va_coin 98 = .ok (.getfield 103, 3) := by decide +kernel
theorem d_Va_coin_101 : decode b_Va_coin 101 = .ok (.iconst 1, 1) := by decide +kernel
theorem d_Va_coin_102 : decode b_Va_coin 102 = .ok (.iadd, 1) := by decide +kernel
theorem d_Va_coin_103 : decode b_Va_coin 103 = .ok (.putfield 103, 3) := by decide +kernel
theorem d_Va_coin_106 : decode b_Va_coin 106 = .ok (.aload_n 0, 1) := by decide +kernel
theorem d_Va_coin_107 : decode b_Va_coin 107 = .ok (.getfield 46, 3) := by decide +kernel
theorem d_Va_coin_110 : decode b_Va_coin 110 = .ok (.aload_n 0, 1) := by decide +kernel
theorem d_Va_coin_111 : decode b_Va_coin 111 = .ok (.getfield 49, 3) := by decide +kernel
theorem d_Va_coin_114 : decode b_Va_coin 114 = .ok (.baload, 1) := by decide +kernel
theorem d_Va_coin_115 : decode b_Va_coin 115 = .ok (.sipush 255, 3) := by decide +kernel
theorem d_Va_coin_118 : decode b_Va_coin 118 = .ok (.iand, 1) := by decide +kernel
theorem d_Va_coin_119 : decode b_Va_coin 119 = .ok (.istore_n 1, 1) := by decide +kernel
theorem d_Va_coin_120 : decode b_Va_coin 120 = .ok (.aload_n 0, 1) := by decide +kernel
theorem d_Va_coin_121 : decode b_Va_coin 121 = .ok (.dup, 1) := by decide +kernel
theorem d_Va_coin_122 : decode b_Va_coin 122 = .ok (.getfield 49, 3) := by decide +kernel
theorem d_Va_coin_125 : decode b_Va_coin 125 = .ok (.iconst 1, 1) := by decide +kernel
theorem d_Va_coin_126 : decode b_Va_coin 126 = .ok (.iadd, 1) := by decide +kernel
theorem d_Va_coin_127 : decode b_Va_coin 127 = .ok (.putfield 49, 3) := by decide +kernel
theorem d_Va_coin_130 : decode b_Va_coin 130 = .ok (.iload_n 1, 1) := by decide +kernel
theorem d_Va_coin_131 : decode b_Va_coin 131 = .ok (.ireturn, 1) := by decide +kernel
abbrev b_Va_freshNumber : ByteArray := prog_12_method_6_code
def y_Va_freshNumber : MethodName := ⟨R_Va, "freshNumber", "()I"⟩
abbrev k_Va_freshNumber : Cond := .code y_Va_freshNumber b_Va_freshNumber 3 (some .int)
theorem ki_Va_freshNumber : k_Va_freshNumber ∈ lw_tg := in_t 1415 (by decide +kernel)
theorem ks_Va_freshNumber : Cond.instanceMethod y_Va_freshNumber ∈ lw_tg := in_t 1413 (by decide +kernel)
theorem kx_Va_freshNumber : Cond.selects R_Va y_Va_freshNumber y_Va_freshNumber ∈ lw_tg := in_t 1414 (by decide +kernel)
theorem kl_Ag_Va_freshNumber : Cond.methodLink R_Ag 118 y_Va_freshNumber ∈ lw_tg := in_t 1412 (by decide +kernel)
theorem kl_So_Va_freshNumber : Cond.methodLink R_So 82 y_Va_freshNumber ∈ lw_tg := in_t 1588 (by decide +kernel)
theorem hd_Va_freshNumber : y_Va_freshNumber.cls = R_Va ∧ y_Va_freshNumber.cls ≠ "java/lang/invoke/MethodHandle" ∧ y_Va_freshNumber.cls ≠ "java/lang/invoke/VarHandle" ∧ (parseMethodDescriptor y_Va_freshNumber.desc).map (fun d => d.parameters.length) = some 0 := by decide +kernel
theorem d_Va_freshNumber_0 : decode b_Va_freshNumber 0 = .ok (.iconst 0, 1) := by decide +kernel
theorem d_Va_freshNumber_1 : decode b_Va_freshNumber 1 = .ok (.istore_n 1, 1) := by decide +kernel
theorem d_Va_freshNumber_2 : decode b_Va_freshNumber 2 = .ok (.iconst 0, 1) := by decide +kernel
theorem d_Va_freshNumber_3 : decode b_Va_freshNumber 3 = .ok (.istore_n 2, 1) := by decide +kernel
theorem d_Va_freshNumber_4 : decode b_Va_freshNumber 4 = .ok (.iload_n 2, 1) := by decide +kernel
theorem d_Va_freshNumber_5 : decode b_Va_freshNumber 5 = .ok (.iconst 4, 1) := by decide +kernel
theorem d_Va_freshNumber_6 : decode b_Va_freshNumber 6 = .ok (.if_icmp .ge 19, 3) := by decide +kernel
theorem d_Va_freshNumber_9 : decode b_Va_freshNumber 9 = .ok (.iload_n 1, 1) := by decide +kernel
theorem d_Va_freshNumber_10 : decode b_Va_freshNumber 10 = .ok (.bipush 8, 2) := by decide +kernel
theorem d_Va_freshNumber_12 : decode b_Va_freshNumber 12 = .ok (.ishl, 1) := by decide +kernel
theorem d_Va_freshNumber_13 : decode b_Va_freshNumber 13 = .ok (.aload_n 0, 1) := by decide +kernel
theorem d_Va_freshNumber_14 : decode b_Va_freshNumber 14 = .ok (.invokevirtual 128, 3) := by decide +kernel
theorem d_Va_freshNumber_17 : decode b_Va_freshNumber 17 = .ok (.ior, 1) := by decide +kernel
theorem d_Va_freshNumber_18 : decode b_Va_freshNumber 18 = .ok (.istore_n 1, 1) := by decide +kernel
theorem d_Va_freshNumber_19 : decode b_Va_freshNumber 19 = .ok (.iinc 2 1, 3) := by decide +kernel
theorem d_Va_freshNumber_22 : decode b_Va_freshNumber 22 = .ok (.goto (-18), 3) := by decide +kernel
theorem d_Va_freshNumber_25 : decode b_Va_freshNumber 25 = .ok (.iload_n 1, 1) := by decide +kernel
theorem d_Va_freshNumber_26 : decode b_Va_freshNumber 26 = .ok (.ireturn, 1) := by decide +kernel
abbrev b_Va_freshKey : ByteArray := prog_12_method_7_code
def y_Va_freshKey : MethodName := ⟨R_Va, "freshKey", "(I)[B"⟩
abbrev k_Va_freshKey : Cond := .code y_Va_freshKey b_Va_freshKey 4 (some (.array .byte))
theorem ki_Va_freshKey : k_Va_freshKey ∈ lw_tg := in_t 1228 (by decide +kernel)
theorem ks_Va_freshKey : Cond.instanceMethod y_Va_freshKey ∈ lw_tg := in_t 1226 (by decide +kernel)
theorem kx_Va_freshKey : Cond.selects R_Va y_Va_freshKey y_Va_freshKey ∈ lw_tg := in_t 1227 (by decide +kernel)
theorem kl_Ce_Va_freshKey : Cond.methodLink R_Ce 261 y_Va_freshKey ∈ lw_tg := in_t 1225 (by decide +kernel)
theorem kl_Ag_Va_freshKey : Cond.methodLink R_Ag 133 y_Va_freshKey ∈ lw_tg := in_t 1418 (by decide +kernel)
theorem hd_Va_freshKey : y_Va_freshKey.cls = R_Va ∧ y_Va_freshKey.cls ≠ "java/lang/invoke/MethodHandle" ∧ y_Va_freshKey.cls ≠ "java/lang/invoke/VarHandle" ∧ (parseMethodDescriptor y_Va_freshKey.desc).map (fun d => d.parameters.length) = some 1 := by decide +kernel
theorem d_Va_freshKey_0 : decode b_Va_freshKey 0 = .ok (.iload_n 1, 1) := by decide +kernel
theorem d_Va_freshKey_1 : decode b_Va_freshKey 1 = .ok (.bipush 18, 2) := by decide +kernel
theorem d_Va_freshKey_3 : decode b_Va_freshKey 3 = .ok (.if_icmp .ne 8, 3) := by decide +kernel
theorem d_Va_freshKey_6 : decode b_Va_freshKey 6 = .ok (.bipush 32, 2) := by decide +kernel
theorem d_Va_freshKey_8 : decode b_Va_freshKey 8 = .ok (.goto 5, 3) := by decide +kernel
theorem d_Va_freshKey_11 : decode b_Va_freshKey 11 = .ok (.bipush 16, 2) := by decide +kernel
theorem d_Va_freshKey_13 : decode b_Va_freshKey 13 = .ok (.newarray .byte, 2) := by decide +kernel
theorem d_Va_freshKey_15 : decode b_Va_freshKey 15 = .ok (.astore_n 2, 1) := by decide +kernel
theorem d_Va_freshKey_16 : decode b_Va_freshKey 16 = .ok (.iconst 0, 1) := by decide +kernel
theorem d_Va_freshKey_17 : decode b_Va_freshKey 17 = .ok (.istore_n 3, 1) := by decide +kernel
theorem d_Va_freshKey_18 : decode b_Va_freshKey 18 = .ok (.iload_n 3, 1) := by decide +kernel
theorem d_Va_freshKey_19 : decode b_Va_freshKey 19 = .ok (.aload_n 2, 1) := by decide +kernel
theorem d_Va_freshKey_20 : decode b_Va_freshKey 20 = .ok (.arraylength, 1) := by decide +kernel
theorem d_Va_freshKey_21 : decode b_Va_freshKey 21 = .ok (.if_icmp .ge 17, 3) := by decide +kernel
theorem d_Va_freshKey_24 : decode b_Va_freshKey 24 = .ok (.aload_n 2, 1) := by decide +kernel
theorem d_Va_freshKey_25 : decode b_Va_freshKey 25 = .ok (.iload_n 3, 1) := by decide +kernel
theorem d_Va_freshKey_26 : decode b_Va_freshKey 26 = .ok (.aload_n 0, 1) := by decide +kernel
theorem d_Va_freshKey_27 : decode b_Va_freshKey 27 = .ok (.invokevirtual 128, 3) := by decide +kernel
theorem d_Va_freshKey_30 : decode b_Va_freshKey 30 = .ok (.i2b, 1) := by decide +kernel
theorem d_Va_freshKey_31 : decode b_Va_freshKey 31 = .ok (.bastore, 1) := by decide +kernel
theorem d_Va_freshKey_32 : decode b_Va_freshKey 32 = .ok (.iinc 3 1, 3) := by decide +kernel
theorem d_Va_freshKey_35 : decode b_Va_freshKey 35 = .ok (.goto (-17), 3) := by decide +kernel
theorem d_Va_freshKey_38 : decode b_Va_freshKey 38 = .ok (.aload_n 2, 1) := by decide +kernel
theorem d_Va_freshKey_39 : decode b_Va_freshKey 39 = .ok (.areturn, 1) := by decide +kernel
abbrev b_Va_putSalt : ByteArray := prog_12_method_8_code
def y_Va_putSalt : MethodName := ⟨R_Va, "putSalt", "(LRealmHouse$Bytes;LRealmHouse$Bytes;)V"⟩
abbrev k_Va_putSalt : Cond := .code y_Va_putSalt b_Va_putSalt 6 none
theorem ki_Va_putSalt : k_Va_putSalt ∈ lw_tg := in_t 572 (by decide +kernel)
theorem ks_Va_putSalt : Cond.static y_Va_putSalt ∈ lw_tg := in_t 571 (by decide +kernel)
theorem kl_Va_Va_putSalt : Cond.methodLink R_Va 141 y_Va_putSalt ∈ lw_tg := in_t 570 (by decide +kernel)
theorem kl_Ce_Va_putSalt : Cond.methodLink R_Ce 353 y_Va_putSalt ∈ lw_tg := in_t 1258 (by decide +kernel)
theorem hd_Va_putSalt : y_Va_putSalt.cls = R_Va ∧ y_Va_putSalt.cls ≠ "java/lang/invoke/MethodHandle" ∧ y_Va_putSalt.cls ≠ "java/lang/invoke/VarHandle" ∧ (parseMethodDescriptor y_Va_putSalt.desc).map (fun d => d.parameters.length) = some 2 := by decide +kernel
theorem d_Va_putSalt_0 : decode b_Va_putSalt 0 = .ok (.aload_n 0, 1) := by decide +kernel
theorem d_Va_putSalt_1 : decode b_Va_putSalt 1 = .ok (.ldc 132, 2) := by decide +kernel
theorem d_Va_putSalt_3 : decode b_Va_putSalt 3 = .ok (.invokevirtual 134, 3) := by decide +kernel
theorem d_Va_putSalt_6 : decode b_Va_putSalt 6 = .ok (.iconst 0, 1) := by decide +kernel
theorem d_Va_putSalt_7 : decode b_Va_putSalt 7 = .ok (.istore_n 2, 1) := by decide +kernel
theorem d_Va_putSalt_8 : decode b_Va_putSalt 8 = .ok (.iconst 0, 1) := by decide +kernel
theorem d_Va_putSalt_9 : decode b_Va_putSalt 9 = .ok (.istore_n 3, 1) := by decide +kernel
theorem d_Va_putSalt_10 : decode b_Va_putSalt 10 = .ok (.iload_n 3, 1) := by decide +kernel
theorem d_Va_putSalt_11 : decode b_Va_putSalt 11 = .ok (.iconst 2, 1) := by decide +kernel
theorem d_Va_putSalt_12 : decode b_Va_putSalt 12 = .ok (.if_icmp .ge 53, 3) := by decide +kernel
theorem d_Va_putSalt_15 : decode b_Va_putSalt 15 = .ok (.iload_n 2, 1) := by decide +kernel
theorem d_Va_putSalt_16 : decode b_Va_putSalt 16 = .ok (.aload_n 1, 1) := by decide +kernel
theorem d_Va_putSalt_17 : decode b_Va_putSalt 17 = .ok (.getfield 77, 3) := by decide +kernel
theorem d_Va_putSalt_20 : decode b_Va_putSalt 20 = .ok (.if_icmp .ge 45, 3) := by decide +kernel
theorem d_Va_putSalt_23 : decode b_Va_putSalt 23 = .ok (.aload_n 1, 1) := by decide +kernel
theorem d_Va_putSalt_24 : decode b_Va_putSalt 24 = .ok (.iload_n 2, 1) := by decide +kernel
theorem d_Va_putSalt_25 : decode b_Va_putSalt 25 = .ok (.invokevirtual 71, 3) := by decide +kernel
theorem d_Va_putSalt_28 : decode b_Va_putSalt 28 = .ok (.istore 4, 2) := by decide +kernel
theorem d_Va_putSalt_30 : decode b_Va_putSalt 30 = .ok (.aload_n 1, 1) := by decide +kernel
theorem d_Va_putSalt_31 : decode b_Va_putSalt 31 = .ok (.iload_n 2, 1) := by decide +kernel
theorem d_Va_putSalt_32 : decode b_Va_putSalt 32 = .ok (.aload_n 1, 1) := by decide +kernel
theorem d_Va_putSalt_33 : decode b_Va_putSalt 33 = .ok (.getfield 77, 3) := by decide +kernel
theorem d_Va_putSalt_36 : decode b_Va_putSalt 36 = .ok (.invokevirtual 80, 3) := by decide +kernel
theorem d_Va_putSalt_39 : decode b_Va_putSalt 39 = .ok (.istore 5, 2) := by decide +kernel
theorem d_Va_putSalt_41 : decode b_Va_putSalt 41 = .ok (.aload_n 0, 1) := by decide +kernel
theorem d_Va_putSalt_42 : decode b_Va_putSalt 42 = .ok (.aload_n 1, 1) := by decide +kernel
theorem d_Va_putSalt_43 : decode b_Va_putSalt 43 = .ok (.getfield 86, 3) := by decide +kernel
theorem d_Va_putSalt_46 : decode b_Va_putSalt 46 = .ok (.iload 4, 2) := by decide +kernel
theorem d_Va_putSalt_48 : decode b_Va_putSalt 48 = .ok (.iload 5, 2) := by decide +kernel
theorem d_Va_putSalt_50 : decode b_Va_putSalt 50 = .ok (.iload 4, 2) := by decide +kernel
theorem d_Va_putSalt_52 : decode b_Va_putSalt 52 = .ok (.isub, 1) := by decide +kernel
theorem d_Va_putSalt_53 : decode b_Va_putSalt 53 = .ok (.invokevirtual 138, 3) := by decide +kernel
theorem d_Va_putSalt_56 : decode b_Va_putSalt 56 = .ok (.iload 5, 2) := by decide +kernel
theorem d_Va_putSalt_58 : decode b_Va_putSalt 58 = .ok (.istore_n 2, 1) := by decide +kernel
theorem d_Va_putSalt_59 : decode b_Va_putSalt 59 = .ok (.iinc 3 1, 3) := by decide +kernel
theorem d_Va_putSalt_62 : decode b_Va_putSalt 62 = .ok (.goto (-52), 3) := by decide +kernel
theorem d_Va_putSalt_65 : decode b_Va_putSalt 65 = .ok (.return_, 1) := by decide +kernel
abbrev b_Va_passwordKey : ByteArray := prog_12_method_9_code
def y_Va_passwordKey : MethodName := ⟨R_Va, "passwordKey", "(ILRealmHouse$Bytes;LRealmHouse$Bytes;II)[B"⟩
abbrev k_Va_passwordKey : Cond := .code y_Va_passwordKey b_Va_passwordKey 9 (some (.array .byte))
theorem ki_Va_passwordKey : k_Va_passwordKey ∈ lw_tg := in_t 568 (by decide +kernel)
theorem ks_Va_passwordKey : Cond.instanceMethod y_Va_passwordKey ∈ lw_tg := in_t 566 (by decide +kernel)
theorem kx_Va_passwordKey : Cond.selects R_Va y_Va_passwordKey y_Va_passwordKey ∈ lw_tg := in_t 567 (by decide +kernel)
theorem kl_Pr_Va_passwordKey : Cond.methodLink R_Pr 74 y_Va_passwordKey ∈ lw_tg := in_t 565 (by decide +kernel)
theorem kl_Ag_Va_passwordKey : Cond.methodLink R_Ag 57 y_Va_passwordKey ∈ lw_tg := in_t 1373 (by decide +kernel)
theorem hd_Va_passwordKey : y_Va_passwordKey.cls = R_Va ∧ y_Va_passwordKey.cls ≠ "java/lang/invoke/MethodHandle" ∧ y_Va_passwordKey.cls ≠ "java/lang/invoke/VarHandle" ∧ (parseMethodDescriptor y_Va_passwordKey.desc).map (fun d => d.parameters.length) = some 5 := by decide +kernel
theorem d_Va_passwordKey_0 : decode b_Va_passwordKey 0 = .ok (.iload_n 1, 1) := by decide +kernel
theorem d_Va_passwordKey_1 : decode b_Va_passwordKey 1 = .ok (.bipush 18, 2) := by decide +kernel
theorem d_Va_passwordKey_3 : decode b_Va_passwordKey 3 = .ok (.if_icmp .ne 8, 3) := by decide +kernel
theorem d_Va_passwordKey_6 : decode b_Va_passwordKey 6 = .ok (.bipush 32, 2) := by decide +kernel
theorem d_Va_passwordKey_8 : decode b_Va_passwordKey 8 = .ok (.goto 5, 3) := by decide +kernel
theorem d_Va_passwordKey_11 : decode b_Va_passwordKey 11 = .ok (.bipush 16, 2) := by decide +kernel
theorem d_Va_passwordKey_13 : decode b_Va_passwordKey 13 = .ok (.newarray .byte, 2) := by decide +kernel
theorem d_Va_passwordKey_15 : decode b_Va_passwordKey 15 = .ok (.astore 6, 2) := by decide +kernel
theorem d_Va_passwordKey_17 : decode b_Va_passwordKey 17 = .ok (.aload_n 0, 1) := by decide +kernel
theorem d_Va_passwordKey_18 : decode b_Va_passwordKey 18 = .ok (.getfield 58, 3) := by decide +kernel
theorem d_Va_passwordKey_21 : decode b_Va_passwordKey 21 = .ok (.invokevirtual 106, 3) := by decide +kernel
theorem d_Va_passwordKey_24 : decode b_Va_passwordKey 24 = .ok (.aload_n 0, 1) := by decide +kernel
theorem d_Va_passwordKey_25 : decode b_Va_passwordKey 25 = .ok (.getfield 58, 3) := by decide +kernel
theorem d_Va_passwordKey_28 : decode b_Va_passwordKey 28 = .ok (.aload_n 2, 1) := by decide +kernel
theorem d_Va_passwordKey_29 : decode b_Va_passwordKey 29 = .ok (.invokestatic 141, 3) := by decide +kernel
theorem d_Va_passwordKey_32 : decode b_Va_passwordKey 32 = .ok (.aload_n 0, 1) := by decide +kernel
theorem d_Va_passwordKey_33 : decode b_Va_passwordKey 33 = .ok (.getfield 58, 3) := by decide +kernel
theorem d_Va_passwordKey_36 : decode b_Va_passwordKey 36 = .ok (.getfield 77, 3) := by decide +kernel
theorem d_Va_passwordKey_39 : decode b_Va_passwordKey 39 = .ok (.istore 7, 2) := by decide +kernel
theorem d_Va_passwordKey_41 : decode b_Va_passwordKey 41 = .ok (.aload_n 0, 1) := by decide +kernel
theorem d_Va_passwordKey_42 : decode b_Va_passwordKey 42 = .ok (.getfield 31, 3) := by decide +kernel
theorem d_Va_passwordKey_45 : decode b_Va_passwordKey 45 = .ok (.aload_n 3, 1) := by decide +kernel
theorem d_Va_passwordKey_46 : decode b_Va_passwordKey 46 = .ok (.getfield 86, 3) := by decide +kernel
theorem d_Va_passwordKey_49 : decode b_Va_passwordKey 49 = .ok (.iload 4, 2) := by decide +kernel
theorem d_Va_passwordKey_51 : decode b_Va_passwordKey 51 = .ok (.aload_n 3, 1) := by decide +kernel
theorem d_Va_passwordKey_52 : decode b_Va_passwordKey 52 = .ok (.getfield 77, 3) := by decide +kernel
theorem d_Va_passwordKey_55 : decode b_Va_passwordKey 55 = .ok (.iload 4, 2) := by decide +kernel
theorem d_Va_passwordKey_57 : decode b_Va_passwordKey 57 = .ok (.isub, 1) := by decide +kernel
theorem d_Va_passwordKey_58 : decode b_Va_passwordKey 58 = .ok (.invokevirtual 112, 3) := by decide +kernel
theorem d_Va_passwordKey_61 : decode b_Va_passwordKey 61 = .ok (.iconst 0, 1) := by decide +kernel
theorem d_Va_passwordKey_62 : decode b_Va_passwordKey 62 = .ok (.istore 8, 2) := by decide +kernel
theorem d_Va_passwordKey_64 : decode b_Va_passwordKey 64 = .ok (.iload 8, 2) := by decide +kernel
theorem d_Va_passwordKey_66 : decode b_Va_passwordKey 66 = .ok (.aload 6, 2) := by decide +kernel
theorem d_Va_passwordKey_68 : decode b_Va_passwordKey 68 = .ok (.arraylength, 1) := by decide +kernel
theorem d_Va_passwordKey_69 : decode b_Va_passwordKey 69 = .ok (.if_icmp .ge 61, 3) := by decide +kernel
theorem d_Va_passwordKey_72 : decode b_Va_passwordKey 72 = .ok (.aload_n 0, 1) := by decide +kernel
theorem d_Va_passwordKey_73 : decode b_Va_passwordKey 73 = .ok (.getfield 58, 3) := by decide +kernel
theorem d_Va_passwordKey_76 : decode b_Va_passwordKey 76 = .ok (.iload 7, 2) := by decide +kernel
theorem d_Va_passwordKey_78 : decode b_Va_passwordKey 78 = .ok (.putfield 77, 3) := by decide +kernel
theorem d_Va_passwordKey_81 : decode b_Va_passwordKey 81 = .ok (.aload_n 0, 1) := by decide +kernel
theorem d_Va_passwordKey_82 : decode b_Va_passwordKey 82 = .ok (.getfield 58, 3) := by decide +kernel
theorem d_Va_passwordKey_85 : decode b_Va_passwordKey 85 = .ok (.iload 8, 2) := by decide +kernel
theorem d_Va_passwordKey_87 : decode b_Va_passwordKey 87 = .ok (.bipush 20, 2) := by decide +kernel
theorem d_Va_passwordKey_89 : decode b_Va_passwordKey 89 = .ok (.idiv, 1) := by decide +kernel
theorem d_Va_passwordKey_90 : decode b_Va_passwordKey 90 = .ok (.iconst 1, 1) := by decide +kernel
theorem d_Va_passwordKey_91 : decode b_Va_passwordKey 91 = .ok (.iadd, 1) := by decide +kernel
theorem d_Va_passwordKey_92 : decode b_Va_passwordKey 92 = .ok (.invokevirtual 109, 3) := by decide +kernel
theorem d_Va_passwordKey_95 : decode b_Va_passwordKey 95 = .ok (.aload_n 0, 1) := by decide +kernel
theorem d_Va_passwordKey_96 : decode b_Va_passwordKey 96 = .ok (.iload 5, 2) := by decide +kernel
theorem d_Va_passwordKey_98 : decode b_Va_passwordKey 98 = .ok (.invokevirtual 145, 3) := by decide +kernel
theorem d_Va_passwordKey_101 : decode b_Va_passwordKey 101 = .ok (.aload_n 0, 1) := by decide +kernel
theorem d_Va_passwordKey_102 : decode b_Va_passwordKey 102 = .ok (.getfield 55, 3) := by decide +kernel
theorem d_Va_passwordKey_105 : decode b_Va_passwordKey 105 = .ok (.iconst 0, 1) := by decide +kernel
theorem d_Va_passwordKey_106 : decode b_Va_passwordKey 106 = .ok (.aload 6, 2) := by decide +kernel
theorem d_Va_passwordKey_108 : decode b_Va_passwordKey 108 = .ok (.iload 8, 2) := by decide +kernel
theorem d_Va_passwordKey_110 : decode b_Va_passwordKey 110 = .ok (.bipush 20, 2) := by decide +kernel
theorem d_Va_passwordKey_112 : decode b_Va_passwordKey 112 = .ok (.aload 6, 2) := by decide +kernel
theorem d_Va_passwordKey_114 : decode b_Va_passwordKey 114 = .ok (.arraylength, 1) := by decide +kernel
theorem d_Va_passwordKey_115 : decode b_Va_passwordKey 115 = .ok (.iload 8, 2) := by decide +kernel
theorem d_Va_passwordKey_117 : decode b_Va_passwordKey 117 = .ok (.isub, 1) := by decide +kernel
theorem d_Va_passwordKey_118 : decode b_Va_passwordKey 118 = .ok (.invokestatic 95, 3) := by decide +kernel
theorem d_Va_passwordKey_121 : decode b_Va_passwordKey 121 = .ok (.invokestatic 89, 3) := by decide +kernel
theorem d_Va_passwordKey_124 : decode b_Va_passwordKey 124 = .ok (.iinc 8 20, 3) := by decide +kernel
theorem d_Va_passwordKey_127 : decode b_Va_passwordKey 127 = .ok (.goto (-63), 3) := by decide +kernel
theorem d_Va_passwordKey_130 : decode b_Va_passwordKey 130 = .ok (.aload_n 0, 1) := by decide +kernel
theorem d_Va_passwordKey_131 : decode b_Va_passwordKey 131 = .ok (.getfield 38, 3) := by decide +kernel
theorem d_Va_passwordKey_134 : decode b_Va_passwordKey 134 = .ok (.aload 6, 2) := by decide +kernel
theorem d_Va_passwordKey_136 : decode b_Va_passwordKey 136 = .ok (.aload 6, 2) := by decide +kernel
theorem d_Va_passwordKey_138 : decode b_Va_passwordKey 138 = .ok (.arraylength, 1) := by decide +kernel
theorem d_Va_passwordKey_139 : decode b_Va_passwordKey 139 = .ok (.invokevirtual 148, 3) := by decide +kernel
theorem d_Va_passwordKey_142 : decode b_Va_passwordKey 142 = .ok (.getstatic 151, 3) := by decide +kernel
theorem d_Va_passwordKey_145 : decode b_Va_passwordKey 145 = .ok (.iconst 0, 1) := by decide +kernel
theorem d_Va_passwordKey_146 : decode b_Va_passwordKey 146 = .ok (.aload 6, 2) := by decide +kernel
theorem d_Va_passwordKey_148 : decode b_Va_passwordKey 148 = .ok (.iconst 0, 1) := by decide +kernel
theorem d_Va_passwordKey_149 : decode b_Va_passwordKey 149 = .ok (.bipush 16, 2) := by decide +kernel
theorem d_Va_passwordKey_151 : decode b_Va_passwordKey 151 = .ok (.invokestatic 89, 3) := by decide +kernel
theorem d_Va_passwordKey_154 : decode b_Va_passwordKey 154 = .ok (.aload_n 0, 1) := by decide +kernel
theorem d_Va_passwordKey_155 : decode b_Va_passwordKey 155 = .ok (.aload 6, 2) := by decide +kernel
theorem d_Va_passwordKey_157 : decode b_Va_passwordKey 157 = .ok (.aload 6, 2) := by decide +kernel
theorem d_Va_passwordKey_159 : decode b_Va_passwordKey 159 = .ok (.arraylength, 1) := by decide +kernel
theorem d_Va_passwordKey_160 : decode b_Va_passwordKey 160 = .ok (.invokevirtual 154, 3) := by decide +kernel
theorem d_Va_passwordKey_163 : decode b_Va_passwordKey 163 = .ok (.aload 6, 2) := by decide +kernel
theorem d_Va_passwordKey_165 : decode b_Va_passwordKey 165 = .ok (.areturn, 1) := by decide +kernel
abbrev b_Va_stretch : ByteArray := prog_12_method_10_code
def y_Va_stretch : MethodName := ⟨R_Va, "stretch", "(I)V"⟩
abbrev k_Va_stretch : Cond := .code y_Va_stretch b_Va_stretch 4 none
theorem ki_Va_stretch : k_Va_stretch ∈ lw_tg := in_t 613 (by decide +kernel)
theorem ks_Va_stretch : Cond.instanceMethod y_Va_stretch ∈ lw_tg := in_t 612 (by decide +kernel)
theorem kx_Va_stretch : Cond.selects R_Va y_Va_stretch y_Va_stretch ∈ lw_tg := List.mem_filter.mpr ⟨List.mem_append_left _ (List.mem_of_getElem? (i := 2) (by decide +kernel)), rfl⟩
theorem kl_Va_Va_stretch : Cond.methodLink R_Va 145 y_Va_stretch ∈ lw_tg := in_t 610 (by decide +kernel)
theorem hd_Va_stretch : y_Va_stretch.cls = R_Va ∧ y_Va_stretch.cls ≠ "java/lang/invoke/MethodHandle" ∧ y_Va_stretch.cls ≠ "java/lang/invoke/VarHandle" ∧ (parseMethodDescriptor y_Va_stretch.desc).map (fun d => d.parameters.length) = some 1 := by decide +kernel
theorem d_Va_stretch_0 : decode b_Va_stretch 0 = .ok (.aload_n 0, 1) := by decide +kernel
theorem d_Va_stretch_1 : decode b_Va_stretch 1 = .ok (.getfield 31, 3) := by decide +kernel
theorem d_Va_stretch_4 : decode b_Va_stretch 4 = .ok (.invokevirtual 116, 3) := by decide +kernel
theorem d_Va_stretch_7 : decode b_Va_stretch 7 = .ok (.aload_n 0, 1) := by decide +kernel
theorem d_Va_stretch_8 : decode b_Va_stretch 8 = .ok (.getfield 31, 3) := by decide +kernel
theorem d_Va_stretch_11 : decode b_Va_stretch 11 = .ok (.aload_n 0, 1) := by decide +kernel
theorem d_Va_stretch_12 : decode b_Va_stretch 12 = .ok (.getfield 58, 3) := by decide +kernel
theorem d_Va_stretch_15 : decode b_Va_stretch 15 = .ok (.getfield 86, 3) := by decide +kernel
theorem d_Va_stretch_18 : decode b_Va_stretch 18 = .ok (.iconst 0, 1) := by decide +kernel
theorem d_Va_stretch_19 : decode b_Va_stretch 19 = .ok (.aload_n 0, 1) := by decide +kernel
theorem d_Va_stretch_20 : decode b_Va_stretch 20 = .ok (.getfield 58, 3) := by decide +kernel
theorem d_Va_stretch_23 : decode b_Va_stretch 23 = .ok (.getfield 77, 3) := by decide +kernel
theorem d_Va_stretch_26 : decode b_Va_stretch 26 = .ok (.invokevirtual 119, 3) := by decide +kernel
theorem d_Va_stretch_29 : decode b_Va_stretch 29 = .ok (.aload_n 0, 1) := by decide +kernel
theorem d_Va_stretch_30 : decode b_Va_stretch 30 = .ok (.getfield 31, 3) := by decide +kernel
theorem d_Va_stretch_33 : decode b_Va_stretch 33 = .ok (.invokevirtual 122, 3) := by decide +kernel
theorem d_Va_stretch_36 : decode b_Va_stretch 36 = .ok (.aload_n 0, 1) := by decide +kernel
theorem d_Va_stretch_37 : decode b_Va_stretch 37 = .ok (.getfield 31, 3) := by decide +kernel
theorem d_Va_stretch_40 : decode b_Va_stretch 40 = .ok (.getfield 125, 3) := by decide +kernel
theorem d_Va_stretch_43 : decode b_Va_stretch 43 = .ok (.iconst 0, 1) := by decide +kernel
theorem d_Va_stretch_44 : decode b_Va_stretch 44 = .ok (.aload_n 0, 1) := by decide +kernel
theorem d_Va_stretch_45 : decode b_Va_stretch 45 = .ok (.getfield 55, 3) := by decide +kernel
theorem d_Va_stretch_48 : decode b_Va_stretch 48 = .ok (.iconst 0, 1) := by decide +kernel
theorem d_Va_stretch_49 : decode b_Va_stretch 49 = .ok (.bipush 20, 2) := by decide +kernel
theorem d_Va_stretch_51 : decode b_Va_stretch 51 = .ok (.invokestatic 89, 3) := by decide +kernel
theorem d_Va_stretch_54 : decode b_Va_stretch 54 = .ok (.iconst 1, 1) := by decide +kernel
theorem d_Va_stretch_55 : decode b_Va_stretch 55 = .ok (.istore_n 2, 1) := by decide +kernel
theorem d_Va_stretch_56 : decode b_Va_stretch 56 = .ok (.iload_n 2, 1) := by decide +kernel
theorem d_Va_stretch_57 : decode b_Va_stretch 57 = .ok (.iload_n 1, 1) := by decide +kernel
theorem d_Va_stretch_58 : decode b_Va_stretch 58 = .ok (.if_icmp .ge 80, 3) := by decide +kernel
theorem d_Va_stretch_61 : decode b_Va_stretch 61 = .ok (.iload_n 2, 1) := by decide +kernel
theorem d_Va_stretch_62 : decode b_Va_stretch 62 = .ok (.sipush 200, 3) := by decide +kernel
theorem d_Va_stretch_65 : decode b_Va_stretch 65 = .ok (.if_icmp .ge 73, 3) := by decide +kernel
theorem d_Va_stretch_68 : decode b_Va_stretch 68 = .ok (.aload_n 0, 1) := by decide +kernel
theorem d_Va_stretch_69 : decode b_Va_stretch 69 = .ok (.getfield 31, 3) := by decide +kernel
theorem d_Va_stretch_72 : decode b_Va_stretch 72 = .ok (.invokevirtual 116, 3) := by decide +kernel
theorem d_Va_stretch_75 : decode b_Va_stretch 75 = .ok (.aload_n 0, 1) := by decide +kernel
theorem d_Va_stretch_76 : decode b_Va_stretch 76 = .ok (.getfield 31, 3) := by decide +kernel
theorem d_Va_stretch_79 : decode b_Va_stretch 79 = .ok (.aload_n 0, 1) := by decide +kernel
theorem d_Va_stretch_80 : decode b_Va_stretch 80 = .ok (.getfield 31, 3) := by decide +kernel
theorem d_Va_stretch_83 : decode b_Va_stretch 83 = .ok (.getfield 125, 3) := by decide +kernel
theorem d_Va_stretch_86 : decode b_Va_stretch 86 = .ok (.iconst 0, 1) := by decide +kernel
theorem d_Va_stretch_87 : decode b_Va_stretch 87 = .ok (.bipush 20, 2) := by decide +kernel
theorem d_Va_stretch_89 : decode b_Va_stretch 89 = .ok (.invokevirtual 119, 3) := by decide +kernel
theorem d_Va_stretch_92 : decode b_Va_stretch 92 = .ok (.aload_n 0, 1) := by decide +kernel
theorem d_Va_stretch_93 : decode b_Va_stretch 93 = .ok (.getfield 31, 3) := by decide +kernel
theorem d_Va_stretch_96 : decode b_Va_stretch 96 = .ok (.invokevirtual 122, 3) := by decide +kernel
theorem d_Va_stretch_99 : decode b_Va_stretch 99 = .ok (.iconst 0, 1) := by decide +kernel
theorem d_Va_stretch_100 : decode b_Va_stretch 100 = .ok (.istore_n 3, 1) := by decide +kernel
theorem d_Va_stretch_101 : decode b_Va_stretch 101 = .ok (.iload_n 3, 1) := by decide +kernel
theorem d_Va_stretch_102 : decode b_Va_stretch 102 = .ok (.bipush 20, 2) := by decide +kernel
theorem d_Va_stretch_104 : decode b_Va_stretch 104 = .ok (.if_icmp .ge 28, 3) := by decide +kernel
theorem d_Va_stretch_107 : decode b_Va_stretch 107 = .ok (.aload_n 0, 1) := by decide +kernel
theorem d_Va_stretch_108 : decode b_Va_stretch 108 = .ok (.getfield 55, 3) := by decide +kernel
theorem d_Va_stretch_111 : decode b_Va_stretch 111 = .ok (.iload_n 3, 1) := by decide +kernel
theorem d_Va_stretch_112 : decode b_Va_stretch 112 = .ok (.dup2, 1) := by decide +kernel
theorem d_Va_stretch_113 : decode b_Va_stretch 113 = .ok (.baload, 1) := by decide +kernel
theorem d_Va_stretch_114 : decode b_Va_stretch 114 = .ok (.aload_n 0, 1) := by decide +kernel
theorem d_Va_stretch_115 : decode b_Va_stretch 115 = .ok (.getfield 31, 3) := by decide +kernel
theorem d_Va_stretch_118 : decode b_Va_stretch 118 = .ok (.getfield 125, 3) := by decide +kernel
theorem d_Va_stretch_121 : decode b_Va_stretch 121 = .ok (.iload_n 3, 1) := by decide +kernel
theorem d_Va_stretch_122 : decode b_Va_stretch 122 = .ok (.baload, 1) := by decide +kernel
theorem d_Va_stretch_123 : decode b_Va_stretch 123 = .ok (.ixor, 1) := by decide +kernel
theorem d_Va_stretch_124 : decode b_Va_stretch 124 = .ok (.i2b, 1) := by decide +kernel
theorem d_Va_stretch_125 : decode b_Va_stretch 125 = .ok (.bastore, 1) := by decide +kernel
theorem d_Va_stretch_126 : decode b_Va_stretch 126 = .ok (.iinc 3 1, 3) := by decide +kernel
theorem d_Va_stretch_129 : decode b_Va_stretch 129 = .ok (.goto (-28), 3) := by decide +kernel
theorem d_Va_stretch_132 : decode b_Va_stretch 132 = .ok (.iinc 2 1, 3) := by decide +kernel
theorem d_Va_stretch_135 : decode b_Va_stretch 135 = .ok (.goto (-79), 3) := by decide +kernel
theorem d_Va_stretch_138 : decode b_Va_stretch 138 = .ok (.return_, 1) := by decide +kernel
abbrev b_Va_chain : ByteArray := prog_12_method_11_code
def y_Va_chain : MethodName := ⟨R_Va, "chain", "([BI)V"⟩
abbrev k_Va_chain : Cond := .code y_Va_chain b_Va_chain 3 none
theorem ki_Va_chain : k_Va_chain ∈ lw_tg := in_t 643 (by decide +kernel)
theorem ks_Va_chain : Cond.instanceMethod y_Va_chain ∈ lw_tg := in_t 642 (by decide +kernel)
theorem kx_Va_chain : Cond.selects R_Va y_Va_chain y_Va_chain ∈ lw_tg := List.mem_filter.mpr ⟨List.mem_append_left _ (List.mem_of_getElem? (i := 4) (by decide +kernel)), rfl⟩
theorem kl_Va_Va_chain : Cond.methodLink R_Va 154 y_Va_chain ∈ lw_tg := in_t 640 (by decide +kernel)
theorem hd_Va_chain : y_Va_chain.cls = R_Va ∧ y_Va_chain.cls ≠ "java/lang/invoke/MethodHandle" ∧ y_Va_chain.cls ≠ "java/lang/invoke/VarHandle" ∧ (parseMethodDescriptor y_Va_chain.desc).map (fun d => d.parameters.length) = some 2 := by decide +kernel
theorem d_Va_chain_0 : decode b_Va_chain 0 = .ok (.aload_n 0, 1) := by decide +kernel
theorem d_Va_chain_1 : decode b_Va_chain 1 = .ok (.getfield 38, 3) := by decide +kernel
theorem d_Va_chain_4 : decode b_Va_chain 4 = .ok (.aload_n 1, 1) := by decide +kernel
theorem d_Va_chain_5 : decode b_Va_chain 5 = .ok (.iconst 0, 1) := by decide +kernel
theorem d_Va_chain_6 : decode b_Va_chain 6 = .ok (.invokevirtual 157, 3) := by decide +kernel
theorem d_Va_chain_9 : decode b_Va_chain 9 = .ok (.iload_n 2, 1) := by decide +kernel
theorem d_Va_chain_10 : decode b_Va_chain 10 = .ok (.bipush 32, 2) := by decide +kernel
theorem d_Va_chain_12 : decode b_Va_chain 12 = .ok (.if_icmp .ne 30, 3) := by decide +kernel
theorem d_Va_chain_15 : decode b_Va_chain 15 = .ok (.aload_n 1, 1) := by decide +kernel
theorem d_Va_chain_16 : decode b_Va_chain 16 = .ok (.arraylength, 1) := by decide +kernel
theorem d_Va_chain_17 : decode b_Va_chain 17 = .ok (.bipush 32, 2) := by decide +kernel
theorem d_Va_chain_19 : decode b_Va_chain 19 = .ok (.if_icmp .lt 23, 3) := by decide +kernel
theorem d_Va_chain_22 : decode b_Va_chain 22 = .ok (.aload_n 1, 1) := by decide +kernel
theorem d_Va_chain_23 : decode b_Va_chain 23 = .ok (.iconst 0, 1) := by decide +kernel
theorem d_Va_chain_24 : decode b_Va_chain 24 = .ok (.aload_n 1, 1) := by decide +kernel
theorem d_Va_chain_25 : decode b_Va_chain 25 = .ok (.bipush 16, 2) := by decide +kernel
theorem d_Va_chain_27 : decode b_Va_chain 27 = .ok (.bipush 16, 2) := by decide +kernel
theorem d_Va_chain_29 : decode b_Va_chain 29 = .ok (.invokestatic 89, 3) := by decide +kernel
theorem d_Va_chain_32 : decode b_Va_chain 32 = .ok (.aload_n 0, 1) := by decide +kernel
theorem d_Va_chain_33 : decode b_Va_chain 33 = .ok (.getfield 38, 3) := by decide +kernel
theorem d_Va_chain_36 : decode b_Va_chain 36 = .ok (.aload_n 1, 1) := by decide +kernel
theorem d_Va_chain_37 : decode b_Va_chain 37 = .ok (.bipush 16, 2) := by decide +kernel
theorem d_Va_chain_39 : decode b_Va_chain 39 = .ok (.invokevirtual 157, 3) := by decide +kernel
theorem d_Va_chain_42 : decode b_Va_chain 42 = .ok (.return_, 1) := by decide +kernel
abbrev b_Va_derive : ByteArray := prog_12_method_12_code
def y_Va_derive : MethodName := ⟨R_Va, "derive", "([BII)V"⟩
abbrev k_Va_derive : Cond := .code y_Va_derive b_Va_derive 4 none
theorem ki_Va_derive : k_Va_derive ∈ lw_tg := in_t 1011 (by decide +kernel)
theorem ks_Va_derive : Cond.instanceMethod y_Va_derive ∈ lw_tg := in_t 1010 (by decide +kernel)
theorem kx_Va_derive : Cond.selects R_Va y_Va_derive y_Va_derive ∈ lw_tg := List.mem_filter.mpr ⟨List.mem_append_left _ (List.mem_of_getElem? (i := 19) (by decide +kernel)), rfl⟩
theorem kl_Va_Va_derive : Cond.methodLink R_Va 183 y_Va_derive ∈ lw_tg := in_t 1008 (by decide +kernel)
theorem hd_Va_derive : y_Va_derive.cls = R_Va ∧ y_Va_derive.cls ≠ "java/lang/invoke/MethodHandle" ∧ y_Va_derive.cls ≠ "java/lang/invoke/VarHandle" ∧ (parseMethodDescriptor y_Va_derive.desc).map (fun d => d.parameters.length) = some 3 := by decide +kernel
theorem d_Va_derive_0 : decode b_Va_derive 0 = .ok (.aload_n 0, 1) := by decide +kernel
theorem d_Va_derive_1 : decode b_Va_derive 1 = .ok (.iload_n 2, 1) := by decide +kernel
theorem d_Va_derive_2 : decode b_Va_derive 2 = .ok (.iload_n 3, 1) := by decide +kernel
theorem d_Va_derive_3 : decode b_Va_derive 3 = .ok (.invokevirtual 160, 3) := by decide +kernel
theorem d_Va_derive_6 : decode b_Va_derive 6 = .ok (.aload_n 0, 1) := by decide +kernel
theorem d_Va_derive_7 : decode b_Va_derive 7 = .ok (.getfield 38, 3) := by decide +kernel
theorem d_Va_derive_10 : decode b_Va_derive 10 = .ok (.aload_n 1, 1) := by decide +kernel
theorem d_Va_derive_11 : decode b_Va_derive 11 = .ok (.aload_n 1, 1) := by decide +kernel
theorem d_Va_derive_12 : decode b_Va_derive 12 = .ok (.arraylength, 1) := by decide +kernel
theorem d_Va_derive_13 : decode b_Va_derive 13 = .ok (.invokevirtual 148, 3) := by decide +kernel
theorem d_Va_derive_16 : decode b_Va_derive 16 = .ok (.aload_n 0, 1) := by decide +kernel
theorem d_Va_derive_17 : decode b_Va_derive 17 = .ok (.aload_n 0, 1) := by decide +kernel
theorem d_Va_derive_18 : decode b_Va_derive 18 = .ok (.getfield 52, 3) := by decide +kernel
theorem d_Va_derive_21 : decode b_Va_derive 21 = .ok (.aload_n 1, 1) := by decide +kernel
theorem d_Va_derive_22 : decode b_Va_derive 22 = .ok (.arraylength, 1) := by decide +kernel
theorem d_Va_derive_23 : decode b_Va_derive 23 = .ok (.invokevirtual 154, 3) := by decide +kernel
theorem d_Va_derive_26 : decode b_Va_derive 26 = .ok (.return_, 1) := by decide +kernel
abbrev b_Va_fold : ByteArray := prog_12_method_13_code
def y_Va_fold : MethodName := ⟨R_Va, "fold", "(II)V"⟩
abbrev k_Va_fold : Cond := .code y_Va_fold b_Va_fold 10 none
theorem ki_Va_fold : k_Va_fold ∈ lw_tg := in_t 1015 (by decide +kernel)
theorem ks_Va_fold : Cond.instanceMethod y_Va_fold ∈ lw_tg := in_t 1014 (by decide +kernel)
theorem kx_Va_fold : Cond.selects R_Va y_Va_fold y_Va_fold ∈ lw_tg := List.mem_filter.mpr ⟨List.mem_append_left _ (List.mem_of_getElem? (i := 20) (by decide +kernel)), rfl⟩
theorem kl_Va_Va_fold : Cond.methodLink R_Va 160 y_Va_fold ∈ lw_tg := in_t 1012 (by decide +kernel)
theorem hd_Va_fold : y_Va_fold.cls = R_Va ∧ y_Va_fold.cls ≠ "java/lang/invoke/MethodHandle" ∧ y_Va_fold.cls ≠ "java/lang/invoke/VarHandle" ∧ (parseMethodDescriptor y_Va_fold.desc).map (fun d => d.parameters.length) = some 2 := by decide +kernel
theorem d_Va_fold_0 : decode b_Va_fold 0 = .ok (.iload_n 1, 1) := by decide +kernel
theorem d_Va_fold_1 : decode b_Va_fold 1 = .ok (.i2l, 1) := by decide +kernel
theorem d_Va_fold_2 : decode b_Va_fold 2 = .ok (.bipush 8, 2) := by decide +kernel
theorem d_Va_fold_4 : decode b_Va_fold 4 = .ok (.lshl, 1) := by decide +kernel
theorem d_Va_fold_5 : decode b_Va_fold 5 = .ok (.iload_n 2, 1) := by decide +kernel
theorem d_Va_fold_6 : decode b_Va_fold 6 = .ok (.i2l, 1) := by decide +kernel
theorem d_Va_fold_7 : decode b_Va_fold 7 = .ok (.lor, 1) := by decide +kernel
theorem d_Va_fold_8 : decode b_Va_fold 8 = .ok (.lstore_n 3, 1) := by decide +kernel
theorem d_Va_fold_9 : decode b_Va_fold 9 = .ok (.iconst 0, 1) := by decide +kernel
theorem d_Va_fold_10 : decode b_Va_fold 10 = .ok (.istore 5, 2) := by decide +kernel
theorem d_Va_fold_12 : decode b_Va_fold 12 = .ok (.iload 5, 2) := by decide +kernel
theorem d_Va_fold_14 : decode b_Va_fold 14 = .ok (.bipush 16, 2) := by decide +kernel
theorem d_Va_fold_16 : decode b_Va_fold 16 = .ok (.if_icmp .ge 17, 3) := by decide +kernel
theorem d_Va_fold_19 : decode b_Va_fold 19 = .ok (.aload_n 0, 1) := by decide +kernel
theorem d_Va_fold_20 : decode b_Va_fold 20 = .ok (.getfield 52, 3) := by decide +kernel
theorem d_Va_fold_23 : decode b_Va_fold 23 = .ok (.iload 5, 2) := by decide +kernel
theorem d_Va_fold_25 : decode b_Va_fold 25 = .ok (.iconst 0, 1) := by decide +kernel
theorem d_Va_fold_26 : decode b_Va_fold 26 = .ok (.bastore, 1) := by decide +kernel
theorem d_Va_fold_27 : decode b_Va_fold 27 = .ok (.iinc 5 1, 3) := by decide +kernel
theorem d_Va_fold_30 : decode b_Va_fold 30 = .ok (.goto (-18), 3) := by decide +kernel
theorem d_Va_fold_33 : decode b_Va_fold 33 = .ok (.iconst 0, 1) := by decide +kernel
theorem d_Va_fold_34 : decode b_Va_fold 34 = .ok (.istore 5, 2) := by decide +kernel
theorem d_Va_fold_36 : decode b_Va_fold 36 = .ok (.bipush 79, 2) := by decide +kernel
theorem d_Va_fold_38 : decode b_Va_fold 38 = .ok (.istore 6, 2) := by decide +kernel
theorem d_Va_fold_40 : decode b_Va_fold 40 = .ok (.iload 6, 2) := by decide +kernel
theorem d_Va_fold_42 : decode b_Va_fold 42 = .ok (.ifCond .lt 92, 3) := by decide +kernel
theorem d_Va_fold_45 : decode b_Va_fold 45 = .ok (.iload 6, 2) := by decide +kernel
theorem d_Va_fold_47 : decode b_Va_fold 47 = .ok (.iconst 5, 1) := by decide +kernel
theorem d_Va_fold_48 : decode b_Va_fold 48 = .ok (.idiv, 1) := by decide +kernel
theorem d_Va_fold_49 : decode b_Va_fold 49 = .ok (.bipush 13, 2) := by decide +kernel
theorem d_Va_fold_51 : decode b_Va_fold 51 = .ok (.imul, 1) := by decide +kernel
theorem d_Va_fold_52 : decode b_Va_fold 52 = .ok (.bipush 8, 2) := by decide +kernel
theorem d_Va_fold_54 : decode b_Va_fold 54 = .ok (.iconst 4, 1) := by decide +kernel
theorem d_Va_fold_55 : decode b_Va_fold 55 = .ok (.iload 6, 2) := by decide +kernel
theorem d_Va_fold_57 : decode b_Va_fold 57 = .ok (.iconst 5, 1) := by decide +kernel
theorem d_Va_fold_58 : decode b_Va_fold 58 = .ok (.irem, 1) := by decide +kernel
theorem d_Va_fold_59 : decode b_Va_fold 59 = .ok (.isub, 1) := by decide +kernel
theorem d_Va_fold_60 : decode b_Va_fold 60 = .ok (.imul, 1) := by decide +kernel
theorem d_Va_fold_61 : decode b_Va_fold 61 = .ok (.iadd, 1) := by decide +kernel
theorem d_Va_fold_62 : decode b_Va_fold 62 = .ok (.bipush 40, 2) := by decide +kernel
theorem d_Va_fold_64 : decode b_Va_fold 64 = .ok (.irem, 1) := by decide +kernel
theorem d_Va_fold_65 : decode b_Va_fold 65 = .ok (.istore 7, 2) := by decide +kernel
theorem d_Va_fold_67 : decode b_Va_fold 67 = .ok (.lload_n 3, 1) := by decide +kernel
theorem d_Va_fold_68 : decode b_Va_fold 68 = .ok (.iload 7, 2) := by decide +kernel
theorem d_Va_fold_70 : decode b_Va_fold 70 = .ok (.lushr, 1) := by decide +kernel
theorem d_Va_fold_71 : decode b_Va_fold 71 = .ok (.lload_n 3, 1) := by decide +kernel
theorem d_Va_fold_72 : decode b_Va_fold 72 = .ok (.bipush 40, 2) := by decide +kernel
theorem d_Va_fold_74 : decode b_Va_fold 74 = .ok (.iload 7, 2) := by decide +kernel
theorem d_Va_fold_76 : decode b_Va_fold 76 = .ok (.isub, 1) := by decide +kernel
theorem d_Va_fold_77 : decode b_Va_fold 77 = .ok (.lshl, 1) := by decide +kernel
theorem d_Va_fold_78 : decode b_Va_fold 78 = .ok (.lor, 1) := by decide +kernel
theorem d_Va_fold_79 : decode b_Va_fold 79 = .ok (.lstore 8, 2) := by decide +kernel
theorem d_Va_fold_81 : decode b_Va_fold 81 = .ok (.iload 5, 2) := by decide +kernel
theorem d_Va_fold_83 : decode b_Va_fold 83 = .ok (.lload 8, 2) := by decide +kernel
theorem d_Va_fold_85 : decode b_Va_fold 85 = .ok (.ldc2_w 164, 3) := by decide +kernel
theorem d_Va_fold_88 : decode b_Va_fold 88 = .ok (.land, 1) := by decide +kernel
theorem d_Va_fold_89 : decode b_Va_fold 89 = .ok (.l2i, 1) := by decide +kernel
theorem d_Va_fold_90 : decode b_Va_fold 90 = .ok (.aload_n 0, 1) := by decide +kernel
theorem d_Va_fold_91 : decode b_Va_fold 91 = .ok (.getfield 52, 3) := by decide +kernel
theorem d_Va_fold_94 : decode b_Va_fold 94 = .ok (.iload 6, 2) := by decide +kernel
theorem d_Va_fold_96 : decode b_Va_fold 96 = .ok (.bipush 16, 2) := by decide +kernel
theorem d_Va_fold_98 : decode b_Va_fold 98 = .ok (.irem, 1) := by decide +kernel
theorem d_Va_fold_99 : decode b_Va_fold 99 = .ok (.baload, 1) := by decide +kernel
theorem d_Va_fold_100 : decode b_Va_fold 100 = .ok (.sipush 255, 3) := by decide +kernel
theorem d_Va_fold_103 : decode b_Va_fold 103 = .ok (.iand, 1) := by decide +kernel
theorem d_Va_fold_104 : decode b_Va_fold 104 = .ok (.iadd, 1) := by decide +kernel
theorem d_Va_fold_105 : decode b_Va_fold 105 = .ok (.iadd, 1) := by decide +kernel
theorem d_Va_fold_106 : decode b_Va_fold 106 = .ok (.istore 5, 2) := by decide +kernel
theorem d_Va_fold_108 : decode b_Va_fold 108 = .ok (.aload_n 0, 1) := by decide +kernel
theorem d_Va_fold_109 : decode b_Va_fold 109 = .ok (.getfield 52, 3) := by decide +kernel
theorem d_Va_fold_112 : decode b_Va_fold 112 = .ok (.iload 6, 2) := by decide +kernel
theorem d_Va_fold_114 : decode b_Va_fold 114 = .ok (.bipush 16, 2) := by decide +kernel
theorem d_Va_fold_116 : decode b_Va_fold 116 = .ok (.irem, 1) := by decide +kernel
theorem d_Va_fold_117 : decode b_Va_fold 117 = .ok (.iload 5, 2) := by decide +kernel
theorem d_Va_fold_119 : decode b_Va_fold 119 = .ok (.i2b, 1) := by decide +kernel
theorem d_Va_fold_120 : decode b_Va_fold 120 = .ok (.bastore, 1) := by decide +kernel
theorem d_Va_fold_121 : decode b_Va_fold 121 = .ok (.iload 5, 2) := by decide +kernel
theorem d_Va_fold_123 : decode b_Va_fold 123 = .ok (.bipush 8, 2) := by decide +kernel
theorem d_Va_fold_125 : decode b_Va_fold 125 = .ok (.ishr, 1) := by decide +kernel
theorem d_Va_fold_126 : decode b_Va_fold 126 = .ok (.istore 5, 2) := by decide +kernel
theorem d_Va_fold_128 : decode b_Va_fold 128 = .ok (.iinc 6 (-1), 3) := by decide +kernel
theorem d_Va_fold_131 : decode b_Va_fold 131 = .ok (.goto (-91), 3) := by decide +kernel
theorem d_Va_fold_134 : decode b_Va_fold 134 = .ok (.bipush 15, 2) := by decide +kernel
theorem d_Va_fold_136 : decode b_Va_fold 136 = .ok (.istore 6, 2) := by decide +kernel
theorem d_Va_fold_138 : decode b_Va_fold 138 = .ok (.iload 6, 2) := by decide +kernel
theorem d_Va_fold_140 : decode b_Va_fold 140 = .ok (.ifCond .lt 47, 3) := by decide +kernel
theorem d_Va_fold_143 : decode b_Va_fold 143 = .ok (.iload 5, 2) := by decide +kernel
theorem d_Va_fold_145 : decode b_Va_fold 145 = .ok (.ifCond .le 42, 3) := by decide +kernel
theorem d_Va_fold_148 : decode b_Va_fold 148 = .ok (.iload 5, 2) := by decide +kernel
theorem d_Va_fold_150 : decode b_Va_fold 150 = .ok (.aload_n 0, 1) := by decide +kernel
theorem d_Va_fold_151 : decode b_Va_fold 151 = .ok (.getfield 52, 3) := by decide +kernel
theorem d_Va_fold_154 : decode b_Va_fold 154 = .ok (.iload 6, 2) := by decide +kernel
theorem d_Va_fold_156 : decode b_Va_fold 156 = .ok (.baload, 1) := by decide +kernel
theorem d_Va_fold_157 : decode b_Va_fold 157 = .ok (.sipush 255, 3) := by decide +kernel
theorem d_Va_fold_160 : decode b_Va_fold 160 = .ok (.iand, 1) := by decide +kernel
theorem d_Va_fold_161 : decode b_Va_fold 161 = .ok (.iadd, 1) := by decide +kernel
theorem d_Va_fold_162 : decode b_Va_fold 162 = .ok (.istore 5, 2) := by decide +kernel
theorem d_Va_fold_164 : decode b_Va_fold 164 = .ok (.aload_n 0, 1) := by decide +kernel
theorem d_Va_fold_165 : decode b_Va_fold 165 = .ok (.getfield 52, 3) := by decide +kernel
theorem d_Va_fold_168 : decode b_Va_fold 168 = .ok (.iload 6, 2) := by decide +kernel
theorem d_Va_fold_170 : decode b_Va_fold 170 = .ok (.iload 5, 2) := by decide +kernel
theorem d_Va_fold_172 : decode b_Va_fold 172 = .ok (.i2b, 1) := by decide +kernel
theorem d_Va_fold_173 : decode b_Va_fold 173 = .ok (.bastore, 1) := by decide +kernel
theorem d_Va_fold_174 : decode b_Va_fold 174 = .ok (.iload 5, 2) := by decide +kernel
theorem d_Va_fold_176 : decode b_Va_fold 176 = .ok (.bipush 8, 2) := by decide +kernel
theorem d_Va_fold_178 : decode b_Va_fold 178 = .ok (.ishr, 1) := by decide +kernel
theorem d_Va_fold_179 : decode b_Va_fold 179 = .ok (.istore 5, 2) := by decide +kernel
theorem d_Va_fold_181 : decode b_Va_fold 181 = .ok (.iinc 6 (-1), 3) := by decide +kernel
theorem d_Va_fold_184 : decode b_Va_fold 184 = .ok (.goto (-46), 3) := by decide +kernel
theorem d_Va_fold_187 : decode b_Va_fold 187 = .ok (.return_, 1) := by decide +kernel
abbrev b_Va_putSealed : ByteArray := prog_12_method_14_code
def y_Va_putSealed : MethodName := ⟨R_Va, "putSealed", "(LRealmHouse$Bytes;[BII)V"⟩
abbrev k_Va_putSealed : Cond := .code y_Va_putSealed b_Va_putSealed 10 none
theorem ki_Va_putSealed : k_Va_putSealed ∈ lw_tg := in_t 1323 (by decide +kernel)
theorem ks_Va_putSealed : Cond.instanceMethod y_Va_putSealed ∈ lw_tg := in_t 1321 (by decide +kernel)
theorem kx_Va_putSealed : Cond.selects R_Va y_Va_putSealed y_Va_putSealed ∈ lw_tg := in_t 1322 (by decide +kernel)
theorem kl_Ce_Va_putSealed : Cond.methodLink R_Ce 334 y_Va_putSealed ∈ lw_tg := in_t 1320 (by decide +kernel)
theorem kl_Ag_Va_putSealed : Cond.methodLink R_Ag 204 y_Va_putSealed ∈ lw_tg := in_t 1457 (by decide +kernel)
theorem kl_So_Va_putSealed : Cond.methodLink R_So 119 y_Va_putSealed ∈ lw_tg := in_t 1602 (by decide +kernel)
theorem hd_Va_putSealed : y_Va_putSealed.cls = R_Va ∧ y_Va_putSealed.cls ≠ "java/lang/invoke/MethodHandle" ∧ y_Va_putSealed.cls ≠ "java/lang/invoke/VarHandle" ∧ (parseMethodDescriptor y_Va_putSealed.desc).map (fun d => d.parameters.length) = some 4 := by decide +kernel
theorem d_Va_putSealed_0 : decode b_Va_putSealed 0 = .ok (.aload_n 1, 1) := by decide +kernel
theorem d_Va_putSealed_1 : decode b_Va_putSealed 1 = .ok (.bipush 48, 2) := by decide +kernel
theorem d_Va_putSealed_3 : decode b_Va_putSealed 3 = .ok (.invokevirtual 166, 3) := by decide +kernel
theorem d_Va_putSealed_6 : decode b_Va_putSealed 6 = .ok (.istore 5, 2) := by decide +kernel
theorem d_Va_putSealed_8 : decode b_Va_putSealed 8 = .ok (.aload_n 1, 1) := by decide +kernel
theorem d_Va_putSealed_9 : decode b_Va_putSealed 9 = .ok (.iconst 0, 1) := by decide +kernel
theorem d_Va_putSealed_10 : decode b_Va_putSealed 10 = .ok (.aload_n 2, 1) := by decide +kernel
theorem d_Va_putSealed_11 : decode b_Va_putSealed 11 = .ok (.invokestatic 169, 3) := by decide +kernel
theorem d_Va_putSealed_14 : decode b_Va_putSealed 14 = .ok (.i2l, 1) := by decide +kernel
theorem d_Va_putSealed_15 : decode b_Va_putSealed 15 = .ok (.invokevirtual 173, 3) := by decide +kernel
theorem d_Va_putSealed_18 : decode b_Va_putSealed 18 = .ok (.iload 4, 2) := by decide +kernel
theorem d_Va_putSealed_20 : decode b_Va_putSealed 20 = .ok (.ifCond .le 11, 3) := by decide +kernel
theorem d_Va_putSealed_23 : decode b_Va_putSealed 23 = .ok (.aload_n 1, 1) := by decide +kernel
theorem d_Va_putSealed_24 : decode b_Va_putSealed 24 = .ok (.iconst 1, 1) := by decide +kernel
theorem d_Va_putSealed_25 : decode b_Va_putSealed 25 = .ok (.iload 4, 2) := by decide +kernel
theorem d_Va_putSealed_27 : decode b_Va_putSealed 27 = .ok (.i2l, 1) := by decide +kernel
theorem d_Va_putSealed_28 : decode b_Va_putSealed 28 = .ok (.invokevirtual 173, 3) := by decide +kernel
theorem d_Va_putSealed_31 : decode b_Va_putSealed 31 = .ok (.aload_n 1, 1) := by decide +kernel
theorem d_Va_putSealed_32 : decode b_Va_putSealed 32 = .ok (.iconst 2, 1) := by decide +kernel
theorem d_Va_putSealed_33 : decode b_Va_putSealed 33 = .ok (.invokevirtual 177, 3) := by decide +kernel
theorem d_Va_putSealed_36 : decode b_Va_putSealed 36 = .ok (.istore 6, 2) := by decide +kernel
theorem d_Va_putSealed_38 : decode b_Va_putSealed 38 = .ok (.aload_n 1, 1) := by decide +kernel
theorem d_Va_putSealed_39 : decode b_Va_putSealed 39 = .ok (.iconst 4, 1) := by decide +kernel
theorem d_Va_putSealed_40 : decode b_Va_putSealed 40 = .ok (.invokevirtual 166, 3) := by decide +kernel
theorem d_Va_putSealed_43 : decode b_Va_putSealed 43 = .ok (.istore 7, 2) := by decide +kernel
theorem d_Va_putSealed_45 : decode b_Va_putSealed 45 = .ok (.aload_n 1, 1) := by decide +kernel
theorem d_Va_putSealed_46 : decode b_Va_putSealed 46 = .ok (.getfield 77, 3) := by decide +kernel
theorem d_Va_putSealed_49 : decode b_Va_putSealed 49 = .ok (.istore 8, 2) := by decide +kernel
theorem d_Va_putSealed_51 : decode b_Va_putSealed 51 = .ok (.iconst 0, 1) := by decide +kernel
theorem d_Va_putSealed_52 : decode b_Va_putSealed 52 = .ok (.istore 9, 2) := by decide +kernel
theorem d_Va_putSealed_54 : decode b_Va_putSealed 54 = .ok (.iload 9, 2) := by decide +kernel
theorem d_Va_putSealed_56 : decode b_Va_putSealed 56 = .ok (.bipush 16, 2) := by decide +kernel
theorem d_Va_putSealed_58 : decode b_Va_putSealed 58 = .ok (.if_icmp .ge 17, 3) := by decide +kernel
theorem d_Va_putSealed_61 : decode b_Va_putSealed 61 = .ok (.aload_n 1, 1) := by decide +kernel
theorem d_Va_putSealed_62 : decode b_Va_putSealed 62 = .ok (.aload_n 0, 1) := by decide +kernel
theorem d_Va_putSealed_63 : decode b_Va_putSealed 63 = .ok (.invokevirtual 128, 3) := by decide +kernel
theorem d_Va_putSealed_66 : decode b_Va_putSealed 66 = .ok (.invokevirtual 180, 3) := by decide +kernel
theorem d_Va_putSealed_69 : decode b_Va_putSealed 69 = .ok (.iinc 9 1, 3) := by decide +kernel
theorem d_Va_putSealed_72 : decode b_Va_putSealed 72 = .ok (.goto (-18), 3) := by decide +kernel
theorem d_Va_putSealed_75 : decode b_Va_putSealed 75 = .ok (.aload_n 1, 1) := by decide +kernel
theorem d_Va_putSealed_76 : decode b_Va_putSealed 76 = .ok (.aload_n 0, 1) := by decide +kernel
theorem d_Va_putSealed_77 : decode b_Va_putSealed 77 = .ok (.getfield 21, 3) := by decide +kernel
theorem d_Va_putSealed_80 : decode b_Va_putSealed 80 = .ok (.getfield 86, 3) := by decide +kernel
theorem d_Va_putSealed_83 : decode b_Va_putSealed 83 = .ok (.iconst 0, 1) := by decide +kernel
theorem d_Va_putSealed_84 : decode b_Va_putSealed 84 = .ok (.aload_n 0, 1) := by decide +kernel
theorem d_Va_putSealed_85 : decode b_Va_putSealed 85 = .ok (.getfield 21, 3) := by decide +kernel
theorem d_Va_putSealed_88 : decode b_Va_putSealed 88 = .ok (.getfield 77, 3) := by decide +kernel
theorem d_Va_putSealed_91 : decode b_Va_putSealed 91 = .ok (.invokevirtual 138, 3) := by decide +kernel
theorem d_Va_putSealed_94 : decode b_Va_putSealed 94 = .ok (.aload_n 0, 1) := by decide +kernel
theorem d_Va_putSealed_95 : decode b_Va_putSealed 95 = .ok (.aload_n 2, 1) := by decide +kernel
theorem d_Va_putSealed_96 : decode b_Va_putSealed 96 = .ok (.iload_n 3, 1) := by decide +kernel
theorem d_Va_putSealed_97 : decode b_Va_putSealed 97 = .ok (.bipush 85, 2) := by decide +kernel
theorem d_Va_putSealed_99 : decode b_Va_putSealed 99 = .ok (.invokevirtual 183, 3) := by decide +kernel
theorem d_Va_putSealed_102 : decode b_Va_putSealed 102 = .ok (.aload_n 0, 1) := by decide +kernel
theorem d_Va_putSealed_103 : decode b_Va_putSealed 103 = .ok (.getfield 31, 3) := by decide +kernel
theorem d_Va_putSealed_106 : decode b_Va_putSealed 106 = .ok (.aload_n 0, 1) := by decide +kernel
theorem d_Va_putSealed_107 : decode b_Va_putSealed 107 = .ok (.getfield 52, 3) := by decide +kernel
theorem d_Va_putSealed_110 : decode b_Va_putSealed 110 = .ok (.iconst 0, 1) := by decide +kernel
theorem d_Va_putSealed_111 : decode b_Va_putSealed 111 = .ok (.aload_n 2, 1) := by decide +kernel
theorem d_Va_putSealed_112 : decode b_Va_putSealed 112 = .ok (.arraylength, 1) := by decide +kernel
theorem d_Va_putSealed_113 : decode b_Va_putSealed 113 = .ok (.invokevirtual 112, 3) := by decide +kernel
theorem d_Va_putSealed_116 : decode b_Va_putSealed 116 = .ok (.aload_n 0, 1) := by decide +kernel
theorem d_Va_putSealed_117 : decode b_Va_putSealed 117 = .ok (.aload_n 1, 1) := by decide +kernel
theorem d_Va_putSealed_118 : decode b_Va_putSealed 118 = .ok (.iload 8, 2) := by decide +kernel
theorem d_Va_putSealed_120 : decode b_Va_putSealed 120 = .ok (.aload_n 1, 1) := by decide +kernel
theorem d_Va_putSealed_121 : decode b_Va_putSealed 121 = .ok (.getfield 77, 3) := by decide +kernel
theorem d_Va_putSealed_124 : decode b_Va_putSealed 124 = .ok (.invokevirtual 186, 3) := by decide +kernel
theorem d_Va_putSealed_127 : decode b_Va_putSealed 127 = .ok (.aload_n 0, 1) := by decide +kernel
theorem d_Va_putSealed_128 : decode b_Va_putSealed 128 = .ok (.aload_n 2, 1) := by decide +kernel
theorem d_Va_putSealed_129 : decode b_Va_putSealed 129 = .ok (.iload_n 3, 1) := by decide +kernel
theorem d_Va_putSealed_130 : decode b_Va_putSealed 130 = .ok (.sipush 170, 3) := by decide +kernel
theorem d_Va_putSealed_133 : decode b_Va_putSealed 133 = .ok (.invokevirtual 183, 3) := by decide +kernel
theorem d_Va_putSealed_136 : decode b_Va_putSealed 136 = .ok (.aload_n 0, 1) := by decide +kernel
theorem d_Va_putSealed_137 : decode b_Va_putSealed 137 = .ok (.getfield 38, 3) := by decide +kernel
theorem d_Va_putSealed_140 : decode b_Va_putSealed 140 = .ok (.aload_n 0, 1) := by decide +kernel
theorem d_Va_putSealed_141 : decode b_Va_putSealed 141 = .ok (.getfield 52, 3) := by decide +kernel
theorem d_Va_putSealed_144 : decode b_Va_putSealed 144 = .ok (.aload_n 2, 1) := by decide +kernel
theorem d_Va_putSealed_145 : decode b_Va_putSealed 145 = .ok (.arraylength, 1) := by decide +kernel
theorem d_Va_putSealed_146 : decode b_Va_putSealed 146 = .ok (.invokevirtual 148, 3) := by decide +kernel
theorem d_Va_putSealed_149 : decode b_Va_putSealed 149 = .ok (.aload_n 0, 1) := by decide +kernel
theorem d_Va_putSealed_150 : decode b_Va_putSealed 150 = .ok (.getfield 38, 3) := by decide +kernel
theorem d_Va_putSealed_153 : decode b_Va_putSealed 153 = .ok (.aload_n 1, 1) := by decide +kernel
theorem d_Va_putSealed_154 : decode b_Va_putSealed 154 = .ok (.getfield 86, 3) := by decide +kernel
theorem d_Va_putSealed_157 : decode b_Va_putSealed 157 = .ok (.iload 8, 2) := by decide +kernel
theorem d_Va_putSealed_159 : decode b_Va_putSealed 159 = .ok (.aload_n 1, 1) := by decide +kernel
theorem d_Va_putSealed_160 : decode b_Va_putSealed 160 = .ok (.getfield 77, 3) := by decide +kernel
theorem d_Va_putSealed_163 : decode b_Va_putSealed 163 = .ok (.iload 8, 2) := by decide +kernel
theorem d_Va_putSealed_165 : decode b_Va_putSealed 165 = .ok (.isub, 1) := by decide +kernel
theorem d_Va_putSealed_166 : decode b_Va_putSealed 166 = .ok (.invokevirtual 190, 3) := by decide +kernel
theorem d_Va_putSealed_169 : decode b_Va_putSealed 169 = .ok (.aload_n 1, 1) := by decide +kernel
theorem d_Va_putSealed_170 : decode b_Va_putSealed 170 = .ok (.aload_n 0, 1) := by decide +kernel
theorem d_Va_putSealed_171 : decode b_Va_putSealed 171 = .ok (.getfield 31, 3) := by decide +kernel
theorem d_Va_putSealed_174 : decode b_Va_putSealed 174 = .ok (.getfield 125, 3) := by decide +kernel
theorem d_Va_putSealed_177 : decode b_Va_putSealed 177 = .ok (.iconst 0, 1) := by decide +kernel
theorem d_Va_putSealed_178 : decode b_Va_putSealed 178 = .ok (.bipush 12, 2) := by decide +kernel
theorem d_Va_putSealed_180 : decode b_Va_putSealed 180 = .ok (.invokevirtual 138, 3) := by decide +kernel
theorem d_Va_putSealed_183 : decode b_Va_putSealed 183 = .ok (.aload_n 1, 1) := by decide +kernel
theorem d_Va_putSealed_184 : decode b_Va_putSealed 184 = .ok (.iload 7, 2) := by decide +kernel
theorem d_Va_putSealed_186 : decode b_Va_putSealed 186 = .ok (.invokevirtual 193, 3) := by decide +kernel
theorem d_Va_putSealed_189 : decode b_Va_putSealed 189 = .ok (.aload_n 1, 1) := by decide +kernel
theorem d_Va_putSealed_190 : decode b_Va_putSealed 190 = .ok (.iload 6, 2) := by decide +kernel
theorem d_Va_putSealed_192 : decode b_Va_putSealed 192 = .ok (.invokevirtual 193, 3) := by decide +kernel
theorem d_Va_putSealed_195 : decode b_Va_putSealed 195 = .ok (.aload_n 1, 1) := by decide +kernel
theorem d_Va_putSealed_196 : decode b_Va_putSealed 196 = .ok (.iload 5, 2) := by decide +kernel
theorem d_Va_putSealed_198 : decode b_Va_putSealed 198 = .ok (.invokevirtual 193, 3) := by decide +kernel
theorem d_Va_putSealed_201 : decode b_Va_putSealed 201 = .ok (.return_, 1) := by decide +kernel
abbrev b_Va_opens : ByteArray := prog_12_method_15_code
def y_Va_opens : MethodName := ⟨R_Va, "opens", "(LRealmHouse$Bytes;I[BILRealmHouse$Bytes;)Z"⟩
abbrev k_Va_opens : Cond := .code y_Va_opens b_Va_opens 9 (some .boolean)
theorem ki_Va_opens : k_Va_opens ∈ lw_tg := in_t 1002 (by decide +kernel)
theorem ks_Va_opens : Cond.instanceMethod y_Va_opens ∈ lw_tg := in_t 1000 (by decide +kernel)
theorem kx_Va_opens : Cond.selects R_Va y_Va_opens y_Va_opens ∈ lw_tg := in_t 1001 (by decide +kernel)
theorem kl_Ga_Va_opens : Cond.methodLink R_Ga 102 y_Va_opens ∈ lw_tg := in_t 999 (by decide +kernel)
theorem kl_Ce_Va_opens : Cond.methodLink R_Ce 172 y_Va_opens ∈ lw_tg := in_t 1141 (by decide +kernel)
theorem kl_Ag_Va_opens : Cond.methodLink R_Ag 267 y_Va_opens ∈ lw_tg := in_t 1496 (by decide +kernel)
theorem kl_So_Va_opens : Cond.methodLink R_So 182 y_Va_opens ∈ lw_tg := in_t 1665 (by decide +kernel)
theorem hd_Va_opens : y_Va_opens.cls = R_Va ∧ y_Va_opens.cls ≠ "java/lang/invoke/MethodHandle" ∧ y_Va_opens.cls ≠ "java/lang/invoke/VarHandle" ∧ (parseMethodDescriptor y_Va_opens.desc).map (fun d => d.parameters.length) = some 5 := by decide +kernel
theorem d_Va_opens_0 : decode b_Va_opens 0 = .ok (.aload_n 1, 1) := by decide +kernel
theorem d_Va_opens_1 : decode b_Va_opens 1 = .ok (.iload_n 2, 1) := by decide +kernel
theorem d_Va_opens_2 : decode b_Va_opens 2 = .ok (.iconst 2, 1) := by decide +kernel
theorem d_Va_opens_3 : decode b_Va_opens 3 = .ok (.invokevirtual 61, 3) := by decide +kernel
theorem d_Va_opens_6 : decode b_Va_opens 6 = .ok (.istore 6, 2) := by decide +kernel
theorem d_Va_opens_8 : decode b_Va_opens 8 = .ok (.aload_n 1, 1) := by decide +kernel
theorem d_Va_opens_9 : decode b_Va_opens 9 = .ok (.iload 6, 2) := by decide +kernel
theorem d_Va_opens_11 : decode b_Va_opens 11 = .ok (.invokevirtual 71, 3) := by decide +kernel
theorem d_Va_opens_14 : decode b_Va_opens 14 = .ok (.istore 7, 2) := by decide +kernel
theorem d_Va_opens_16 : decode b_Va_opens 16 = .ok (.aload_n 1, 1) := by decide +kernel
theorem d_Va_opens_17 : decode b_Va_opens 17 = .ok (.iload 6, 2) := by decide +kernel
theorem d_Va_opens_19 : decode b_Va_opens 19 = .ok (.aload_n 1, 1) := by decide +kernel
theorem d_Va_opens_20 : decode b_Va_opens 20 = .ok (.getfield 77, 3) := by decide +kernel
theorem d_Va_opens_23 : decode b_Va_opens 23 = .ok (.invokevirtual 80, 3) := by decide +kernel
theorem d_Va_opens_26 : decode b_Va_opens 26 = .ok (.iload 7, 2) := by decide +kernel
theorem d_Va_opens_28 : decode b_Va_opens 28 = .ok (.isub, 1) := by decide +kernel
theorem d_Va_opens_29 : decode b_Va_opens 29 = .ok (.bipush 12, 2) := by decide +kernel
theorem d_Va_opens_31 : decode b_Va_opens 31 = .ok (.isub, 1) := by decide +kernel
theorem d_Va_opens_32 : decode b_Va_opens 32 = .ok (.istore 8, 2) := by decide +kernel
theorem d_Va_opens_34 : decode b_Va_opens 34 = .ok (.iload 6, 2) := by decide +kernel
theorem d_Va_opens_36 : decode b_Va_opens 36 = .ok (.ifCond .lt 34, 3) := by decide +kernel
theorem d_Va_opens_39 : decode b_Va_opens 39 = .ok (.iload 8, 2) := by decide +kernel
theorem d_Va_opens_41 : decode b_Va_opens 41 = .ok (.bipush 16, 2) := by decide +kernel
theorem d_Va_opens_43 : decode b_Va_opens 43 = .ok (.if_icmp .lt 27, 3) := by decide +kernel
theorem d_Va_opens_46 : decode b_Va_opens 46 = .ok (.aload_n 3, 1) := by decide +kernel
theorem d_Va_opens_47 : decode b_Va_opens 47 = .ok (.arraylength, 1) := by decide +kernel
theorem d_Va_opens_48 : decode b_Va_opens 48 = .ok (.ifCond .eq 22, 3) := by decide +kernel
theorem d_Va_opens_51 : decode b_Va_opens 51 = .ok (.aload_n 1, 1) := by decide +kernel
theorem d_Va_opens_52 : decode b_Va_opens 52 = .ok (.aload_n 1, 1) := by decide +kernel
theorem d_Va_opens_53 : decode b_Va_opens 53 = .ok (.iload_n 2, 1) := by decide +kernel
theorem d_Va_opens_54 : decode b_Va_opens 54 = .ok (.iconst 0, 1) := by decide +kernel
theorem d_Va_opens_55 : decode b_Va_opens 55 = .ok (.invokevirtual 61, 3) := by decide +kernel
theorem d_Va_opens_58 : decode b_Va_opens 58 = .ok (.invokevirtual 65, 3) := by decide +kernel
theorem d_Va_opens_61 : decode b_Va_opens 61 = .ok (.aload_n 3, 1) := by decide +kernel
theorem d_Va_opens_62 : decode b_Va_opens 62 = .ok (.invokestatic 169, 3) := by decide +kernel
theorem d_Va_opens_65 : decode b_Va_opens 65 = .ok (.i2l, 1) := by decide +kernel
theorem d_Va_opens_66 : decode b_Va_opens 66 = .ok (.lcmp, 1) := by decide +kernel
theorem d_Va_opens_67 : decode b_Va_opens 67 = .ok (.ifCond .eq 5, 3) := by decide +kernel
theorem d_Va_opens_70 : decode b_Va_opens 70 = .ok (.iconst 0, 1) := by decide +kernel
theorem d_Va_opens_71 : decode b_Va_opens 71 = .ok (.ireturn, 1) := by decide +kernel
theorem d_Va_opens_72 : decode b_Va_opens 72 = .ok (.aload 5, 2) := by decide +kernel
theorem d_Va_opens_74 : decode b_Va_opens 74 = .ok (.invokevirtual 106, 3) := by decide +kernel
theorem d_Va_opens_77 : decode b_Va_opens 77 = .ok (.aload 5, 2) := by decide +kernel
theorem d_Va_opens_79 : decode b_Va_opens 79 = .ok (.aload_n 1, 1) := by decide +kernel
theorem d_Va_opens_80 : decode b_Va_opens 80 = .ok (.getfield 86, 3) := by decide +kernel
theorem d_Va_opens_83 : decode b_Va_opens 83 = .ok (.iload 7, 2) := by decide +kernel
theorem d_Va_opens_85 : decode b_Va_opens 85 = .ok (.iload 8, 2) := by decide +kernel
theorem d_Va_opens_87 : decode b_Va_opens 87 = .ok (.invokevirtual 138, 3) := by decide +kernel
theorem d_Va_opens_90 : decode b_Va_opens 90 = .ok (.aload_n 0, 1) := by decide +kernel
theorem d_Va_opens_91 : decode b_Va_opens 91 = .ok (.aload_n 3, 1) := by decide +kernel
theorem d_Va_opens_92 : decode b_Va_opens 92 = .ok (.iload 4, 2) := by decide +kernel
theorem d_Va_opens_94 : decode b_Va_opens 94 = .ok (.sipush 170, 3) := by decide +kernel
theorem d_Va_opens_97 : decode b_Va_opens 97 = .ok (.invokevirtual 183, 3) := by decide +kernel
theorem d_Va_opens_100 : decode b_Va_opens 100 = .ok (.aload_n 0, 1) := by decide +kernel
theorem d_Va_opens_101 : decode b_Va_opens 101 = .ok (.getfield 38, 3) := by decide +kernel
theorem d_Va_opens_104 : decode b_Va_opens 104 = .ok (.aload_n 0, 1) := by decide +kernel
theorem d_Va_opens_105 : decode b_Va_opens 105 = .ok (.getfield 52, 3) := by decide +kernel
theorem d_Va_opens_108 : decode b_Va_opens 108 = .ok (.aload_n 3, 1) := by decide +kernel
theorem d_Va_opens_109 : decode b_Va_opens 109 = .ok (.arraylength, 1) := by decide +kernel
theorem d_Va_opens_110 : decode b_Va_opens 110 = .ok (.invokevirtual 148, 3) := by decide +kernel
theorem d_Va_opens_113 : decode b_Va_opens 113 = .ok (.aload_n 0, 1) := by decide +kernel
theorem d_Va_opens_114 : decode b_Va_opens 114 = .ok (.getfield 38, 3) := by decide +kernel
theorem d_Va_opens_117 : decode b_Va_opens 117 = .ok (.aload 5, 2) := by decide +kernel
theorem d_Va_opens_119 : decode b_Va_opens 119 = .ok (.getfield 86, 3) := by decide +kernel
theorem d_Va_opens_122 : decode b_Va_opens 122 = .ok (.iconst 0, 1) := by decide +kernel
theorem d_Va_opens_123 : decode b_Va_opens 123 = .ok (.aload 5, 2) := by decide +kernel
theorem d_Va_opens_125 : decode b_Va_opens 125 = .ok (.getfield 77, 3) := by decide +kernel
theorem d_Va_opens_128 : decode b_Va_opens 128 = .ok (.invokevirtual 196, 3) := by decide +kernel
theorem d_Va_opens_131 : decode b_Va_opens 131 = .ok (.aload_n 0, 1) := by decide +kernel
theorem d_Va_opens_132 : decode b_Va_opens 132 = .ok (.aload_n 3, 1) := by decide +kernel
theorem d_Va_opens_133 : decode b_Va_opens 133 = .ok (.iload 4, 2) := by decide +kernel
theorem d_Va_opens_135 : decode b_Va_opens 135 = .ok (.bipush 85, 2) := by decide +kernel
theorem d_Va_opens_137 : decode b_Va_opens 137 = .ok (.invokevirtual 183, 3) := by decide +kernel
theorem d_Va_opens_140 : decode b_Va_opens 140 = .ok (.aload_n 0, 1) := by decide +kernel
theorem d_Va_opens_141 : decode b_Va_opens 141 = .ok (.getfield 31, 3) := by decide +kernel
theorem d_Va_opens_144 : decode b_Va_opens 144 = .ok (.aload_n 0, 1) := by decide +kernel
theorem d_Va_opens_145 : decode b_Va_opens 145 = .ok (.getfield 52, 3) := by decide +kernel
theorem d_Va_opens_148 : decode b_Va_opens 148 = .ok (.iconst 0, 1) := by decide +kernel
theorem d_Va_opens_149 : decode b_Va_opens 149 = .ok (.aload_n 3, 1) := by decide +kernel
theorem d_Va_opens_150 : decode b_Va_opens 150 = .ok (.arraylength, 1) := by decide +kernel
theorem d_Va_opens_151 : decode b_Va_opens 151 = .ok (.invokevirtual 112, 3) := by decide +kernel
theorem d_Va_opens_154 : decode b_Va_opens 154 = .ok (.aload_n 0, 1) := by decide +kernel
theorem d_Va_opens_155 : decode b_Va_opens 155 = .ok (.aload 5, 2) := by decide +kernel
theorem d_Va_opens_157 : decode b_Va_opens 157 = .ok (.iconst 0, 1) := by decide +kernel
theorem d_Va_opens_158 : decode b_Va_opens 158 = .ok (.aload 5, 2) := by decide +kernel
theorem d_Va_opens_160 : decode b_Va_opens 160 = .ok (.getfield 77, 3) := by decide +kernel
theorem d_Va_opens_163 : decode b_Va_opens 163 = .ok (.invokevirtual 186, 3) := by decide +kernel
theorem d_Va_opens_166 : decode b_Va_opens 166 = .ok (.aload 5, 2) := by decide +kernel
theorem d_Va_opens_168 : decode b_Va_opens 168 = .ok (.bipush 16, 2) := by decide +kernel
theorem d_Va_opens_170 : decode b_Va_opens 170 = .ok (.invokevirtual 199, 3) := by decide +kernel
theorem d_Va_opens_173 : decode b_Va_opens 173 = .ok (.aload_n 0, 1) := by decide +kernel
theorem d_Va_opens_174 : decode b_Va_opens 174 = .ok (.aload_n 1, 1) := by decide +kernel
theorem d_Va_opens_175 : decode b_Va_opens 175 = .ok (.iload 7, 2) := by decide +kernel
theorem d_Va_opens_177 : decode b_Va_opens 177 = .ok (.iload 8, 2) := by decide +kernel
theorem d_Va_opens_179 : decode b_Va_opens 179 = .ok (.iadd, 1) := by decide +kernel
theorem d_Va_opens_180 : decode b_Va_opens 180 = .ok (.invokevirtual 202, 3) := by decide +kernel
theorem d_Va_opens_183 : decode b_Va_opens 183 = .ok (.ireturn, 1) := by decide +kernel
abbrev b_Va_sum : ByteArray := prog_12_method_16_code
def y_Va_sum : MethodName := ⟨R_Va, "sum", "([BILRealmHouse$Bytes;II)V"⟩
abbrev k_Va_sum : Cond := .code y_Va_sum b_Va_sum 6 none
theorem ki_Va_sum : k_Va_sum ∈ lw_tg := in_t 1204 (by decide +kernel)
theorem ks_Va_sum : Cond.instanceMethod y_Va_sum ∈ lw_tg := in_t 1202 (by decide +kernel)
theorem kx_Va_sum : Cond.selects R_Va y_Va_sum y_Va_sum ∈ lw_tg := in_t 1203 (by decide +kernel)
theorem kl_Ce_Va_sum : Cond.methodLink R_Ce 192 y_Va_sum ∈ lw_tg := in_t 1201 (by decide +kernel)
theorem kl_Ag_Va_sum : Cond.methodLink R_Ag 214 y_Va_sum ∈ lw_tg := in_t 1462 (by decide +kernel)
theorem kl_So_Va_sum : Cond.methodLink R_So 160 y_Va_sum ∈ lw_tg := in_t 1691 (by decide +kernel)
theorem hd_Va_sum : y_Va_sum.cls = R_Va ∧ y_Va_sum.cls ≠ "java/lang/invoke/MethodHandle" ∧ y_Va_sum.cls ≠ "java/lang/invoke/VarHandle" ∧ (parseMethodDescriptor y_Va_sum.desc).map (fun d => d.parameters.length) = some 5 := by decide +kernel
theorem d_Va_sum_0 : decode b_Va_sum 0 = .ok (.aload_n 0, 1) := by decide +kernel
theorem d_Va_sum_1 : decode b_Va_sum 1 = .ok (.aload_n 1, 1) := by decide +kernel
theorem d_Va_sum_2 : decode b_Va_sum 2 = .ok (.iload_n 2, 1) := by decide +kernel
theorem d_Va_sum_3 : decode b_Va_sum 3 = .ok (.sipush 153, 3) := by decide +kernel
theorem d_Va_sum_6 : decode b_Va_sum 6 = .ok (.invokevirtual 183, 3) := by decide +kernel
theorem d_Va_sum_9 : decode b_Va_sum 9 = .ok (.aload_n 0, 1) := by decide +kernel
theorem d_Va_sum_10 : decode b_Va_sum 10 = .ok (.getfield 31, 3) := by decide +kernel
theorem d_Va_sum_13 : decode b_Va_sum 13 = .ok (.aload_n 0, 1) := by decide +kernel
theorem d_Va_sum_14 : decode b_Va_sum 14 = .ok (.getfield 52, 3) := by decide +kernel
theorem d_Va_sum_17 : decode b_Va_sum 17 = .ok (.iconst 0, 1) := by decide +kernel
theorem d_Va_sum_18 : decode b_Va_sum 18 = .ok (.aload_n 1, 1) := by decide +kernel
theorem d_Va_sum_19 : decode b_Va_sum 19 = .ok (.arraylength, 1) := by decide +kernel
theorem d_Va_sum_20 : decode b_Va_sum 20 = .ok (.invokevirtual 112, 3) := by decide +kernel
theorem d_Va_sum_23 : decode b_Va_sum 23 = .ok (.aload_n 0, 1) := by decide +kernel
theorem d_Va_sum_24 : decode b_Va_sum 24 = .ok (.aload_n 3, 1) := by decide +kernel
theorem d_Va_sum_25 : decode b_Va_sum 25 = .ok (.iload 4, 2) := by decide +kernel
theorem d_Va_sum_27 : decode b_Va_sum 27 = .ok (.iload 5, 2) := by decide +kernel
theorem d_Va_sum_29 : decode b_Va_sum 29 = .ok (.invokevirtual 186, 3) := by decide +kernel
theorem d_Va_sum_32 : decode b_Va_sum 32 = .ok (.return_, 1) := by decide +kernel
abbrev b_Va_putSum : ByteArray := prog_12_method_17_code
def y_Va_putSum : MethodName := ⟨R_Va, "putSum", "(LRealmHouse$Bytes;[B)V"⟩
abbrev k_Va_putSum : Cond := .code y_Va_putSum b_Va_putSum 3 none
theorem ki_Va_putSum : k_Va_putSum ∈ lw_tg := in_t 1466 (by decide +kernel)
theorem ks_Va_putSum : Cond.instanceMethod y_Va_putSum ∈ lw_tg := in_t 1464 (by decide +kernel)
theorem kx_Va_putSum : Cond.selects R_Va y_Va_putSum y_Va_putSum ∈ lw_tg := in_t 1465 (by decide +kernel)
theorem kl_Ag_Va_putSum : Cond.methodLink R_Ag 218 y_Va_putSum ∈ lw_tg := in_t 1463 (by decide +kernel)
theorem kl_So_Va_putSum : Cond.methodLink R_So 170 y_Va_putSum ∈ lw_tg := in_t 1694 (by decide +kernel)
theorem hd_Va_putSum : y_Va_putSum.cls = R_Va ∧ y_Va_putSum.cls ≠ "java/lang/invoke/MethodHandle" ∧ y_Va_putSum.cls ≠ "java/lang/invoke/VarHandle" ∧ (parseMethodDescriptor y_Va_putSum.desc).map (fun d => d.parameters.length) = some 2 := by decide +kernel
theorem d_Va_putSum_0 : decode b_Va_putSum 0 = .ok (.aload_n 1, 1) := by decide +kernel
theorem d_Va_putSum_1 : decode b_Va_putSum 1 = .ok (.iconst 3, 1) := by decide +kernel
theorem d_Va_putSum_2 : decode b_Va_putSum 2 = .ok (.aload_n 2, 1) := by decide +kernel
theorem d_Va_putSum_3 : decode b_Va_putSum 3 = .ok (.invokestatic 169, 3) := by decide +kernel
theorem d_Va_putSum_6 : decode b_Va_putSum 6 = .ok (.iconst 2, 1) := by decide +kernel
theorem d_Va_putSum_7 : decode b_Va_putSum 7 = .ok (.isub, 1) := by decide +kernel
theorem d_Va_putSum_8 : decode b_Va_putSum 8 = .ok (.aload_n 0, 1) := by decide +kernel
theorem d_Va_putSum_9 : decode b_Va_putSum 9 = .ok (.getfield 31, 3) := by decide +kernel
theorem d_Va_putSum_12 : decode b_Va_putSum 12 = .ok (.getfield 125, 3) := by decide +kernel
theorem d_Va_putSum_15 : decode b_Va_putSum 15 = .ok (.bipush 12, 2) := by decide +kernel
theorem d_Va_putSum_17 : decode b_Va_putSum 17 = .ok (.invokevirtual 206, 3) := by decide +kernel
theorem d_Va_putSum_20 : decode b_Va_putSum 20 = .ok (.return_, 1) := by decide +kernel
abbrev b_Va_isSumFor : ByteArray := prog_12_method_18_code
def y_Va_isSumFor : MethodName := ⟨R_Va, "isSumFor", "([BLRealmHouse$Bytes;I)Z"⟩
abbrev k_Va_isSumFor : Cond := .code y_Va_isSumFor b_Va_isSumFor 3 (some .boolean)
theorem ki_Va_isSumFor : k_Va_isSumFor ∈ lw_tg := in_t 1200 (by decide +kernel)
theorem ks_Va_isSumFor : Cond.static y_Va_isSumFor ∈ lw_tg := in_t 1199 (by decide +kernel)
theorem kl_Ce_Va_isSumFor : Cond.methodLink R_Ce 188 y_Va_isSumFor ∈ lw_tg := in_t 1198 (by decide +kernel)
theorem kl_So_Va_isSumFor : Cond.methodLink R_So 193 y_Va_isSumFor ∈ lw_tg := in_t 1703 (by decide +kernel)
theorem hd_Va_isSumFor : y_Va_isSumFor.cls = R_Va ∧ y_Va_isSumFor.cls ≠ "java/lang/invoke/MethodHandle" ∧ y_Va_isSumFor.cls ≠ "java/lang/invoke/VarHandle" ∧ (parseMethodDescriptor y_Va_isSumFor.desc).map (fun d => d.parameters.length) = some 3 := by decide +kernel
theorem d_Va_isSumFor_0 : decode b_Va_isSumFor 0 = .ok (.aload_n 1, 1) := by decide +kernel
theorem d_Va_isSumFor_1 : decode b_Va_isSumFor 1 = .ok (.aload_n 1, 1) := by decide +kernel
theorem d_Va_isSumFor_2 : decode b_Va_isSumFor 2 = .ok (.iload_n 2, 1) := by decide +kernel
theorem d_Va_isSumFor_3 : decode b_Va_isSumFor 3 = .ok (.iconst 0, 1) := by decide +kernel
theorem d_Va_isSumFor_4 : decode b_Va_isSumFor 4 = .ok (.invokevirtual 61, 3) := by decide +kernel
theorem d_Va_isSumFor_7 : decode b_Va_isSumFor 7 = .ok (.invokevirtual 65, 3) := by decide +kernel
theorem d_Va_isSumFor_10 : decode b_Va_isSumFor 10 = .ok (.aload_n 0, 1) := by decide +kernel
theorem d_Va_isSumFor_11 : decode b_Va_isSumFor 11 = .ok (.invokestatic 169, 3) := by decide +kernel
theorem d_Va_isSumFor_14 : decode b_Va_isSumFor 14 = .ok (.iconst 2, 1) := by decide +kernel
theorem d_Va_isSumFor_15 : decode b_Va_isSumFor 15 = .ok (.isub, 1) := by decide +kernel
theorem d_Va_isSumFor_16 : decode b_Va_isSumFor 16 = .ok (.i2l, 1) := by decide +kernel
theorem d_Va_isSumFor_17 : decode b_Va_isSumFor 17 = .ok (.lcmp, 1) := by decide +kernel
theorem d_Va_isSumFor_18 : decode b_Va_isSumFor 18 = .ok (.ifCond .ne 7, 3) := by decide +kernel
theorem d_Va_isSumFor_21 : decode b_Va_isSumFor 21 = .ok (.iconst 1, 1) := by decide +kernel
theorem d_Va_isSumFor_22 : decode b_Va_isSumFor 22 = .ok (.goto 4, 3) := by decide +kernel
theorem d_Va_isSumFor_25 : decode b_Va_isSumFor 25 = .ok (.iconst 0, 1) := by decide +kernel
theorem d_Va_isSumFor_26 : decode b_Va_isSumFor 26 = .ok (.ireturn, 1) := by decide +kernel
abbrev b_Va_isSum : ByteArray := prog_12_method_19_code
def y_Va_isSum : MethodName := ⟨R_Va, "isSum", "(LRealmHouse$Bytes;I)Z"⟩
abbrev k_Va_isSum : Cond := .code y_Va_isSum b_Va_isSum 5 (some .boolean)
theorem ki_Va_isSum : k_Va_isSum ∈ lw_tg := in_t 1208 (by decide +kernel)
theorem ks_Va_isSum : Cond.instanceMethod y_Va_isSum ∈ lw_tg := in_t 1206 (by decide +kernel)
theorem kx_Va_isSum : Cond.selects R_Va y_Va_isSum y_Va_isSum ∈ lw_tg := in_t 1207 (by decide +kernel)
theorem kl_Ce_Va_isSum : Cond.methodLink R_Ce 196 y_Va_isSum ∈ lw_tg := in_t 1205 (by decide +kernel)
theorem kl_So_Va_isSum : Cond.methodLink R_So 200 y_Va_isSum ∈ lw_tg := in_t 1704 (by decide +kernel)
theorem hd_Va_isSum : y_Va_isSum.cls = R_Va ∧ y_Va_isSum.cls ≠ "java/lang/invoke/MethodHandle" ∧ y_Va_isSum.cls ≠ "java/lang/invoke/VarHandle" ∧ (parseMethodDescriptor y_Va_isSum.desc).map (fun d => d.parameters.length) = some 2 := by decide +kernel
theorem d_Va_isSum_0 : decode b_Va_isSum 0 = .ok (.aload_n 1, 1) := by decide +kernel
theorem d_Va_isSum_1 : decode b_Va_isSum 1 = .ok (.iload_n 2, 1) := by decide +kernel
theorem d_Va_isSum_2 : decode b_Va_isSum 2 = .ok (.iconst 1, 1) := by decide +kernel
theorem d_Va_isSum_3 : decode b_Va_isSum 3 = .ok (.invokevirtual 61, 3) := by decide +kernel
theorem d_Va_isSum_6 : decode b_Va_isSum 6 = .ok (.istore_n 3, 1) := by decide +kernel
theorem d_Va_isSum_7 : decode b_Va_isSum 7 = .ok (.aload_n 1, 1) := by decide +kernel
theorem d_Va_isSum_8 : decode b_Va_isSum 8 = .ok (.iload_n 3, 1) := by decide +kernel
theorem d_Va_isSum_9 : decode b_Va_isSum 9 = .ok (.invokevirtual 71, 3) := by decide +kernel
theorem d_Va_isSum_12 : decode b_Va_isSum 12 = .ok (.istore 4, 2) := by decide +kernel
theorem d_Va_isSum_14 : decode b_Va_isSum 14 = .ok (.iload_n 3, 1) := by decide +kernel
theorem d_Va_isSum_15 : decode b_Va_isSum 15 = .ok (.ifCond .lt 34, 3) := by decide +kernel
theorem d_Va_isSum_18 : decode b_Va_isSum 18 = .ok (.aload_n 1, 1) := by decide +kernel
theorem d_Va_isSum_19 : decode b_Va_isSum 19 = .ok (.iload_n 3, 1) := by decide +kernel
theorem d_Va_isSum_20 : decode b_Va_isSum 20 = .ok (.aload_n 1, 1) := by decide +kernel
theorem d_Va_isSum_21 : decode b_Va_isSum 21 = .ok (.getfield 77, 3) := by decide +kernel
theorem d_Va_isSum_24 : decode b_Va_isSum 24 = .ok (.invokevirtual 80, 3) := by decide +kernel
theorem d_Va_isSum_27 : decode b_Va_isSum 27 = .ok (.iload 4, 2) := by decide +kernel
theorem d_Va_isSum_29 : decode b_Va_isSum 29 = .ok (.isub, 1) := by decide +kernel
theorem d_Va_isSum_30 : decode b_Va_isSum 30 = .ok (.bipush 12, 2) := by decide +kernel
theorem d_Va_isSum_32 : decode b_Va_isSum 32 = .ok (.if_icmp .ne 17, 3) := by decide +kernel
theorem d_Va_isSum_35 : decode b_Va_isSum 35 = .ok (.aload_n 0, 1) := by decide +kernel
theorem d_Va_isSum_36 : decode b_Va_isSum 36 = .ok (.aload_n 1, 1) := by decide +kernel
theorem d_Va_isSum_37 : decode b_Va_isSum 37 = .ok (.iload 4, 2) := by decide +kernel
theorem d_Va_isSum_39 : decode b_Va_isSum 39 = .ok (.invokevirtual 202, 3) := by decide +kernel
theorem d_Va_isSum_42 : decode b_Va_isSum 42 = .ok (.ifCond .eq 7, 3) := by decide +kernel
theorem d_Va_isSum_45 : decode b_Va_isSum 45 = .ok (.iconst 1, 1) := by decide +kernel
theorem d_Va_isSum_46 : decode b_Va_isSum 46 = .ok (.goto 4, 3) := by decide +kernel
theorem d_Va_isSum_49 : decode b_Va_isSum 49 = .ok (.iconst 0, 1) := by decide +kernel
theorem d_Va_isSum_50 : decode b_Va_isSum 50 = .ok (.ireturn, 1) := by decide +kernel
abbrev b_Va_digest : ByteArray := prog_12_method_20_code
def y_Va_digest : MethodName := ⟨R_Va, "digest", "(LRealmHouse$Bytes;II)V"⟩
abbrev k_Va_digest : Cond := .code y_Va_digest b_Va_digest 4 none
theorem ki_Va_digest : k_Va_digest ∈ lw_tg := in_t 1037 (by decide +kernel)
theorem ks_Va_digest : Cond.instanceMethod y_Va_digest ∈ lw_tg := in_t 1036 (by decide +kernel)
theorem kx_Va_digest : Cond.selects R_Va y_Va_digest y_Va_digest ∈ lw_tg := List.mem_filter.mpr ⟨List.mem_append_left _ (List.mem_of_getElem? (i := 22) (by decide +kernel)), rfl⟩
theorem kl_Va_Va_digest : Cond.methodLink R_Va 186 y_Va_digest ∈ lw_tg := in_t 1034 (by decide +kernel)
theorem hd_Va_digest : y_Va_digest.cls = R_Va ∧ y_Va_digest.cls ≠ "java/lang/invoke/MethodHandle" ∧ y_Va_digest.cls ≠ "java/lang/invoke/VarHandle" ∧ (parseMethodDescriptor y_Va_digest.desc).map (fun d => d.parameters.length) = some 3 := by decide +kernel
theorem d_Va_digest_0 : decode b_Va_digest 0 = .ok (.aload_n 0, 1) := by decide +kernel
theorem d_Va_digest_1 : decode b_Va_digest 1 = .ok (.getfield 31, 3) := by decide +kernel
theorem d_Va_digest_4 : decode b_Va_digest 4 = .ok (.invokevirtual 116, 3) := by decide +kernel
theorem d_Va_digest_7 : decode b_Va_digest 7 = .ok (.aload_n 0, 1) := by decide +kernel
theorem d_Va_digest_8 : decode b_Va_digest 8 = .ok (.getfield 31, 3) := by decide +kernel
theorem d_Va_digest_11 : decode b_Va_digest 11 = .ok (.aload_n 1, 1) := by decide +kernel
theorem d_Va_digest_12 : decode b_Va_digest 12 = .ok (.getfield 86, 3) := by decide +kernel
theorem d_Va_digest_15 : decode b_Va_digest 15 = .ok (.iload_n 2, 1) := by decide +kernel
theorem d_Va_digest_16 : decode b_Va_digest 16 = .ok (.iload_n 3, 1) := by decide +kernel
theorem d_Va_digest_17 : decode b_Va_digest 17 = .ok (.iload_n 2, 1) := by decide +kernel
theorem d_Va_digest_18 : decode b_Va_digest 18 = .ok (.isub, 1) := by decide +kernel
theorem d_Va_digest_19 : decode b_Va_digest 19 = .ok (.invokevirtual 119, 3) := by decide +kernel
theorem d_Va_digest_22 : decode b_Va_digest 22 = .ok (.aload_n 0, 1) := by decide +kernel
theorem d_Va_digest_23 : decode b_Va_digest 23 = .ok (.getfield 31, 3) := by decide +kernel
theorem d_Va_digest_26 : decode b_Va_digest 26 = .ok (.invokevirtual 122, 3) := by decide +kernel
theorem d_Va_digest_29 : decode b_Va_digest 29 = .ok (.return_, 1) := by decide +kernel
abbrev b_Va_isMac : ByteArray := prog_12_method_21_code
def y_Va_isMac : MethodName := ⟨R_Va, "isMac", "(LRealmHouse$Bytes;I)Z"⟩
abbrev k_Va_isMac : Cond := .code y_Va_isMac b_Va_isMac 4 (some .boolean)
theorem ki_Va_isMac : k_Va_isMac ∈ lw_tg := in_t 1045 (by decide +kernel)
theorem ks_Va_isMac : Cond.instanceMethod y_Va_isMac ∈ lw_tg := in_t 1044 (by decide +kernel)
theorem kx_Va_isMac : Cond.selects R_Va y_Va_isMac y_Va_isMac ∈ lw_tg := List.mem_filter.mpr ⟨List.mem_append_left _ (List.mem_of_getElem? (i := 23) (by decide +kernel)), rfl⟩
theorem kl_Va_Va_isMac : Cond.methodLink R_Va 202 y_Va_isMac ∈ lw_tg := in_t 1042 (by decide +kernel)
theorem hd_Va_isMac : y_Va_isMac.cls = R_Va ∧ y_Va_isMac.cls ≠ "java/lang/invoke/MethodHandle" ∧ y_Va_isMac.cls ≠ "java/lang/invoke/VarHandle" ∧ (parseMethodDescriptor y_Va_isMac.desc).map (fun d => d.parameters.length) = some 2 := by decide +kernel
theorem d_Va_isMac_0 : decode b_Va_isMac 0 = .ok (.iconst 0, 1) := by decide +kernel
theorem d_Va_isMac_1 : decode b_Va_isMac 1 = .ok (.istore_n 3, 1) := by decide +kernel
theorem d_Va_isMac_2 : decode b_Va_isMac 2 = .ok (.iload_n 3, 1) := by decide +kernel
theorem d_Va_isMac_3 : decode b_Va_isMac 3 = .ok (.bipush 12, 2) := by decide +kernel
theorem d_Va_isMac_5 : decode b_Va_isMac 5 = .ok (.if_icmp .ge 34, 3) := by decide +kernel
theorem d_Va_isMac_8 : decode b_Va_isMac 8 = .ok (.aload_n 1, 1) := by decide +kernel
theorem d_Va_isMac_9 : decode b_Va_isMac 9 = .ok (.iload_n 2, 1) := by decide +kernel
theorem d_Va_isMac_10 : decode b_Va_isMac 10 = .ok (.iload_n 3, 1) := by decide +kernel
theorem d_Va_isMac_11 : decode b_Va_isMac 11 = .ok (.iadd, 1) := by decide +kernel
theorem d_Va_isMac_12 : decode b_Va_isMac 12 = .ok (.invokevirtual 210, 3) := by decide +kernel
theorem d_Va_isMac_15 : decode b_Va_isMac 15 = .ok (.aload_n 0, 1) := by decide +kernel
theorem d_Va_isMac_16 : decode b_Va_isMac 16 = .ok (.getfield 31, 3) := by decide +kernel
theorem d_Va_isMac_19 : decode b_Va_isMac 19 = .ok (.getfield 125, 3) := by decide +kernel
theorem d_Va_isMac_22 : decode b_Va_isMac 22 = .ok (.iload_n 3, 1) := by decide +kernel
theorem d_Va_isMac_23 : decode b_Va_isMac 23 = .ok (.baload, 1) := by decide +kernel
theorem d_Va_isMac_24 : decode b_Va_isMac 24 = .ok (.sipush 255, 3) := by decide +kernel
theorem d_Va_isMac_27 : decode b_Va_isMac 27 = .ok (.iand, 1) := by decide +kernel
theorem d_Va_isMac_28 : decode b_Va_isMac 28 = .ok (.if_icmp .eq 5, 3) := by decide +kernel
theorem d_Va_isMac_31 : decode b_Va_isMac 31 = .ok (.iconst 0, 1) := by decide +kernel
theorem d_Va_isMac_32 : decode b_Va_isMac 32 = .ok (.ireturn, 1) := by decide +kernel
theorem d_Va_isMac_33 : decode b_Va_isMac 33 = .ok (.iinc 3 1, 3) := by decide +kernel
theorem d_Va_isMac_36 : decode b_Va_isMac 36 = .ok (.goto (-34), 3) := by decide +kernel
theorem d_Va_isMac_39 : decode b_Va_isMac 39 = .ok (.iconst 1, 1) := by decide +kernel
theorem d_Va_isMac_40 : decode b_Va_isMac 40 = .ok (.ireturn, 1) := by decide +kernel
