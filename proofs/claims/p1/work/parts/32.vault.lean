/-! Vault. -/
abbrev b_Ha_init : ByteArray := prog_7_method_1_code
def y_Ha_init : MethodName := ⟨R_Ha, "<init>", "()V"⟩
abbrev k_Ha_init : Cond := .code y_Ha_init b_Ha_init 1 none
theorem ki_Ha_init : k_Ha_init ∈ lw_tg := in_t 68 (by decide +kernel)
theorem ks_Ha_init : Cond.instanceMethod y_Ha_init ∈ lw_tg := in_t 67 (by decide +kernel)
theorem hd_Ha_init : y_Ha_init.cls = R_Ha ∧ y_Ha_init.cls ≠ "java/lang/invoke/MethodHandle" ∧ y_Ha_init.cls ≠ "java/lang/invoke/VarHandle" ∧ (parseMethodDescriptor y_Ha_init.desc).map (fun d => d.parameters.length) = some 0 := by decide +kernel
theorem d_Ha_init_0 : decode b_Ha_init 0 = .ok (.aload_n 0, 1) := by decide +kernel
theorem d_Ha_init_1 : decode b_Ha_init 1 = .ok (.invokespecial 1, 3) := by decide +kernel
theorem d_Ha_init_4 : decode b_Ha_init 4 = .ok (.aload_n 0, 1) := by decide +kernel
theorem d_Ha_init_5 : decode b_Ha_init 5 = .ok (.bipush 80, 2) := by decide +kernel
theorem d_Ha_init_7 : decode b_Ha_init 7 = .ok (.newarray .int, 2) := by decide +kernel
theorem d_Ha_init_9 : decode b_Ha_init 9 = .ok (.putfield 7, 3) := by decide +kernel
theorem d_Ha_init_12 : decode b_Ha_init 12 = .ok (.aload_n 0, 1) := by decide +kernel
theorem d_Ha_init_13 : decode b_Ha_init 13 = .ok (.bipush 64, 2) := by decide +kernel
theorem d_Ha_init_15 : decode b_Ha_init 15 = .ok (.newarray .byte, 2) := by decide +kernel
theorem d_Ha_init_17 : decode b_Ha_init 17 = .ok (.putfield 13, 3) := by decide +kernel
theorem d_Ha_init_20 : decode b_Ha_init 20 = .ok (.aload_n 0, 1) := by decide +kernel
theorem d_Ha_init_21 : decode b_Ha_init 21 = .ok (.iconst 5, 1) := by decide +kernel
theorem d_Ha_init_22 : decode b_Ha_init 22 = .ok (.newarray .int, 2) := by decide +kernel
theorem d_Ha_init_24 : decode b_Ha_init 24 = .ok (.putfield 17, 3) := by decide +kernel
theorem d_Ha_init_27 : decode b_Ha_init 27 = .ok (.aload_n 0, 1) := by decide +kernel
theorem d_Ha_init_28 : decode b_Ha_init 28 = .ok (.iconst 5, 1) := by decide +kernel
theorem d_Ha_init_29 : decode b_Ha_init 29 = .ok (.newarray .int, 2) := by decide +kernel
theorem d_Ha_init_31 : decode b_Ha_init 31 = .ok (.putfield 20, 3) := by decide +kernel
theorem d_Ha_init_34 : decode b_Ha_init 34 = .ok (.aload_n 0, 1) := by decide +kernel
theorem d_Ha_init_35 : decode b_Ha_init 35 = .ok (.iconst 5, 1) := by decide +kernel
theorem d_Ha_init_36 : decode b_Ha_init 36 = .ok (.newarray .int, 2) := by decide +kernel
theorem d_Ha_init_38 : decode b_Ha_init 38 = .ok (.putfield 23, 3) := by decide +kernel
theorem d_Ha_init_41 : decode b_Ha_init 41 = .ok (.aload_n 0, 1) := by decide +kernel
theorem d_Ha_init_42 : decode b_Ha_init 42 = .ok (.bipush 20, 2) := by decide +kernel
theorem d_Ha_init_44 : decode b_Ha_init 44 = .ok (.newarray .byte, 2) := by decide +kernel
theorem d_Ha_init_46 : decode b_Ha_init 46 = .ok (.putfield 26, 3) := by decide +kernel
theorem d_Ha_init_49 : decode b_Ha_init 49 = .ok (.return_, 1) := by decide +kernel
theorem ol_Ha : Cond.methodLink R_Ha 1 Lib.objectInit ∈ lw_tg := in_t 69 (by decide +kernel)
abbrev b_By_body : ByteArray := prog_4_method_32_code
def y_By_body : MethodName := ⟨R_By, "body", "(I)I"⟩
abbrev k_By_body : Cond := .code y_By_body b_By_body 3 (some .int)
theorem ki_By_body : k_By_body ∈ lw_tg := in_t 578 (by decide +kernel)
theorem ks_By_body : Cond.instanceMethod y_By_body ∈ lw_tg := in_t 576 (by decide +kernel)
theorem kx_By_body : Cond.selects R_By y_By_body y_By_body ∈ lw_tg := in_t 577 (by decide +kernel)
theorem kl_Va_By_body : Cond.methodLink R_Va 71 y_By_body ∈ lw_tg := in_t 575 (by decide +kernel)
theorem kl_By_By_body : Cond.methodLink R_By 126 y_By_body ∈ lw_tg := in_t 852 (by decide +kernel)
theorem kl_H_By_body : Cond.methodLink R_H 160 y_By_body ∈ lw_tg := in_t 957 (by decide +kernel)
theorem kl_Ga_By_body : Cond.methodLink R_Ga 133 y_By_body ∈ lw_tg := in_t 1077 (by decide +kernel)
theorem kl_Ce_By_body : Cond.methodLink R_Ce 160 y_By_body ∈ lw_tg := in_t 1138 (by decide +kernel)
theorem kl_Ti_By_body : Cond.methodLink R_Ti 56 y_By_body ∈ lw_tg := in_t 1522 (by decide +kernel)
theorem kl_So_By_body : Cond.methodLink R_So 186 y_By_body ∈ lw_tg := in_t 1666 (by decide +kernel)
theorem hd_By_body : y_By_body.cls = R_By ∧ y_By_body.cls ≠ "java/lang/invoke/MethodHandle" ∧ y_By_body.cls ≠ "java/lang/invoke/VarHandle" ∧ (parseMethodDescriptor y_By_body.desc).map (fun d => d.parameters.length) = some 1 := by decide +kernel
theorem d_By_body_0 : decode b_By_body 0 = .ok (.iload_n 1, 1) := by decide +kernel
theorem d_By_body_1 : decode b_By_body 1 = .ok (.ifCond .lt 13, 3) := by decide +kernel
theorem d_By_body_4 : decode b_By_body 4 = .ok (.iload_n 1, 1) := by decide +kernel
theorem d_By_body_5 : decode b_By_body 5 = .ok (.iconst 1, 1) := by decide +kernel
theorem d_By_body_6 : decode b_By_body 6 = .ok (.iadd, 1) := by decide +kernel
theorem d_By_body_7 : decode b_By_body 7 = .ok (.aload_n 0, 1) := by decide +kernel
theorem d_By_body_8 : decode b_By_body 8 = .ok (.getfield 21, 3) := by decide +kernel
theorem d_By_body_11 : decode b_By_body 11 = .ok (.if_icmp .lt 5, 3) := by decide +kernel
theorem d_By_body_14 : decode b_By_body 14 = .ok (.iconst (-1), 1) := by decide +kernel
theorem d_By_body_15 : decode b_By_body 15 = .ok (.ireturn, 1) := by decide +kernel
theorem d_By_body_16 : decode b_By_body 16 = .ok (.aload_n 0, 1) := by decide +kernel
theorem d_By_body_17 : decode b_By_body 17 = .ok (.getfield 15, 3) := by decide +kernel
theorem d_By_body_20 : decode b_By_body 20 = .ok (.iload_n 1, 1) := by decide +kernel
theorem d_By_body_21 : decode b_By_body 21 = .ok (.iconst 1, 1) := by decide +kernel
theorem d_By_body_22 : decode b_By_body 22 = .ok (.iadd, 1) := by decide +kernel
theorem d_By_body_23 : decode b_By_body 23 = .ok (.baload, 1) := by decide +kernel
theorem d_By_body_24 : decode b_By_body 24 = .ok (.sipush 255, 3) := by decide +kernel
theorem d_By_body_27 : decode b_By_body 27 = .ok (.iand, 1) := by decide +kernel
theorem d_By_body_28 : decode b_By_body 28 = .ok (.istore_n 2, 1) := by decide +kernel
theorem d_By_body_29 : decode b_By_body 29 = .ok (.iload_n 2, 1) := by decide +kernel
theorem d_By_body_30 : decode b_By_body 30 = .ok (.sipush 128, 3) := by decide +kernel
theorem d_By_body_33 : decode b_By_body 33 = .ok (.if_icmp .ge 9, 3) := by decide +kernel
theorem d_By_body_36 : decode b_By_body 36 = .ok (.iload_n 1, 1) := by decide +kernel
theorem d_By_body_37 : decode b_By_body 37 = .ok (.iconst 2, 1) := by decide +kernel
theorem d_By_body_38 : decode b_By_body 38 = .ok (.iadd, 1) := by decide +kernel
theorem d_By_body_39 : decode b_By_body 39 = .ok (.goto 12, 3) := by decide +kernel
theorem d_By_body_42 : decode b_By_body 42 = .ok (.iload_n 1, 1) := by decide +kernel
theorem d_By_body_43 : decode b_By_body 43 = .ok (.iconst 2, 1) := by decide +kernel
theorem d_By_body_44 : decode b_By_body 44 = .ok (.iadd, 1) := by decide +kernel
theorem d_By_body_45 : decode b_By_body 45 = .ok (.iload_n 2, 1) := by decide +kernel
theorem d_By_body_46 : decode b_By_body 46 = .ok (.iadd, 1) := by decide +kernel
theorem d_By_body_47 : decode b_By_body 47 = .ok (.sipush 128, 3) := by decide +kernel
theorem d_By_body_50 : decode b_By_body 50 = .ok (.isub, 1) := by decide +kernel
theorem d_By_body_51 : decode b_By_body 51 = .ok (.ireturn, 1) := by decide +kernel
abbrev b_Va_init : ByteArray := prog_12_method_1_code
def y_Va_init : MethodName := ⟨R_Va, "<init>", "()V"⟩
abbrev k_Va_init : Cond := .code y_Va_init b_Va_init 1 none
theorem ki_Va_init : k_Va_init ∈ lw_tg := in_t 32 (by decide +kernel)
theorem ks_Va_init : Cond.instanceMethod y_Va_init ∈ lw_tg := in_t 31 (by decide +kernel)
theorem hd_Va_init : y_Va_init.cls = R_Va ∧ y_Va_init.cls ≠ "java/lang/invoke/MethodHandle" ∧ y_Va_init.cls ≠ "java/lang/invoke/VarHandle" ∧ (parseMethodDescriptor y_Va_init.desc).map (fun d => d.parameters.length) = some 0 := by decide +kernel
theorem d_Va_init_0 : decode b_Va_init 0 = .ok (.aload_n 0, 1) := by decide +kernel
theorem d_Va_init_1 : decode b_Va_init 1 = .ok (.invokespecial 3, 3) := by decide +kernel
theorem d_Va_init_4 : decode b_Va_init 4 = .ok (.aload_n 0, 1) := by decide +kernel
theorem d_Va_init_5 : decode b_Va_init 5 = .ok (.ldc 9, 2) := by decide +kernel
theorem cn_Va_9 : Cond.constant R_Va 9 (1000000000) ∈ lw_tg := in_t 34 (by decide +kernel)
theorem d_Va_init_7 : decode b_Va_init 7 = .ok (.putfield 10, 3) := by decide +kernel
theorem lk_Va_10 : Cond.fieldLink R_Va 10 R_Va (F_Va 0).2.1 (F_Va 0).2.2.1 ∈ lw_tg := in_t 127 (by decide +kernel)
theorem d_Va_init_10 : decode b_Va_init 10 = .ok (.aload_n 0, 1) := by decide +kernel
theorem d_Va_init_11 : decode b_Va_init 11 = .ok (.new 16, 3) := by decide +kernel
theorem d_Va_init_14 : decode b_Va_init 14 = .ok (.dup, 1) := by decide +kernel
theorem d_Va_init_15 : decode b_Va_init 15 = .ok (.sipush 6144, 3) := by decide +kernel
theorem d_Va_init_18 : decode b_Va_init 18 = .ok (.invokespecial 18, 3) := by decide +kernel
theorem d_Va_init_21 : decode b_Va_init 21 = .ok (.putfield 21, 3) := by decide +kernel
theorem lk_Va_21 : Cond.fieldLink R_Va 21 R_Va (F_Va 1).2.1 (F_Va 1).2.2.1 ∈ lw_tg := in_t 133 (by decide +kernel)
theorem d_Va_init_24 : decode b_Va_init 24 = .ok (.aload_n 0, 1) := by decide +kernel
theorem d_Va_init_25 : decode b_Va_init 25 = .ok (.new 16, 3) := by decide +kernel
theorem d_Va_init_28 : decode b_Va_init 28 = .ok (.dup, 1) := by decide +kernel
theorem d_Va_init_29 : decode b_Va_init 29 = .ok (.sipush 512, 3) := by decide +kernel
theorem d_Va_init_32 : decode b_Va_init 32 = .ok (.invokespecial 18, 3) := by decide +kernel
theorem d_Va_init_35 : decode b_Va_init 35 = .ok (.putfield 25, 3) := by decide +kernel
theorem lk_Va_25 : Cond.fieldLink R_Va 25 R_Va (F_Va 2).2.1 (F_Va 2).2.2.1 ∈ lw_tg := in_t 137 (by decide +kernel)
theorem d_Va_init_38 : decode b_Va_init 38 = .ok (.aload_n 0, 1) := by decide +kernel
theorem d_Va_init_39 : decode b_Va_init 39 = .ok (.new 28, 3) := by decide +kernel
theorem d_Va_init_42 : decode b_Va_init 42 = .ok (.dup, 1) := by decide +kernel
theorem d_Va_init_43 : decode b_Va_init 43 = .ok (.invokespecial 30, 3) := by decide +kernel
theorem d_Va_init_46 : decode b_Va_init 46 = .ok (.putfield 31, 3) := by decide +kernel
theorem lk_Va_31 : Cond.fieldLink R_Va 31 R_Va (F_Va 3).2.1 (F_Va 3).2.2.1 ∈ lw_tg := in_t 139 (by decide +kernel)
theorem d_Va_init_49 : decode b_Va_init 49 = .ok (.aload_n 0, 1) := by decide +kernel
theorem d_Va_init_50 : decode b_Va_init 50 = .ok (.new 35, 3) := by decide +kernel
theorem d_Va_init_53 : decode b_Va_init 53 = .ok (.dup, 1) := by decide +kernel
theorem d_Va_init_54 : decode b_Va_init 54 = .ok (.invokespecial 37, 3) := by decide +kernel
theorem d_Va_init_57 : decode b_Va_init 57 = .ok (.putfield 38, 3) := by decide +kernel
theorem lk_Va_38 : Cond.fieldLink R_Va 38 R_Va (F_Va 4).2.1 (F_Va 4).2.2.1 ∈ lw_tg := in_t 140 (by decide +kernel)
theorem d_Va_init_60 : decode b_Va_init 60 = .ok (.aload_n 0, 1) := by decide +kernel
theorem d_Va_init_61 : decode b_Va_init 61 = .ok (.bipush 64, 2) := by decide +kernel
theorem d_Va_init_63 : decode b_Va_init 63 = .ok (.newarray .byte, 2) := by decide +kernel
theorem d_Va_init_65 : decode b_Va_init 65 = .ok (.putfield 42, 3) := by decide +kernel
theorem lk_Va_42 : Cond.fieldLink R_Va 42 R_Va (F_Va 5).2.1 (F_Va 5).2.2.1 ∈ lw_tg := in_t 141 (by decide +kernel)
theorem d_Va_init_68 : decode b_Va_init 68 = .ok (.aload_n 0, 1) := by decide +kernel
theorem d_Va_init_69 : decode b_Va_init 69 = .ok (.bipush 20, 2) := by decide +kernel
theorem d_Va_init_71 : decode b_Va_init 71 = .ok (.newarray .byte, 2) := by decide +kernel
theorem d_Va_init_73 : decode b_Va_init 73 = .ok (.putfield 46, 3) := by decide +kernel
theorem lk_Va_46 : Cond.fieldLink R_Va 46 R_Va (F_Va 7).2.1 (F_Va 7).2.2.1 ∈ lw_tg := in_t 143 (by decide +kernel)
theorem d_Va_init_76 : decode b_Va_init 76 = .ok (.aload_n 0, 1) := by decide +kernel
theorem d_Va_init_77 : decode b_Va_init 77 = .ok (.bipush 20, 2) := by decide +kernel
theorem d_Va_init_79 : decode b_Va_init 79 = .ok (.putfield 49, 3) := by decide +kernel
theorem lk_Va_49 : Cond.fieldLink R_Va 49 R_Va (F_Va 8).2.1 (F_Va 8).2.2.1 ∈ lw_tg := in_t 144 (by decide +kernel)
theorem d_Va_init_82 : decode b_Va_init 82 = .ok (.aload_n 0, 1) := by decide +kernel
theorem d_Va_init_83 : decode b_Va_init 83 = .ok (.bipush 32, 2) := by decide +kernel
theorem d_Va_init_85 : decode b_Va_init 85 = .ok (.newarray .byte, 2) := by decide +kernel
theorem d_Va_init_87 : decode b_Va_init 87 = .ok (.putfield 52, 3) := by decide +kernel
theorem lk_Va_52 : Cond.fieldLink R_Va 52 R_Va (F_Va 10).2.1 (F_Va 10).2.2.1 ∈ lw_tg := in_t 146 (by decide +kernel)
theorem d_Va_init_90 : decode b_Va_init 90 = .ok (.aload_n 0, 1) := by decide +kernel
theorem d_Va_init_91 : decode b_Va_init 91 = .ok (.bipush 20, 2) := by decide +kernel
theorem d_Va_init_93 : decode b_Va_init 93 = .ok (.newarray .byte, 2) := by decide +kernel
theorem d_Va_init_95 : decode b_Va_init 95 = .ok (.putfield 55, 3) := by decide +kernel
theorem lk_Va_55 : Cond.fieldLink R_Va 55 R_Va (F_Va 11).2.1 (F_Va 11).2.2.1 ∈ lw_tg := in_t 147 (by decide +kernel)
theorem d_Va_init_98 : decode b_Va_init 98 = .ok (.aload_n 0, 1) := by decide +kernel
theorem d_Va_init_99 : decode b_Va_init 99 = .ok (.new 16, 3) := by decide +kernel
theorem d_Va_init_102 : decode b_Va_init 102 = .ok (.dup, 1) := by decide +kernel
theorem d_Va_init_103 : decode b_Va_init 103 = .ok (.bipush 64, 2) := by decide +kernel
theorem d_Va_init_105 : decode b_Va_init 105 = .ok (.invokespecial 18, 3) := by decide +kernel
theorem d_Va_init_108 : decode b_Va_init 108 = .ok (.putfield 58, 3) := by decide +kernel
theorem lk_Va_58 : Cond.fieldLink R_Va 58 R_Va (F_Va 12).2.1 (F_Va 12).2.2.1 ∈ lw_tg := in_t 148 (by decide +kernel)
theorem d_Va_init_111 : decode b_Va_init 111 = .ok (.return_, 1) := by decide +kernel
abbrev b_Va_putSalt : ByteArray := prog_12_method_8_code
def y_Va_putSalt : MethodName := ⟨R_Va, "putSalt", "(LRealmHouse$Bytes;LRealmHouse$Bytes;)V"⟩
abbrev k_Va_putSalt : Cond := .code y_Va_putSalt b_Va_putSalt 6 none
theorem ki_Va_putSalt : k_Va_putSalt ∈ lw_tg := in_t 572 (by decide +kernel)
theorem ks_Va_putSalt : Cond.static y_Va_putSalt ∈ lw_tg := in_t 571 (by decide +kernel)
theorem kl_Va_Va_putSalt : Cond.methodLink R_Va 141 y_Va_putSalt ∈ lw_tg := in_t 570 (by decide +kernel)
theorem kl_Ce_Va_putSalt : Cond.methodLink R_Ce 353 y_Va_putSalt ∈ lw_tg := in_t 1258 (by decide +kernel)
theorem hd_Va_putSalt : y_Va_putSalt.cls = R_Va ∧ y_Va_putSalt.cls ≠ "java/lang/invoke/MethodHandle" ∧ y_Va_putSalt.cls ≠ "java/lang/invoke/VarHandle" ∧ (parseMethodDescriptor y_Va_putSalt.desc).map (fun d => d.parameters.length) = some 2 := by decide +kernel
theorem d_Va_putSalt_0 : decode b_Va_putSalt 0 = .ok (.aload_n 0, 1) := by decide +kernel
theorem d_Va_putSalt_1 : decode b_Va_putSalt 1 = .ok (.ldc 132, 2) := by decide +kernel
theorem d_Va_putSalt_3 : decode b_Va_putSalt 3 = .ok (.invokevirtual 134, 3) := by decide +kernel
theorem d_Va_putSalt_6 : decode b_Va_putSalt 6 = .ok (.iconst 0, 1) := by decide +kernel
theorem d_Va_putSalt_7 : decode b_Va_putSalt 7 = .ok (.istore_n 2, 1) := by decide +kernel
theorem d_Va_putSalt_8 : decode b_Va_putSalt 8 = .ok (.iconst 0, 1) := by decide +kernel
theorem d_Va_putSalt_9 : decode b_Va_putSalt 9 = .ok (.istore_n 3, 1) := by decide +kernel
theorem d_Va_putSalt_10 : decode b_Va_putSalt 10 = .ok (.iload_n 3, 1) := by decide +kernel
theorem d_Va_putSalt_11 : decode b_Va_putSalt 11 = .ok (.iconst 2, 1) := by decide +kernel
theorem d_Va_putSalt_12 : decode b_Va_putSalt 12 = .ok (.if_icmp .ge 53, 3) := by decide +kernel
theorem d_Va_putSalt_15 : decode b_Va_putSalt 15 = .ok (.iload_n 2, 1) := by decide +kernel
theorem d_Va_putSalt_16 : decode b_Va_putSalt 16 = .ok (.aload_n 1, 1) := by decide +kernel
theorem d_Va_putSalt_17 : decode b_Va_putSalt 17 = .ok (.getfield 77, 3) := by decide +kernel
theorem lk_Va_77 : Cond.fieldLink R_Va 77 R_By (F_By 1).2.1 (F_By 1).2.2.1 ∈ lw_tg := in_t 53 (by decide +kernel)
theorem d_Va_putSalt_20 : decode b_Va_putSalt 20 = .ok (.if_icmp .ge 45, 3) := by decide +kernel
theorem d_Va_putSalt_23 : decode b_Va_putSalt 23 = .ok (.aload_n 1, 1) := by decide +kernel
theorem d_Va_putSalt_24 : decode b_Va_putSalt 24 = .ok (.iload_n 2, 1) := by decide +kernel
theorem d_Va_putSalt_25 : decode b_Va_putSalt 25 = .ok (.invokevirtual 71, 3) := by decide +kernel
theorem d_Va_putSalt_28 : decode b_Va_putSalt 28 = .ok (.istore 4, 2) := by decide +kernel
theorem d_Va_putSalt_30 : decode b_Va_putSalt 30 = .ok (.aload_n 1, 1) := by decide +kernel
theorem d_Va_putSalt_31 : decode b_Va_putSalt 31 = .ok (.iload_n 2, 1) := by decide +kernel
theorem d_Va_putSalt_32 : decode b_Va_putSalt 32 = .ok (.aload_n 1, 1) := by decide +kernel
theorem d_Va_putSalt_33 : decode b_Va_putSalt 33 = .ok (.getfield 77, 3) := by decide +kernel
theorem d_Va_putSalt_36 : decode b_Va_putSalt 36 = .ok (.invokevirtual 80, 3) := by decide +kernel
theorem d_Va_putSalt_39 : decode b_Va_putSalt 39 = .ok (.istore 5, 2) := by decide +kernel
theorem d_Va_putSalt_41 : decode b_Va_putSalt 41 = .ok (.aload_n 0, 1) := by decide +kernel
theorem d_Va_putSalt_42 : decode b_Va_putSalt 42 = .ok (.aload_n 1, 1) := by decide +kernel
theorem d_Va_putSalt_43 : decode b_Va_putSalt 43 = .ok (.getfield 86, 3) := by decide +kernel
theorem lk_Va_86 : Cond.fieldLink R_Va 86 R_By (F_By 0).2.1 (F_By 0).2.2.1 ∈ lw_tg := in_t 46 (by decide +kernel)
theorem d_Va_putSalt_46 : decode b_Va_putSalt 46 = .ok (.iload 4, 2) := by decide +kernel
theorem d_Va_putSalt_48 : decode b_Va_putSalt 48 = .ok (.iload 5, 2) := by decide +kernel
theorem d_Va_putSalt_50 : decode b_Va_putSalt 50 = .ok (.iload 4, 2) := by decide +kernel
theorem d_Va_putSalt_52 : decode b_Va_putSalt 52 = .ok (.isub, 1) := by decide +kernel
theorem d_Va_putSalt_53 : decode b_Va_putSalt 53 = .ok (.invokevirtual 138, 3) := by decide +kernel
theorem d_Va_putSalt_56 : decode b_Va_putSalt 56 = .ok (.iload 5, 2) := by decide +kernel
theorem d_Va_putSalt_58 : decode b_Va_putSalt 58 = .ok (.istore_n 2, 1) := by decide +kernel
theorem d_Va_putSalt_59 : decode b_Va_putSalt 59 = .ok (.iinc 3 1, 3) := by decide +kernel
theorem d_Va_putSalt_62 : decode b_Va_putSalt 62 = .ok (.goto (-52), 3) := by decide +kernel
theorem d_Va_putSalt_65 : decode b_Va_putSalt 65 = .ok (.return_, 1) := by decide +kernel
abbrev b_Va_stretch : ByteArray := prog_12_method_10_code
def y_Va_stretch : MethodName := ⟨R_Va, "stretch", "(I)V"⟩
abbrev k_Va_stretch : Cond := .code y_Va_stretch b_Va_stretch 4 none
theorem ki_Va_stretch : k_Va_stretch ∈ lw_tg := in_t 613 (by decide +kernel)
theorem ks_Va_stretch : Cond.instanceMethod y_Va_stretch ∈ lw_tg := in_t 612 (by decide +kernel)
theorem kx_Va_stretch : Cond.selects R_Va y_Va_stretch y_Va_stretch ∈ lw_tg := List.mem_filter.mpr ⟨List.mem_append_left _ (List.mem_of_getElem? (i := 2) (by decide +kernel)), rfl⟩
theorem kl_Va_Va_stretch : Cond.methodLink R_Va 145 y_Va_stretch ∈ lw_tg := in_t 610 (by decide +kernel)
theorem hd_Va_stretch : y_Va_stretch.cls = R_Va ∧ y_Va_stretch.cls ≠ "java/lang/invoke/MethodHandle" ∧ y_Va_stretch.cls ≠ "java/lang/invoke/VarHandle" ∧ (parseMethodDescriptor y_Va_stretch.desc).map (fun d => d.parameters.length) = some 1 := by decide +kernel
theorem d_Va_stretch_0 : decode b_Va_stretch 0 = .ok (.aload_n 0, 1) := by decide +kernel
theorem d_Va_stretch_1 : decode b_Va_stretch 1 = .ok (.getfield 31, 3) := by decide +kernel
theorem d_Va_stretch_4 : decode b_Va_stretch 4 = .ok (.invokevirtual 116, 3) := by decide +kernel
theorem d_Va_stretch_7 : decode b_Va_stretch 7 = .ok (.aload_n 0, 1) := by decide +kernel
theorem d_Va_stretch_8 : decode b_Va_stretch 8 = .ok (.getfield 31, 3) := by decide +kernel
theorem d_Va_stretch_11 : decode b_Va_stretch 11 = .ok (.aload_n 0, 1) := by decide +kernel
theorem d_Va_stretch_12 : decode b_Va_stretch 12 = .ok (.getfield 58, 3) := by decide +kernel
theorem d_Va_stretch_15 : decode b_Va_stretch 15 = .ok (.getfield 86, 3) := by decide +kernel
theorem d_Va_stretch_18 : decode b_Va_stretch 18 = .ok (.iconst 0, 1) := by decide +kernel
theorem d_Va_stretch_19 : decode b_Va_stretch 19 = .ok (.aload_n 0, 1) := by decide +kernel
theorem d_Va_stretch_20 : decode b_Va_stretch 20 = .ok (.getfield 58, 3) := by decide +kernel
theorem d_Va_stretch_23 : decode b_Va_stretch 23 = .ok (.getfield 77, 3) := by decide +kernel
theorem d_Va_stretch_26 : decode b_Va_stretch 26 = .ok (.invokevirtual 119, 3) := by decide +kernel
theorem d_Va_stretch_29 : decode b_Va_stretch 29 = .ok (.aload_n 0, 1) := by decide +kernel
theorem d_Va_stretch_30 : decode b_Va_stretch 30 = .ok (.getfield 31, 3) := by decide +kernel
theorem d_Va_stretch_33 : decode b_Va_stretch 33 = .ok (.invokevirtual 122, 3) := by decide +kernel
theorem d_Va_stretch_36 : decode b_Va_stretch 36 = .ok (.aload_n 0, 1) := by decide +kernel
theorem d_Va_stretch_37 : decode b_Va_stretch 37 = .ok (.getfield 31, 3) := by decide +kernel
theorem d_Va_stretch_40 : decode b_Va_stretch 40 = .ok (.getfield 125, 3) := by decide +kernel
theorem lk_Va_125 : Cond.fieldLink R_Va 125 R_Ha (F_Ha 7).2.1 (F_Ha 7).2.2.1 ∈ lw_tg := in_t 78 (by decide +kernel)
theorem d_Va_stretch_43 : decode b_Va_stretch 43 = .ok (.iconst 0, 1) := by decide +kernel
theorem d_Va_stretch_44 : decode b_Va_stretch 44 = .ok (.aload_n 0, 1) := by decide +kernel
theorem d_Va_stretch_45 : decode b_Va_stretch 45 = .ok (.getfield 55, 3) := by decide +kernel
theorem d_Va_stretch_48 : decode b_Va_stretch 48 = .ok (.iconst 0, 1) := by decide +kernel
theorem d_Va_stretch_49 : decode b_Va_stretch 49 = .ok (.bipush 20, 2) := by decide +kernel
theorem d_Va_stretch_51 : decode b_Va_stretch 51 = .ok (.invokestatic 89, 3) := by decide +kernel
theorem d_Va_stretch_54 : decode b_Va_stretch 54 = .ok (.iconst 1, 1) := by decide +kernel
theorem d_Va_stretch_55 : decode b_Va_stretch 55 = .ok (.istore_n 2, 1) := by decide +kernel
theorem d_Va_stretch_56 : decode b_Va_stretch 56 = .ok (.iload_n 2, 1) := by decide +kernel
theorem d_Va_stretch_57 : decode b_Va_stretch 57 = .ok (.iload_n 1, 1) := by decide +kernel
theorem d_Va_stretch_58 : decode b_Va_stretch 58 = .ok (.if_icmp .ge 80, 3) := by decide +kernel
theorem d_Va_stretch_61 : decode b_Va_stretch 61 = .ok (.iload_n 2, 1) := by decide +kernel
theorem d_Va_stretch_62 : decode b_Va_stretch 62 = .ok (.sipush 200, 3) := by decide +kernel
theorem d_Va_stretch_65 : decode b_Va_stretch 65 = .ok (.if_icmp .ge 73, 3) := by decide +kernel
theorem d_Va_stretch_68 : decode b_Va_stretch 68 = .ok (.aload_n 0, 1) := by decide +kernel
theorem d_Va_stretch_69 : decode b_Va_stretch 69 = .ok (.getfield 31, 3) := by decide +kernel
theorem d_Va_stretch_72 : decode b_Va_stretch 72 = .ok (.invokevirtual 116, 3) := by decide +kernel
theorem d_Va_stretch_75 : decode b_Va_stretch 75 = .ok (.aload_n 0, 1) := by decide +kernel
theorem d_Va_stretch_76 : decode b_Va_stretch 76 = .ok (.getfield 31, 3) := by decide +kernel
theorem d_Va_stretch_79 : decode b_Va_stretch 79 = .ok (.aload_n 0, 1) := by decide +kernel
theorem d_Va_stretch_80 : decode b_Va_stretch 80 = .ok (.getfield 31, 3) := by decide +kernel
theorem d_Va_stretch_83 : decode b_Va_stretch 83 = .ok (.getfield 125, 3) := by decide +kernel
theorem d_Va_stretch_86 : decode b_Va_stretch 86 = .ok (.iconst 0, 1) := by decide +kernel
theorem d_Va_stretch_87 : decode b_Va_stretch 87 = .ok (.bipush 20, 2) := by decide +kernel
theorem d_Va_stretch_89 : decode b_Va_stretch 89 = .ok (.invokevirtual 119, 3) := by decide +kernel
theorem d_Va_stretch_92 : decode b_Va_stretch 92 = .ok (.aload_n 0, 1) := by decide +kernel
theorem d_Va_stretch_93 : decode b_Va_stretch 93 = .ok (.getfield 31, 3) := by decide +kernel
theorem d_Va_stretch_96 : decode b_Va_stretch 96 = .ok (.invokevirtual 122, 3) := by decide +kernel
theorem d_Va_stretch_99 : decode b_Va_stretch 99 = .ok (.iconst 0, 1) := by decide +kernel
theorem d_Va_stretch_100 : decode b_Va_stretch 100 = .ok (.istore_n 3, 1) := by decide +kernel
theorem d_Va_stretch_101 : decode b_Va_stretch 101 = .ok (.iload_n 3, 1) := by decide +kernel
theorem d_Va_stretch_102 : decode b_Va_stretch 102 = .ok (.bipush 20, 2) := by decide +kernel
theorem d_Va_stretch_104 : decode b_Va_stretch 104 = .ok (.if_icmp .ge 28, 3) := by decide +kernel
theorem d_Va_stretch_107 : decode b_Va_stretch 107 = .ok (.aload_n 0, 1) := by decide +kernel
theorem d_Va_stretch_108 : decode b_Va_stretch 108 = .ok (.getfield 55, 3) := by decide +kernel
theorem d_Va_stretch_111 : decode b_Va_stretch 111 = .ok (.iload_n 3, 1) := by decide +kernel
theorem d_Va_stretch_112 : decode b_Va_stretch 112 = .ok (.dup2, 1) := by decide +kernel
theorem d_Va_stretch_113 : decode b_Va_stretch 113 = .ok (.baload, 1) := by decide +kernel
theorem d_Va_stretch_114 : decode b_Va_stretch 114 = .ok (.aload_n 0, 1) := by decide +kernel
theorem d_Va_stretch_115 : decode b_Va_stretch 115 = .ok (.getfield 31, 3) := by decide +kernel
theorem d_Va_stretch_118 : decode b_Va_stretch 118 = .ok (.getfield 125, 3) := by decide +kernel
theorem d_Va_stretch_121 : decode b_Va_stretch 121 = .ok (.iload_n 3, 1) := by decide +kernel
theorem d_Va_stretch_122 : decode b_Va_stretch 122 = .ok (.baload, 1) := by decide +kernel
theorem d_Va_stretch_123 : decode b_Va_stretch 123 = .ok (.ixor, 1) := by decide +kernel
theorem d_Va_stretch_124 : decode b_Va_stretch 124 = .ok (.i2b, 1) := by decide +kernel
theorem d_Va_stretch_125 : decode b_Va_stretch 125 = .ok (.bastore, 1) := by decide +kernel
theorem d_Va_stretch_126 : decode b_Va_stretch 126 = .ok (.iinc 3 1, 3) := by decide +kernel
theorem d_Va_stretch_129 : decode b_Va_stretch 129 = .ok (.goto (-28), 3) := by decide +kernel
theorem d_Va_stretch_132 : decode b_Va_stretch 132 = .ok (.iinc 2 1, 3) := by decide +kernel
theorem d_Va_stretch_135 : decode b_Va_stretch 135 = .ok (.goto (-79), 3) := by decide +kernel
theorem d_Va_stretch_138 : decode b_Va_stretch 138 = .ok (.return_, 1) := by decide +kernel
abbrev b_Va_chain : ByteArray := prog_12_method_11_code
def y_Va_chain : MethodName := ⟨R_Va, "chain", "([BI)V"⟩
abbrev k_Va_chain : Cond := .code y_Va_chain b_Va_chain 3 none
theorem ki_Va_chain : k_Va_chain ∈ lw_tg := in_t 643 (by decide +kernel)
theorem ks_Va_chain : Cond.instanceMethod y_Va_chain ∈ lw_tg := in_t 642 (by decide +kernel)
theorem kx_Va_chain : Cond.selects R_Va y_Va_chain y_Va_chain ∈ lw_tg := List.mem_filter.mpr ⟨List.mem_append_left _ (List.mem_of_getElem? (i := 4) (by decide +kernel)), rfl⟩
theorem kl_Va_Va_chain : Cond.methodLink R_Va 154 y_Va_chain ∈ lw_tg := in_t 640 (by decide +kernel)
theorem hd_Va_chain : y_Va_chain.cls = R_Va ∧ y_Va_chain.cls ≠ "java/lang/invoke/MethodHandle" ∧ y_Va_chain.cls ≠ "java/lang/invoke/VarHandle" ∧ (parseMethodDescriptor y_Va_chain.desc).map (fun d => d.parameters.length) = some 2 := by decide +kernel
theorem d_Va_chain_0 : decode b_Va_chain 0 = .ok (.aload_n 0, 1) := by decide +kernel
theorem d_Va_chain_1 : decode b_Va_chain 1 = .ok (.getfield 38, 3) := by decide +kernel
theorem d_Va_chain_4 : decode b_Va_chain 4 = .ok (.aload_n 1, 1) := by decide +kernel
theorem d_Va_chain_5 : decode b_Va_chain 5 = .ok (.iconst 0, 1) := by decide +kernel
theorem d_Va_chain_6 : decode b_Va_chain 6 = .ok (.invokevirtual 157, 3) := by decide +kernel
theorem d_Va_chain_9 : decode b_Va_chain 9 = .ok (.iload_n 2, 1) := by decide +kernel
theorem d_Va_chain_10 : decode b_Va_chain 10 = .ok (.bipush 32, 2) := by decide +kernel
theorem d_Va_chain_12 : decode b_Va_chain 12 = .ok (.if_icmp .ne 30, 3) := by decide +kernel
theorem d_Va_chain_15 : decode b_Va_chain 15 = .ok (.aload_n 1, 1) := by decide +kernel
theorem d_Va_chain_16 : decode b_Va_chain 16 = .ok (.arraylength, 1) := by decide +kernel
theorem d_Va_chain_17 : decode b_Va_chain 17 = .ok (.bipush 32, 2) := by decide +kernel
theorem d_Va_chain_19 : decode b_Va_chain 19 = .ok (.if_icmp .lt 23, 3) := by decide +kernel
theorem d_Va_chain_22 : decode b_Va_chain 22 = .ok (.aload_n 1, 1) := by decide +kernel
theorem d_Va_chain_23 : decode b_Va_chain 23 = .ok (.iconst 0, 1) := by decide +kernel
theorem d_Va_chain_24 : decode b_Va_chain 24 = .ok (.aload_n 1, 1) := by decide +kernel
theorem d_Va_chain_25 : decode b_Va_chain 25 = .ok (.bipush 16, 2) := by decide +kernel
theorem d_Va_chain_27 : decode b_Va_chain 27 = .ok (.bipush 16, 2) := by decide +kernel
theorem d_Va_chain_29 : decode b_Va_chain 29 = .ok (.invokestatic 89, 3) := by decide +kernel
theorem d_Va_chain_32 : decode b_Va_chain 32 = .ok (.aload_n 0, 1) := by decide +kernel
theorem d_Va_chain_33 : decode b_Va_chain 33 = .ok (.getfield 38, 3) := by decide +kernel
theorem d_Va_chain_36 : decode b_Va_chain 36 = .ok (.aload_n 1, 1) := by decide +kernel
theorem d_Va_chain_37 : decode b_Va_chain 37 = .ok (.bipush 16, 2) := by decide +kernel
theorem d_Va_chain_39 : decode b_Va_chain 39 = .ok (.invokevirtual 157, 3) := by decide +kernel
theorem d_Va_chain_42 : decode b_Va_chain 42 = .ok (.return_, 1) := by decide +kernel
abbrev b_Va_passwordKey : ByteArray := prog_12_method_9_code
def y_Va_passwordKey : MethodName := ⟨R_Va, "passwordKey", "(ILRealmHouse$Bytes;LRealmHouse$Bytes;II)[B"⟩
abbrev k_Va_passwordKey : Cond := .code y_Va_passwordKey b_Va_passwordKey 9 (some (.array .byte))
theorem ki_Va_passwordKey : k_Va_passwordKey ∈ lw_tg := in_t 568 (by decide +kernel)
theorem ks_Va_passwordKey : Cond.instanceMethod y_Va_passwordKey ∈ lw_tg := in_t 566 (by decide +kernel)
theorem kx_Va_passwordKey : Cond.selects R_Va y_Va_passwordKey y_Va_passwordKey ∈ lw_tg := in_t 567 (by decide +kernel)
theorem kl_Pr_Va_passwordKey : Cond.methodLink R_Pr 74 y_Va_passwordKey ∈ lw_tg := in_t 565 (by decide +kernel)
theorem kl_Ag_Va_passwordKey : Cond.methodLink R_Ag 57 y_Va_passwordKey ∈ lw_tg := in_t 1373 (by decide +kernel)
theorem hd_Va_passwordKey : y_Va_passwordKey.cls = R_Va ∧ y_Va_passwordKey.cls ≠ "java/lang/invoke/MethodHandle" ∧ y_Va_passwordKey.cls ≠ "java/lang/invoke/VarHandle" ∧ (parseMethodDescriptor y_Va_passwordKey.desc).map (fun d => d.parameters.length) = some 5 := by decide +kernel
theorem d_Va_passwordKey_0 : decode b_Va_passwordKey 0 = .ok (.iload_n 1, 1) := by decide +kernel
theorem d_Va_passwordKey_1 : decode b_Va_passwordKey 1 = .ok (.bipush 18, 2) := by decide +kernel
theorem d_Va_passwordKey_3 : decode b_Va_passwordKey 3 = .ok (.if_icmp .ne 8, 3) := by decide +kernel
theorem d_Va_passwordKey_6 : decode b_Va_passwordKey 6 = .ok (.bipush 32, 2) := by decide +kernel
theorem d_Va_passwordKey_8 : decode b_Va_passwordKey 8 = .ok (.goto 5, 3) := by decide +kernel
theorem d_Va_passwordKey_11 : decode b_Va_passwordKey 11 = .ok (.bipush 16, 2) := by decide +kernel
theorem d_Va_passwordKey_13 : decode b_Va_passwordKey 13 = .ok (.newarray .byte, 2) := by decide +kernel
theorem d_Va_passwordKey_15 : decode b_Va_passwordKey 15 = .ok (.astore 6, 2) := by decide +kernel
theorem d_Va_passwordKey_17 : decode b_Va_passwordKey 17 = .ok (.aload_n 0, 1) := by decide +kernel
theorem d_Va_passwordKey_18 : decode b_Va_passwordKey 18 = .ok (.getfield 58, 3) := by decide +kernel
theorem d_Va_passwordKey_21 : decode b_Va_passwordKey 21 = .ok (.invokevirtual 106, 3) := by decide +kernel
theorem d_Va_passwordKey_24 : decode b_Va_passwordKey 24 = .ok (.aload_n 0, 1) := by decide +kernel
theorem d_Va_passwordKey_25 : decode b_Va_passwordKey 25 = .ok (.getfield 58, 3) := by decide +kernel
theorem d_Va_passwordKey_28 : decode b_Va_passwordKey 28 = .ok (.aload_n 2, 1) := by decide +kernel
theorem d_Va_passwordKey_29 : decode b_Va_passwordKey 29 = .ok (.invokestatic 141, 3) := by decide +kernel
theorem d_Va_passwordKey_32 : decode b_Va_passwordKey 32 = .ok (.aload_n 0, 1) := by decide +kernel
theorem d_Va_passwordKey_33 : decode b_Va_passwordKey 33 = .ok (.getfield 58, 3) := by decide +kernel
theorem d_Va_passwordKey_36 : decode b_Va_passwordKey 36 = .ok (.getfield 77, 3) := by decide +kernel
theorem d_Va_passwordKey_39 : decode b_Va_passwordKey 39 = .ok (.istore 7, 2) := by decide +kernel
theorem d_Va_passwordKey_41 : decode b_Va_passwordKey 41 = .ok (.aload_n 0, 1) := by decide +kernel
theorem d_Va_passwordKey_42 : decode b_Va_passwordKey 42 = .ok (.getfield 31, 3) := by decide +kernel
theorem d_Va_passwordKey_45 : decode b_Va_passwordKey 45 = .ok (.aload_n 3, 1) := by decide +kernel
theorem d_Va_passwordKey_46 : decode b_Va_passwordKey 46 = .ok (.getfield 86, 3) := by decide +kernel
theorem d_Va_passwordKey_49 : decode b_Va_passwordKey 49 = .ok (.iload 4, 2) := by decide +kernel
theorem d_Va_passwordKey_51 : decode b_Va_passwordKey 51 = .ok (.aload_n 3, 1) := by decide +kernel
theorem d_Va_passwordKey_52 : decode b_Va_passwordKey 52 = .ok (.getfield 77, 3) := by decide +kernel
theorem d_Va_passwordKey_55 : decode b_Va_passwordKey 55 = .ok (.iload 4, 2) := by decide +kernel
theorem d_Va_passwordKey_57 : decode b_Va_passwordKey 57 = .ok (.isub, 1) := by decide +kernel
theorem d_Va_passwordKey_58 : decode b_Va_passwordKey 58 = .ok (.invokevirtual 112, 3) := by decide +kernel
theorem d_Va_passwordKey_61 : decode b_Va_passwordKey 61 = .ok (.iconst 0, 1) := by decide +kernel
theorem d_Va_passwordKey_62 : decode b_Va_passwordKey 62 = .ok (.istore 8, 2) := by decide +kernel
theorem d_Va_passwordKey_64 : decode b_Va_passwordKey 64 = .ok (.iload 8, 2) := by decide +kernel
theorem d_Va_passwordKey_66 : decode b_Va_passwordKey 66 = .ok (.aload 6, 2) := by decide +kernel
theorem d_Va_passwordKey_68 : decode b_Va_passwordKey 68 = .ok (.arraylength, 1) := by decide +kernel
theorem d_Va_passwordKey_69 : decode b_Va_passwordKey 69 = .ok (.if_icmp .ge 61, 3) := by decide +kernel
theorem d_Va_passwordKey_72 : decode b_Va_passwordKey 72 = .ok (.aload_n 0, 1) := by decide +kernel
theorem d_Va_passwordKey_73 : decode b_Va_passwordKey 73 = .ok (.getfield 58, 3) := by decide +kernel
theorem d_Va_passwordKey_76 : decode b_Va_passwordKey 76 = .ok (.iload 7, 2) := by decide +kernel
theorem d_Va_passwordKey_78 : decode b_Va_passwordKey 78 = .ok (.putfield 77, 3) := by decide +kernel
theorem d_Va_passwordKey_81 : decode b_Va_passwordKey 81 = .ok (.aload_n 0, 1) := by decide +kernel
theorem d_Va_passwordKey_82 : decode b_Va_passwordKey 82 = .ok (.getfield 58, 3) := by decide +kernel
theorem d_Va_passwordKey_85 : decode b_Va_passwordKey 85 = .ok (.iload 8, 2) := by decide +kernel
theorem d_Va_passwordKey_87 : decode b_Va_passwordKey 87 = .ok (.bipush 20, 2) := by decide +kernel
theorem d_Va_passwordKey_89 : decode b_Va_passwordKey 89 = .ok (.idiv, 1) := by decide +kernel
theorem d_Va_passwordKey_90 : decode b_Va_passwordKey 90 = .ok (.iconst 1, 1) := by decide +kernel
theorem d_Va_passwordKey_91 : decode b_Va_passwordKey 91 = .ok (.iadd, 1) := by decide +kernel
theorem d_Va_passwordKey_92 : decode b_Va_passwordKey 92 = .ok (.invokevirtual 109, 3) := by decide +kernel
theorem d_Va_passwordKey_95 : decode b_Va_passwordKey 95 = .ok (.aload_n 0, 1) := by decide +kernel
theorem d_Va_passwordKey_96 : decode b_Va_passwordKey 96 = .ok (.iload 5, 2) := by decide +kernel
theorem d_Va_passwordKey_98 : decode b_Va_passwordKey 98 = .ok (.invokevirtual 145, 3) := by decide +kernel
theorem d_Va_passwordKey_101 : decode b_Va_passwordKey 101 = .ok (.aload_n 0, 1) := by decide +kernel
theorem d_Va_passwordKey_102 : decode b_Va_passwordKey 102 = .ok (.getfield 55, 3) := by decide +kernel
theorem d_Va_passwordKey_105 : decode b_Va_passwordKey 105 = .ok (.iconst 0, 1) := by decide +kernel
theorem d_Va_passwordKey_106 : decode b_Va_passwordKey 106 = .ok (.aload 6, 2) := by decide +kernel
theorem d_Va_passwordKey_108 : decode b_Va_passwordKey 108 = .ok (.iload 8, 2) := by decide +kernel
theorem d_Va_passwordKey_110 : decode b_Va_passwordKey 110 = .ok (.bipush 20, 2) := by decide +kernel
theorem d_Va_passwordKey_112 : decode b_Va_passwordKey 112 = .ok (.aload 6, 2) := by decide +kernel
theorem d_Va_passwordKey_114 : decode b_Va_passwordKey 114 = .ok (.arraylength, 1) := by decide +kernel
theorem d_Va_passwordKey_115 : decode b_Va_passwordKey 115 = .ok (.iload 8, 2) := by decide +kernel
theorem d_Va_passwordKey_117 : decode b_Va_passwordKey 117 = .ok (.isub, 1) := by decide +kernel
theorem d_Va_passwordKey_118 : decode b_Va_passwordKey 118 = .ok (.invokestatic 95, 3) := by decide +kernel
theorem d_Va_passwordKey_121 : decode b_Va_passwordKey 121 = .ok (.invokestatic 89, 3) := by decide +kernel
theorem d_Va_passwordKey_124 : decode b_Va_passwordKey 124 = .ok (.iinc 8 20, 3) := by decide +kernel
theorem d_Va_passwordKey_127 : decode b_Va_passwordKey 127 = .ok (.goto (-63), 3) := by decide +kernel
theorem d_Va_passwordKey_130 : decode b_Va_passwordKey 130 = .ok (.aload_n 0, 1) := by decide +kernel
theorem d_Va_passwordKey_131 : decode b_Va_passwordKey 131 = .ok (.getfield 38, 3) := by decide +kernel
theorem d_Va_passwordKey_134 : decode b_Va_passwordKey 134 = .ok (.aload 6, 2) := by decide +kernel
theorem d_Va_passwordKey_136 : decode b_Va_passwordKey 136 = .ok (.aload 6, 2) := by decide +kernel
theorem d_Va_passwordKey_138 : decode b_Va_passwordKey 138 = .ok (.arraylength, 1) := by decide +kernel
theorem d_Va_passwordKey_139 : decode b_Va_passwordKey 139 = .ok (.invokevirtual 148, 3) := by decide +kernel
theorem d_Va_passwordKey_142 : decode b_Va_passwordKey 142 = .ok (.getstatic 151, 3) := by decide +kernel
theorem d_Va_passwordKey_145 : decode b_Va_passwordKey 145 = .ok (.iconst 0, 1) := by decide +kernel
theorem d_Va_passwordKey_146 : decode b_Va_passwordKey 146 = .ok (.aload 6, 2) := by decide +kernel
theorem d_Va_passwordKey_148 : decode b_Va_passwordKey 148 = .ok (.iconst 0, 1) := by decide +kernel
theorem d_Va_passwordKey_149 : decode b_Va_passwordKey 149 = .ok (.bipush 16, 2) := by decide +kernel
theorem d_Va_passwordKey_151 : decode b_Va_passwordKey 151 = .ok (.invokestatic 89, 3) := by decide +kernel
theorem d_Va_passwordKey_154 : decode b_Va_passwordKey 154 = .ok (.aload_n 0, 1) := by decide +kernel
theorem d_Va_passwordKey_155 : decode b_Va_passwordKey 155 = .ok (.aload 6, 2) := by decide +kernel
theorem d_Va_passwordKey_157 : decode b_Va_passwordKey 157 = .ok (.aload 6, 2) := by decide +kernel
theorem d_Va_passwordKey_159 : decode b_Va_passwordKey 159 = .ok (.arraylength, 1) := by decide +kernel
theorem d_Va_passwordKey_160 : decode b_Va_passwordKey 160 = .ok (.invokevirtual 154, 3) := by decide +kernel
theorem d_Va_passwordKey_163 : decode b_Va_passwordKey 163 = .ok (.aload 6, 2) := by decide +kernel
theorem d_Va_passwordKey_165 : decode b_Va_passwordKey 165 = .ok (.areturn, 1) := by decide +kernel
abbrev b_Va_sow : ByteArray := prog_12_method_4_code
def y_Va_sow : MethodName := ⟨R_Va, "sow", "(LRealmHouse$Bytes;)V"⟩
abbrev k_Va_sow : Cond := .code y_Va_sow b_Va_sow 2 none
theorem ki_Va_sow : k_Va_sow ∈ lw_tg := in_t 774 (by decide +kernel)
theorem ks_Va_sow : Cond.instanceMethod y_Va_sow ∈ lw_tg := in_t 772 (by decide +kernel)
theorem kx_Va_sow : Cond.selects R_Va y_Va_sow y_Va_sow ∈ lw_tg := in_t 773 (by decide +kernel)
theorem kl_H_Va_sow : Cond.methodLink R_H 113 y_Va_sow ∈ lw_tg := in_t 771 (by decide +kernel)
theorem hd_Va_sow : y_Va_sow.cls = R_Va ∧ y_Va_sow.cls ≠ "java/lang/invoke/MethodHandle" ∧ y_Va_sow.cls ≠ "java/lang/invoke/VarHandle" ∧ (parseMethodDescriptor y_Va_sow.desc).map (fun d => d.parameters.length) = some 1 := by decide +kernel
theorem d_Va_sow_0 : decode b_Va_sow 0 = .ok (.aload_n 0, 1) := by decide +kernel
theorem d_Va_sow_1 : decode b_Va_sow 1 = .ok (.bipush 64, 2) := by decide +kernel
theorem d_Va_sow_3 : decode b_Va_sow 3 = .ok (.aload_n 1, 1) := by decide +kernel
theorem d_Va_sow_4 : decode b_Va_sow 4 = .ok (.getfield 77, 3) := by decide +kernel
theorem d_Va_sow_7 : decode b_Va_sow 7 = .ok (.invokestatic 95, 3) := by decide +kernel
theorem d_Va_sow_10 : decode b_Va_sow 10 = .ok (.putfield 100, 3) := by decide +kernel
theorem lk_Va_100 : Cond.fieldLink R_Va 100 R_Va (F_Va 6).2.1 (F_Va 6).2.2.1 ∈ lw_tg := in_t 142 (by decide +kernel)
theorem d_Va_sow_13 : decode b_Va_sow 13 = .ok (.aload_n 1, 1) := by decide +kernel
theorem d_Va_sow_14 : decode b_Va_sow 14 = .ok (.getfield 86, 3) := by decide +kernel
theorem d_Va_sow_17 : decode b_Va_sow 17 = .ok (.iconst 0, 1) := by decide +kernel
theorem d_Va_sow_18 : decode b_Va_sow 18 = .ok (.aload_n 0, 1) := by decide +kernel
theorem d_Va_sow_19 : decode b_Va_sow 19 = .ok (.getfield 42, 3) := by decide +kernel
theorem d_Va_sow_22 : decode b_Va_sow 22 = .ok (.iconst 0, 1) := by decide +kernel
theorem d_Va_sow_23 : decode b_Va_sow 23 = .ok (.aload_n 0, 1) := by decide +kernel
theorem d_Va_sow_24 : decode b_Va_sow 24 = .ok (.getfield 100, 3) := by decide +kernel
theorem d_Va_sow_27 : decode b_Va_sow 27 = .ok (.invokestatic 89, 3) := by decide +kernel
theorem d_Va_sow_30 : decode b_Va_sow 30 = .ok (.aload_n 0, 1) := by decide +kernel
theorem d_Va_sow_31 : decode b_Va_sow 31 = .ok (.bipush 20, 2) := by decide +kernel
theorem d_Va_sow_33 : decode b_Va_sow 33 = .ok (.putfield 49, 3) := by decide +kernel
theorem d_Va_sow_36 : decode b_Va_sow 36 = .ok (.aload_n 0, 1) := by decide +kernel
theorem d_Va_sow_37 : decode b_Va_sow 37 = .ok (.iconst 0, 1) := by decide +kernel
theorem d_Va_sow_38 : decode b_Va_sow 38 = .ok (.putfield 103, 3) := by decide +kernel
theorem lk_Va_103 : Cond.fieldLink R_Va 103 R_Va (F_Va 9).2.1 (F_Va 9).2.2.1 ∈ lw_tg := in_t 145 (by decide +kernel)
theorem d_Va_sow_41 : decode b_Va_sow 41 = .ok (.return_, 1) := by decide +kernel
theorem ol_Va : Cond.methodLink R_Va 3 Lib.objectInit ∈ lw_tg := in_t 33 (by decide +kernel)
theorem ck_Va_16 : Cond.classLink R_Va 16 R_By ∈ lw_tg := in_t 35 (by decide +kernel)
theorem ck_Va_28 : Cond.classLink R_Va 28 R_Ha ∈ lw_tg := in_t 64 (by decide +kernel)
theorem ck_Va_35 : Cond.classLink R_Va 35 R_Ae ∈ lw_tg := in_t 97 (by decide +kernel)
theorem kl_Va_mmin : Cond.methodLink R_Va 95 Lib.Math.min.name ∈ lw_tg := in_t 631 (by decide +kernel)
theorem sk_Va_151 : Cond.fieldLink R_Va 151 (sG 2).1 (sG 2).2.1 (sG 2).2.2.1 ∈ lw_tg := in_t 638 (by decide +kernel)
set_option maxHeartbeats 4000000 in
set_option maxRecDepth 100000 in
theorem c_Ha_init (l : Launch) (D : va_G) (E : cE) (T : cT) (L : List Nat) (f : pF) (sz : Nat) (ho : Nat) (m_ho : ho ∈ L) (e_ho : f ho = .inr (6, [.null, .null, .null, .null, .null, .int (nI 0), .int (nI 0), .null])) : Met l y_Ha_init (k_Ha_init :: lw_tg) (kRm 1 20 6 (179)) (va_Pc [.ref ho] (kPre D E T L f sz)) (va_Qv (fun (u : cU) => (∀ x, x ∈ L → x ∈ u.1) ∧ (∀ x, x ∈ L → x ≠ ho → u.2 x = f x) ∧ ∃ (wd bl hst inn out mac : Nat) (k_wd k_bl k_hst k_inn k_out k_mac : Nat → Int32), wd ∈ u.1 ∧ wd ∉ L ∧ bl ∈ u.1 ∧ bl ∉ L ∧ hst ∈ u.1 ∧ hst ∉ L ∧ inn ∈ u.1 ∧ inn ∉ L ∧ out ∈ u.1 ∧ out ∉ L ∧ mac ∈ u.1 ∧ mac ∉ L ∧ wd ≠ bl ∧ wd ≠ hst ∧ wd ≠ inn ∧ wd ≠ out ∧ wd ≠ mac ∧ bl ≠ hst ∧ bl ≠ inn ∧ bl ≠ out ∧ bl ≠ mac ∧ hst ≠ inn ∧ hst ≠ out ∧ hst ≠ mac ∧ inn ≠ out ∧ inn ≠ mac ∧ out ≠ mac ∧ fB k_bl ∧ fB k_mac ∧ u.2 ho = .inr (6, [.ref wd, .ref bl, .ref hst, .ref inn, .ref out, .int (nI 0), .int (nI 0), .ref mac]) ∧ u.2 wd = .inl (E.2.1, 80, .inl k_wd) ∧ u.2 bl = .inl (E.1, 64, .inl k_bl) ∧ u.2 hst = .inl (E.2.1, 5, .inl k_hst) ∧ u.2 inn = .inl (E.2.1, 5, .inl k_inn) ∧ u.2 out = .inl (E.2.1, 5, .inl k_out) ∧ u.2 mac = .inl (E.1, 20, .inl k_mac)) (cPost D E (pA L sz)) (pA L sz)) 6 (179) (pA L sz) := by
  refine k_enter (own := R_Ha) (by decide) rfl (Nat.le_of_ble_eq_true rfl) (fun p e s m below meth c ls AV QQ H locs hQQ X Y hA hin hr hlk hml hl KS KR => ?_)
  have hl : lv_has ls 1 [(0, .ref ho)] := hl
  refine lv_aload_n X.1 X.2.1 d_Ha_init_0 rfl (lv_at hl 0 rfl) ?_
  refine W.objInit X.1 X.2.1 X.2.2.2.1 (X.2.2.1 _ ol_Ha) (X.2.2.1 _ o_inst) (X.2.2.1 _ o_code) rfl (by rw [hml]; exact hl.1) rfl d_Ha_init_1 (Nat.le_of_ble_eq_true rfl) (Nat.le_of_ble_eq_true rfl) ?_
  refine W.eq (g2 := F0 m 4 ls []) rfl ?_
  refine lv_aload_n X.1 X.2.1 d_Ha_init_4 rfl (lv_at hl 0 rfl) ?_
  refine lv_bipush (v := (nI 80)) X.1 X.2.1 d_Ha_init_5 (by decide) ?_
  refine q_newa X.1 X.2.1 (atype := .int) (ty := .int) rfl ra_int (X.2.2.1 _ ar_int) X.2.2.2.2 1 (cE := E.2.1) rfl Y hA (N := (80)) (a0 := (80, .inl (fun _ => 0))) (fun cA => vz_int cA (80)) (nI_pos (by omega)) (nI_clamp (by omega)) (by decide) (show 0 + 1 ≤ 6 by omega) (show 0 + (80) ≤ (179) by omega) d_Ha_init_7 (fun q1 H hqq1 Y => ?_)
  have Y : pH D cCl (pA L sz) s.heap (L ++ [q1]) (va_up f q1 (.inl (E.2.1, 80, .inl (fun _ => 0)))) H locs := Y
  have e8 : (va_up f q1 (.inl (E.2.1, 80, .inl (fun _ => 0)))) q1 = .inl (E.2.1, 80, .inl (fun _ => 0)) := q_up
  have e9 : (va_up f q1 (.inl (E.2.1, 80, .inl (fun _ => 0)))) ho = .inr (6, [.null, .null, .null, .null, .null, .int (nI 0), .int (nI 0), .null]) := (q_ne (ne_mem hqq1 m_ho)).trans e_ho
  have nl6 : q1 ∉ L := fun h9 => hqq1 h9
  have hF10 : ∀ x, x ∈ L → x ≠ ho → (va_up f q1 (.inl (E.2.1, 80, .inl (fun _ => 0)))) x = f x := fun x hx h0 => (q_ne (ne_mem nl6 hx)).trans rfl
  generalize (va_up f q1 (.inl (E.2.1, 80, .inl (fun _ => 0)))) = f7 at Y e8 e9 hF10
  have s4 : ∀ x, x ∈ L → x ∈ L ++ [q1] := fun x hx => List.mem_append_left _ hx
  have m11 : ho ∈ L ++ [q1] := List.mem_append_left _ m_ho
  have m5 : q1 ∈ L ++ [q1] := List.mem_append_right _ (List.mem_singleton.mpr rfl)
  generalize L ++ [q1] = L2 at Y s4 m11 m5
  refine q_putF X.1 X.2.1 X.2.2.1 i_Ha t_Ha t_Ha_ok n_Ha X.2.2.2.1 X.2.2.2.2 Y m11 e9 rfl 0 (by decide) (X.2.2.1 _ lk_Ha_7) (fun _ h9 => h9) rfl hin rfl (t_Ha_ok 0 (by decide)) rfl rfl (Nat.le_of_ble_eq_true rfl) d_Ha_init_9 (fun H locs Y => ?_)
  have e13 : (va_up f7 ho (.inr (6, [.ref q1, .null, .null, .null, .null, .int (nI 0), .int (nI 0), .null]))) ho = .inr (6, [.ref q1, .null, .null, .null, .null, .int (nI 0), .int (nI 0), .null]) := q_up
  have e14 : (va_up f7 ho (.inr (6, [.ref q1, .null, .null, .null, .null, .int (nI 0), .int (nI 0), .null]))) q1 = .inl (E.2.1, 80, .inl (fun _ => 0)) := (q_ne (q_tag e8 e9 (show (1000 : Nat) ≠ 6 by decide))).trans e8
  have hF15 : ∀ x, x ∈ L → x ≠ ho → (va_up f7 ho (.inr (6, [.ref q1, .null, .null, .null, .null, .int (nI 0), .int (nI 0), .null]))) x = f x := fun x hx h0 => (q_ne h0).trans (hF10 x hx h0)
  have Y : pH D cCl (pA L sz) s.heap L2 (va_up f7 ho (.inr (6, [.ref q1, .null, .null, .null, .null, .int (nI 0), .int (nI 0), .null]))) H locs := Y
  generalize (va_up f7 ho (.inr (6, [.ref q1, .null, .null, .null, .null, .int (nI 0), .int (nI 0), .null]))) = f12 at Y e13 e14 hF15
  refine lv_aload_n X.1 X.2.1 d_Ha_init_12 rfl (lv_at hl 0 rfl) ?_
  refine lv_bipush (v := (nI 64)) X.1 X.2.1 d_Ha_init_13 (by decide) ?_
  refine q_newa X.1 X.2.1 (atype := .byte) (ty := .byte) rfl ra_byte (X.2.2.1 _ ar_byte) X.2.2.2.2 0 (cE := E.1) rfl Y hA (N := (64)) (a0 := (64, .inl (fun _ => 0))) (fun cA => vz_byte cA (64)) (nI_pos (by omega)) (nI_clamp (by omega)) (by decide) (show 1 + 1 ≤ 6 by omega) (show 80 + (64) ≤ (179) by omega) d_Ha_init_15 (fun q16 H hqq16 Y => ?_)
  have Y : pH D cCl (pA L sz) s.heap (L2 ++ [q16]) (va_up f12 q16 (.inl (E.1, 64, .inl (fun _ => 0)))) H locs := Y
  have e23 : (va_up f12 q16 (.inl (E.1, 64, .inl (fun _ => 0)))) q16 = .inl (E.1, 64, .inl (fun _ => 0)) := q_up
  have e24 : (va_up f12 q16 (.inl (E.1, 64, .inl (fun _ => 0)))) ho = .inr (6, [.ref q1, .null, .null, .null, .null, .int (nI 0), .int (nI 0), .null]) := (q_ne (ne_mem hqq16 m11)).trans e13
  have e25 : (va_up f12 q16 (.inl (E.1, 64, .inl (fun _ => 0)))) q1 = .inl (E.2.1, 80, .inl (fun _ => 0)) := (q_ne (ne_mem hqq16 m5)).trans e14
  have nl21 : q16 ∉ L := fun h9 => hqq16 (s4 _ h9)
  have hF26 : ∀ x, x ∈ L → x ≠ ho → (va_up f12 q16 (.inl (E.1, 64, .inl (fun _ => 0)))) x = f x := fun x hx h0 => (q_ne (ne_mem nl21 hx)).trans (hF15 x hx h0)
  generalize (va_up f12 q16 (.inl (E.1, 64, .inl (fun _ => 0)))) = f22 at Y e23 e24 e25 hF26
  have s19 : ∀ x, x ∈ L → x ∈ L2 ++ [q16] := fun x hx => List.mem_append_left _ (s4 x hx)
  have m27 : ho ∈ L2 ++ [q16] := List.mem_append_left _ m11
  have m28 : q1 ∈ L2 ++ [q16] := List.mem_append_left _ m5
  have m20 : q16 ∈ L2 ++ [q16] := List.mem_append_right _ (List.mem_singleton.mpr rfl)
  generalize L2 ++ [q16] = L17 at Y s19 m27 m28 m20
  refine q_putF X.1 X.2.1 X.2.2.1 i_Ha t_Ha t_Ha_ok n_Ha X.2.2.2.1 X.2.2.2.2 Y m27 e24 rfl 1 (by decide) (X.2.2.1 _ lk_Ha_13) (fun _ h9 => h9) rfl hin rfl (t_Ha_ok 1 (by decide)) rfl rfl (Nat.le_of_ble_eq_true rfl) d_Ha_init_17 (fun H locs Y => ?_)
  have e30 : (va_up f22 ho (.inr (6, [.ref q1, .ref q16, .null, .null, .null, .int (nI 0), .int (nI 0), .null]))) ho = .inr (6, [.ref q1, .ref q16, .null, .null, .null, .int (nI 0), .int (nI 0), .null]) := q_up
  have e31 : (va_up f22 ho (.inr (6, [.ref q1, .ref q16, .null, .null, .null, .int (nI 0), .int (nI 0), .null]))) q1 = .inl (E.2.1, 80, .inl (fun _ => 0)) := (q_ne (q_tag e25 e24 (show (1000 : Nat) ≠ 6 by decide))).trans e25
  have e32 : (va_up f22 ho (.inr (6, [.ref q1, .ref q16, .null, .null, .null, .int (nI 0), .int (nI 0), .null]))) q16 = .inl (E.1, 64, .inl (fun _ => 0)) := (q_ne (q_tag e23 e24 (show (1000 : Nat) ≠ 6 by decide))).trans e23
  have hF33 : ∀ x, x ∈ L → x ≠ ho → (va_up f22 ho (.inr (6, [.ref q1, .ref q16, .null, .null, .null, .int (nI 0), .int (nI 0), .null]))) x = f x := fun x hx h0 => (q_ne h0).trans (hF26 x hx h0)
  have Y : pH D cCl (pA L sz) s.heap L17 (va_up f22 ho (.inr (6, [.ref q1, .ref q16, .null, .null, .null, .int (nI 0), .int (nI 0), .null]))) H locs := Y
  generalize (va_up f22 ho (.inr (6, [.ref q1, .ref q16, .null, .null, .null, .int (nI 0), .int (nI 0), .null]))) = f29 at Y e30 e31 e32 hF33
  refine lv_aload_n X.1 X.2.1 d_Ha_init_20 rfl (lv_at hl 0 rfl) ?_
  refine lv_iconst (v := (nI 5)) X.1 X.2.1 d_Ha_init_21 (by decide) ?_
  refine q_newa X.1 X.2.1 (atype := .int) (ty := .int) rfl ra_int (X.2.2.1 _ ar_int) X.2.2.2.2 1 (cE := E.2.1) rfl Y hA (N := (5)) (a0 := (5, .inl (fun _ => 0))) (fun cA => vz_int cA (5)) (nI_pos (by omega)) (nI_clamp (by omega)) (by decide) (show 2 + 1 ≤ 6 by omega) (show 144 + (5) ≤ (179) by omega) d_Ha_init_22 (fun q34 H hqq34 Y => ?_)
  have Y : pH D cCl (pA L sz) s.heap (L17 ++ [q34]) (va_up f29 q34 (.inl (E.2.1, 5, .inl (fun _ => 0)))) H locs := Y
  have e41 : (va_up f29 q34 (.inl (E.2.1, 5, .inl (fun _ => 0)))) q34 = .inl (E.2.1, 5, .inl (fun _ => 0)) := q_up
  have e42 : (va_up f29 q34 (.inl (E.2.1, 5, .inl (fun _ => 0)))) ho = .inr (6, [.ref q1, .ref q16, .null, .null, .null, .int (nI 0), .int (nI 0), .null]) := (q_ne (ne_mem hqq34 m27)).trans e30
  have e43 : (va_up f29 q34 (.inl (E.2.1, 5, .inl (fun _ => 0)))) q1 = .inl (E.2.1, 80, .inl (fun _ => 0)) := (q_ne (ne_mem hqq34 m28)).trans e31
  have e44 : (va_up f29 q34 (.inl (E.2.1, 5, .inl (fun _ => 0)))) q16 = .inl (E.1, 64, .inl (fun _ => 0)) := (q_ne (ne_mem hqq34 m20)).trans e32
  have nl39 : q34 ∉ L := fun h9 => hqq34 (s19 _ h9)
  have hF45 : ∀ x, x ∈ L → x ≠ ho → (va_up f29 q34 (.inl (E.2.1, 5, .inl (fun _ => 0)))) x = f x := fun x hx h0 => (q_ne (ne_mem nl39 hx)).trans (hF33 x hx h0)
  generalize (va_up f29 q34 (.inl (E.2.1, 5, .inl (fun _ => 0)))) = f40 at Y e41 e42 e43 e44 hF45
  have s37 : ∀ x, x ∈ L → x ∈ L17 ++ [q34] := fun x hx => List.mem_append_left _ (s19 x hx)
  have m46 : ho ∈ L17 ++ [q34] := List.mem_append_left _ m27
  have m47 : q1 ∈ L17 ++ [q34] := List.mem_append_left _ m28
  have m48 : q16 ∈ L17 ++ [q34] := List.mem_append_left _ m20
  have m38 : q34 ∈ L17 ++ [q34] := List.mem_append_right _ (List.mem_singleton.mpr rfl)
  generalize L17 ++ [q34] = L35 at Y s37 m46 m47 m48 m38
  refine q_putF X.1 X.2.1 X.2.2.1 i_Ha t_Ha t_Ha_ok n_Ha X.2.2.2.1 X.2.2.2.2 Y m46 e42 rfl 2 (by decide) (X.2.2.1 _ lk_Ha_17) (fun _ h9 => h9) rfl hin rfl (t_Ha_ok 2 (by decide)) rfl rfl (Nat.le_of_ble_eq_true rfl) d_Ha_init_24 (fun H locs Y => ?_)
  have e50 : (va_up f40 ho (.inr (6, [.ref q1, .ref q16, .ref q34, .null, .null, .int (nI 0), .int (nI 0), .null]))) ho = .inr (6, [.ref q1, .ref q16, .ref q34, .null, .null, .int (nI 0), .int (nI 0), .null]) := q_up
  have e51 : (va_up f40 ho (.inr (6, [.ref q1, .ref q16, .ref q34, .null, .null, .int (nI 0), .int (nI 0), .null]))) q1 = .inl (E.2.1, 80, .inl (fun _ => 0)) := (q_ne (q_tag e43 e42 (show (1000 : Nat) ≠ 6 by decide))).trans e43
  have e52 : (va_up f40 ho (.inr (6, [.ref q1, .ref q16, .ref q34, .null, .null, .int (nI 0), .int (nI 0), .null]))) q16 = .inl (E.1, 64, .inl (fun _ => 0)) := (q_ne (q_tag e44 e42 (show (1000 : Nat) ≠ 6 by decide))).trans e44
  have e53 : (va_up f40 ho (.inr (6, [.ref q1, .ref q16, .ref q34, .null, .null, .int (nI 0), .int (nI 0), .null]))) q34 = .inl (E.2.1, 5, .inl (fun _ => 0)) := (q_ne (q_tag e41 e42 (show (1000 : Nat) ≠ 6 by decide))).trans e41
  have hF54 : ∀ x, x ∈ L → x ≠ ho → (va_up f40 ho (.inr (6, [.ref q1, .ref q16, .ref q34, .null, .null, .int (nI 0), .int (nI 0), .null]))) x = f x := fun x hx h0 => (q_ne h0).trans (hF45 x hx h0)
  have Y : pH D cCl (pA L sz) s.heap L35 (va_up f40 ho (.inr (6, [.ref q1, .ref q16, .ref q34, .null, .null, .int (nI 0), .int (nI 0), .null]))) H locs := Y
  generalize (va_up f40 ho (.inr (6, [.ref q1, .ref q16, .ref q34, .null, .null, .int (nI 0), .int (nI 0), .null]))) = f49 at Y e50 e51 e52 e53 hF54
  refine lv_aload_n X.1 X.2.1 d_Ha_init_27 rfl (lv_at hl 0 rfl) ?_
  refine lv_iconst (v := (nI 5)) X.1 X.2.1 d_Ha_init_28 (by decide) ?_
  refine q_newa X.1 X.2.1 (atype := .int) (ty := .int) rfl ra_int (X.2.2.1 _ ar_int) X.2.2.2.2 1 (cE := E.2.1) rfl Y hA (N := (5)) (a0 := (5, .inl (fun _ => 0))) (fun cA => vz_int cA (5)) (nI_pos (by omega)) (nI_clamp (by omega)) (by decide) (show 3 + 1 ≤ 6 by omega) (show 149 + (5) ≤ (179) by omega) d_Ha_init_29 (fun q55 H hqq55 Y => ?_)
  have Y : pH D cCl (pA L sz) s.heap (L35 ++ [q55]) (va_up f49 q55 (.inl (E.2.1, 5, .inl (fun _ => 0)))) H locs := Y
  have e62 : (va_up f49 q55 (.inl (E.2.1, 5, .inl (fun _ => 0)))) q55 = .inl (E.2.1, 5, .inl (fun _ => 0)) := q_up
  have e63 : (va_up f49 q55 (.inl (E.2.1, 5, .inl (fun _ => 0)))) ho = .inr (6, [.ref q1, .ref q16, .ref q34, .null, .null, .int (nI 0), .int (nI 0), .null]) := (q_ne (ne_mem hqq55 m46)).trans e50
  have e64 : (va_up f49 q55 (.inl (E.2.1, 5, .inl (fun _ => 0)))) q1 = .inl (E.2.1, 80, .inl (fun _ => 0)) := (q_ne (ne_mem hqq55 m47)).trans e51
  have e65 : (va_up f49 q55 (.inl (E.2.1, 5, .inl (fun _ => 0)))) q16 = .inl (E.1, 64, .inl (fun _ => 0)) := (q_ne (ne_mem hqq55 m48)).trans e52
  have e66 : (va_up f49 q55 (.inl (E.2.1, 5, .inl (fun _ => 0)))) q34 = .inl (E.2.1, 5, .inl (fun _ => 0)) := (q_ne (ne_mem hqq55 m38)).trans e53
  have nl60 : q55 ∉ L := fun h9 => hqq55 (s37 _ h9)
  have hF67 : ∀ x, x ∈ L → x ≠ ho → (va_up f49 q55 (.inl (E.2.1, 5, .inl (fun _ => 0)))) x = f x := fun x hx h0 => (q_ne (ne_mem nl60 hx)).trans (hF54 x hx h0)
  generalize (va_up f49 q55 (.inl (E.2.1, 5, .inl (fun _ => 0)))) = f61 at Y e62 e63 e64 e65 e66 hF67
  have s58 : ∀ x, x ∈ L → x ∈ L35 ++ [q55] := fun x hx => List.mem_append_left _ (s37 x hx)
  have m68 : ho ∈ L35 ++ [q55] := List.mem_append_left _ m46
  have m69 : q1 ∈ L35 ++ [q55] := List.mem_append_left _ m47
  have m70 : q16 ∈ L35 ++ [q55] := List.mem_append_left _ m48
  have m71 : q34 ∈ L35 ++ [q55] := List.mem_append_left _ m38
  have m59 : q55 ∈ L35 ++ [q55] := List.mem_append_right _ (List.mem_singleton.mpr rfl)
  generalize L35 ++ [q55] = L56 at Y s58 m68 m69 m70 m71 m59
  refine q_putF X.1 X.2.1 X.2.2.1 i_Ha t_Ha t_Ha_ok n_Ha X.2.2.2.1 X.2.2.2.2 Y m68 e63 rfl 3 (by decide) (X.2.2.1 _ lk_Ha_20) (fun _ h9 => h9) rfl hin rfl (t_Ha_ok 3 (by decide)) rfl rfl (Nat.le_of_ble_eq_true rfl) d_Ha_init_31 (fun H locs Y => ?_)
  have e73 : (va_up f61 ho (.inr (6, [.ref q1, .ref q16, .ref q34, .ref q55, .null, .int (nI 0), .int (nI 0), .null]))) ho = .inr (6, [.ref q1, .ref q16, .ref q34, .ref q55, .null, .int (nI 0), .int (nI 0), .null]) := q_up
  have e74 : (va_up f61 ho (.inr (6, [.ref q1, .ref q16, .ref q34, .ref q55, .null, .int (nI 0), .int (nI 0), .null]))) q1 = .inl (E.2.1, 80, .inl (fun _ => 0)) := (q_ne (q_tag e64 e63 (show (1000 : Nat) ≠ 6 by decide))).trans e64
  have e75 : (va_up f61 ho (.inr (6, [.ref q1, .ref q16, .ref q34, .ref q55, .null, .int (nI 0), .int (nI 0), .null]))) q16 = .inl (E.1, 64, .inl (fun _ => 0)) := (q_ne (q_tag e65 e63 (show (1000 : Nat) ≠ 6 by decide))).trans e65
  have e76 : (va_up f61 ho (.inr (6, [.ref q1, .ref q16, .ref q34, .ref q55, .null, .int (nI 0), .int (nI 0), .null]))) q34 = .inl (E.2.1, 5, .inl (fun _ => 0)) := (q_ne (q_tag e66 e63 (show (1000 : Nat) ≠ 6 by decide))).trans e66
  have e77 : (va_up f61 ho (.inr (6, [.ref q1, .ref q16, .ref q34, .ref q55, .null, .int (nI 0), .int (nI 0), .null]))) q55 = .inl (E.2.1, 5, .inl (fun _ => 0)) := (q_ne (q_tag e62 e63 (show (1000 : Nat) ≠ 6 by decide))).trans e62
  have hF78 : ∀ x, x ∈ L → x ≠ ho → (va_up f61 ho (.inr (6, [.ref q1, .ref q16, .ref q34, .ref q55, .null, .int (nI 0), .int (nI 0), .null]))) x = f x := fun x hx h0 => (q_ne h0).trans (hF67 x hx h0)
  have Y : pH D cCl (pA L sz) s.heap L56 (va_up f61 ho (.inr (6, [.ref q1, .ref q16, .ref q34, .ref q55, .null, .int (nI 0), .int (nI 0), .null]))) H locs := Y
  generalize (va_up f61 ho (.inr (6, [.ref q1, .ref q16, .ref q34, .ref q55, .null, .int (nI 0), .int (nI 0), .null]))) = f72 at Y e73 e74 e75 e76 e77 hF78
  refine lv_aload_n X.1 X.2.1 d_Ha_init_34 rfl (lv_at hl 0 rfl) ?_
  refine lv_iconst (v := (nI 5)) X.1 X.2.1 d_Ha_init_35 (by decide) ?_
  refine q_newa X.1 X.2.1 (atype := .int) (ty := .int) rfl ra_int (X.2.2.1 _ ar_int) X.2.2.2.2 1 (cE := E.2.1) rfl Y hA (N := (5)) (a0 := (5, .inl (fun _ => 0))) (fun cA => vz_int cA (5)) (nI_pos (by omega)) (nI_clamp (by omega)) (by decide) (show 4 + 1 ≤ 6 by omega) (show 154 + (5) ≤ (179) by omega) d_Ha_init_36 (fun q79 H hqq79 Y => ?_)
  have Y : pH D cCl (pA L sz) s.heap (L56 ++ [q79]) (va_up f72 q79 (.inl (E.2.1, 5, .inl (fun _ => 0)))) H locs := Y
  have e86 : (va_up f72 q79 (.inl (E.2.1, 5, .inl (fun _ => 0)))) q79 = .inl (E.2.1, 5, .inl (fun _ => 0)) := q_up
  have e87 : (va_up f72 q79 (.inl (E.2.1, 5, .inl (fun _ => 0)))) ho = .inr (6, [.ref q1, .ref q16, .ref q34, .ref q55, .null, .int (nI 0), .int (nI 0), .null]) := (q_ne (ne_mem hqq79 m68)).trans e73
  have e88 : (va_up f72 q79 (.inl (E.2.1, 5, .inl (fun _ => 0)))) q1 = .inl (E.2.1, 80, .inl (fun _ => 0)) := (q_ne (ne_mem hqq79 m69)).trans e74
  have e89 : (va_up f72 q79 (.inl (E.2.1, 5, .inl (fun _ => 0)))) q16 = .inl (E.1, 64, .inl (fun _ => 0)) := (q_ne (ne_mem hqq79 m70)).trans e75
  have e90 : (va_up f72 q79 (.inl (E.2.1, 5, .inl (fun _ => 0)))) q34 = .inl (E.2.1, 5, .inl (fun _ => 0)) := (q_ne (ne_mem hqq79 m71)).trans e76
  have e91 : (va_up f72 q79 (.inl (E.2.1, 5, .inl (fun _ => 0)))) q55 = .inl (E.2.1, 5, .inl (fun _ => 0)) := (q_ne (ne_mem hqq79 m59)).trans e77
  have nl84 : q79 ∉ L := fun h9 => hqq79 (s58 _ h9)
  have hF92 : ∀ x, x ∈ L → x ≠ ho → (va_up f72 q79 (.inl (E.2.1, 5, .inl (fun _ => 0)))) x = f x := fun x hx h0 => (q_ne (ne_mem nl84 hx)).trans (hF78 x hx h0)
  generalize (va_up f72 q79 (.inl (E.2.1, 5, .inl (fun _ => 0)))) = f85 at Y e86 e87 e88 e89 e90 e91 hF92
  have s82 : ∀ x, x ∈ L → x ∈ L56 ++ [q79] := fun x hx => List.mem_append_left _ (s58 x hx)
  have m93 : ho ∈ L56 ++ [q79] := List.mem_append_left _ m68
  have m94 : q1 ∈ L56 ++ [q79] := List.mem_append_left _ m69
  have m95 : q16 ∈ L56 ++ [q79] := List.mem_append_left _ m70
  have m96 : q34 ∈ L56 ++ [q79] := List.mem_append_left _ m71
  have m97 : q55 ∈ L56 ++ [q79] := List.mem_append_left _ m59
  have m83 : q79 ∈ L56 ++ [q79] := List.mem_append_right _ (List.mem_singleton.mpr rfl)
  generalize L56 ++ [q79] = L80 at Y s82 m93 m94 m95 m96 m97 m83
  refine q_putF X.1 X.2.1 X.2.2.1 i_Ha t_Ha t_Ha_ok n_Ha X.2.2.2.1 X.2.2.2.2 Y m93 e87 rfl 4 (by decide) (X.2.2.1 _ lk_Ha_23) (fun _ h9 => h9) rfl hin rfl (t_Ha_ok 4 (by decide)) rfl rfl (Nat.le_of_ble_eq_true rfl) d_Ha_init_38 (fun H locs Y => ?_)
  have e99 : (va_up f85 ho (.inr (6, [.ref q1, .ref q16, .ref q34, .ref q55, .ref q79, .int (nI 0), .int (nI 0), .null]))) ho = .inr (6, [.ref q1, .ref q16, .ref q34, .ref q55, .ref q79, .int (nI 0), .int (nI 0), .null]) := q_up
  have e100 : (va_up f85 ho (.inr (6, [.ref q1, .ref q16, .ref q34, .ref q55, .ref q79, .int (nI 0), .int (nI 0), .null]))) q1 = .inl (E.2.1, 80, .inl (fun _ => 0)) := (q_ne (q_tag e88 e87 (show (1000 : Nat) ≠ 6 by decide))).trans e88
  have e101 : (va_up f85 ho (.inr (6, [.ref q1, .ref q16, .ref q34, .ref q55, .ref q79, .int (nI 0), .int (nI 0), .null]))) q16 = .inl (E.1, 64, .inl (fun _ => 0)) := (q_ne (q_tag e89 e87 (show (1000 : Nat) ≠ 6 by decide))).trans e89
  have e102 : (va_up f85 ho (.inr (6, [.ref q1, .ref q16, .ref q34, .ref q55, .ref q79, .int (nI 0), .int (nI 0), .null]))) q34 = .inl (E.2.1, 5, .inl (fun _ => 0)) := (q_ne (q_tag e90 e87 (show (1000 : Nat) ≠ 6 by decide))).trans e90
  have e103 : (va_up f85 ho (.inr (6, [.ref q1, .ref q16, .ref q34, .ref q55, .ref q79, .int (nI 0), .int (nI 0), .null]))) q55 = .inl (E.2.1, 5, .inl (fun _ => 0)) := (q_ne (q_tag e91 e87 (show (1000 : Nat) ≠ 6 by decide))).trans e91
  have e104 : (va_up f85 ho (.inr (6, [.ref q1, .ref q16, .ref q34, .ref q55, .ref q79, .int (nI 0), .int (nI 0), .null]))) q79 = .inl (E.2.1, 5, .inl (fun _ => 0)) := (q_ne (q_tag e86 e87 (show (1000 : Nat) ≠ 6 by decide))).trans e86
  have hF105 : ∀ x, x ∈ L → x ≠ ho → (va_up f85 ho (.inr (6, [.ref q1, .ref q16, .ref q34, .ref q55, .ref q79, .int (nI 0), .int (nI 0), .null]))) x = f x := fun x hx h0 => (q_ne h0).trans (hF92 x hx h0)
  have Y : pH D cCl (pA L sz) s.heap L80 (va_up f85 ho (.inr (6, [.ref q1, .ref q16, .ref q34, .ref q55, .ref q79, .int (nI 0), .int (nI 0), .null]))) H locs := Y
  generalize (va_up f85 ho (.inr (6, [.ref q1, .ref q16, .ref q34, .ref q55, .ref q79, .int (nI 0), .int (nI 0), .null]))) = f98 at Y e99 e100 e101 e102 e103 e104 hF105
  refine lv_aload_n X.1 X.2.1 d_Ha_init_41 rfl (lv_at hl 0 rfl) ?_
  refine lv_bipush (v := (nI 20)) X.1 X.2.1 d_Ha_init_42 (by decide) ?_
  refine q_newa X.1 X.2.1 (atype := .byte) (ty := .byte) rfl ra_byte (X.2.2.1 _ ar_byte) X.2.2.2.2 0 (cE := E.1) rfl Y hA (N := (20)) (a0 := (20, .inl (fun _ => 0))) (fun cA => vz_byte cA (20)) (nI_pos (by omega)) (nI_clamp (by omega)) (by decide) (show 5 + 1 ≤ 6 by omega) (show 159 + (20) ≤ (179) by omega) d_Ha_init_44 (fun q106 H hqq106 Y => ?_)
  have Y : pH D cCl (pA L sz) s.heap (L80 ++ [q106]) (va_up f98 q106 (.inl (E.1, 20, .inl (fun _ => 0)))) H locs := Y
  have e113 : (va_up f98 q106 (.inl (E.1, 20, .inl (fun _ => 0)))) q106 = .inl (E.1, 20, .inl (fun _ => 0)) := q_up
  have e114 : (va_up f98 q106 (.inl (E.1, 20, .inl (fun _ => 0)))) ho = .inr (6, [.ref q1, .ref q16, .ref q34, .ref q55, .ref q79, .int (nI 0), .int (nI 0), .null]) := (q_ne (ne_mem hqq106 m93)).trans e99
  have e115 : (va_up f98 q106 (.inl (E.1, 20, .inl (fun _ => 0)))) q1 = .inl (E.2.1, 80, .inl (fun _ => 0)) := (q_ne (ne_mem hqq106 m94)).trans e100
  have e116 : (va_up f98 q106 (.inl (E.1, 20, .inl (fun _ => 0)))) q16 = .inl (E.1, 64, .inl (fun _ => 0)) := (q_ne (ne_mem hqq106 m95)).trans e101
  have e117 : (va_up f98 q106 (.inl (E.1, 20, .inl (fun _ => 0)))) q34 = .inl (E.2.1, 5, .inl (fun _ => 0)) := (q_ne (ne_mem hqq106 m96)).trans e102
  have e118 : (va_up f98 q106 (.inl (E.1, 20, .inl (fun _ => 0)))) q55 = .inl (E.2.1, 5, .inl (fun _ => 0)) := (q_ne (ne_mem hqq106 m97)).trans e103
  have e119 : (va_up f98 q106 (.inl (E.1, 20, .inl (fun _ => 0)))) q79 = .inl (E.2.1, 5, .inl (fun _ => 0)) := (q_ne (ne_mem hqq106 m83)).trans e104
  have nl111 : q106 ∉ L := fun h9 => hqq106 (s82 _ h9)
  have hF120 : ∀ x, x ∈ L → x ≠ ho → (va_up f98 q106 (.inl (E.1, 20, .inl (fun _ => 0)))) x = f x := fun x hx h0 => (q_ne (ne_mem nl111 hx)).trans (hF105 x hx h0)
  generalize (va_up f98 q106 (.inl (E.1, 20, .inl (fun _ => 0)))) = f112 at Y e113 e114 e115 e116 e117 e118 e119 hF120
  have s109 : ∀ x, x ∈ L → x ∈ L80 ++ [q106] := fun x hx => List.mem_append_left _ (s82 x hx)
  have m121 : ho ∈ L80 ++ [q106] := List.mem_append_left _ m93
  have m122 : q1 ∈ L80 ++ [q106] := List.mem_append_left _ m94
  have m123 : q16 ∈ L80 ++ [q106] := List.mem_append_left _ m95
  have m124 : q34 ∈ L80 ++ [q106] := List.mem_append_left _ m96
  have m125 : q55 ∈ L80 ++ [q106] := List.mem_append_left _ m97
  have m126 : q79 ∈ L80 ++ [q106] := List.mem_append_left _ m83
  have m110 : q106 ∈ L80 ++ [q106] := List.mem_append_right _ (List.mem_singleton.mpr rfl)
  generalize L80 ++ [q106] = L107 at Y s109 m121 m122 m123 m124 m125 m126 m110
  refine q_putF X.1 X.2.1 X.2.2.1 i_Ha t_Ha t_Ha_ok n_Ha X.2.2.2.1 X.2.2.2.2 Y m121 e114 rfl 7 (by decide) (X.2.2.1 _ lk_Ha_26) (fun _ h9 => h9) rfl hin rfl (t_Ha_ok 7 (by decide)) rfl rfl (Nat.le_of_ble_eq_true rfl) d_Ha_init_46 (fun H locs Y => ?_)
  have e128 : (va_up f112 ho (.inr (6, [.ref q1, .ref q16, .ref q34, .ref q55, .ref q79, .int (nI 0), .int (nI 0), .ref q106]))) ho = .inr (6, [.ref q1, .ref q16, .ref q34, .ref q55, .ref q79, .int (nI 0), .int (nI 0), .ref q106]) := q_up
  have e129 : (va_up f112 ho (.inr (6, [.ref q1, .ref q16, .ref q34, .ref q55, .ref q79, .int (nI 0), .int (nI 0), .ref q106]))) q1 = .inl (E.2.1, 80, .inl (fun _ => 0)) := (q_ne (q_tag e115 e114 (show (1000 : Nat) ≠ 6 by decide))).trans e115
  have e130 : (va_up f112 ho (.inr (6, [.ref q1, .ref q16, .ref q34, .ref q55, .ref q79, .int (nI 0), .int (nI 0), .ref q106]))) q16 = .inl (E.1, 64, .inl (fun _ => 0)) := (q_ne (q_tag e116 e114 (show (1000 : Nat) ≠ 6 by decide))).trans e116
  have e131 : (va_up f112 ho (.inr (6, [.ref q1, .ref q16, .ref q34, .ref q55, .ref q79, .int (nI 0), .int (nI 0), .ref q106]))) q34 = .inl (E.2.1, 5, .inl (fun _ => 0)) := (q_ne (q_tag e117 e114 (show (1000 : Nat) ≠ 6 by decide))).trans e117
  have e132 : (va_up f112 ho (.inr (6, [.ref q1, .ref q16, .ref q34, .ref q55, .ref q79, .int (nI 0), .int (nI 0), .ref q106]))) q55 = .inl (E.2.1, 5, .inl (fun _ => 0)) := (q_ne (q_tag e118 e114 (show (1000 : Nat) ≠ 6 by decide))).trans e118
  have e133 : (va_up f112 ho (.inr (6, [.ref q1, .ref q16, .ref q34, .ref q55, .ref q79, .int (nI 0), .int (nI 0), .ref q106]))) q79 = .inl (E.2.1, 5, .inl (fun _ => 0)) := (q_ne (q_tag e119 e114 (show (1000 : Nat) ≠ 6 by decide))).trans e119
  have e134 : (va_up f112 ho (.inr (6, [.ref q1, .ref q16, .ref q34, .ref q55, .ref q79, .int (nI 0), .int (nI 0), .ref q106]))) q106 = .inl (E.1, 20, .inl (fun _ => 0)) := (q_ne (q_tag e113 e114 (show (1000 : Nat) ≠ 6 by decide))).trans e113
  have hF135 : ∀ x, x ∈ L → x ≠ ho → (va_up f112 ho (.inr (6, [.ref q1, .ref q16, .ref q34, .ref q55, .ref q79, .int (nI 0), .int (nI 0), .ref q106]))) x = f x := fun x hx h0 => (q_ne h0).trans (hF120 x hx h0)
  have Y : pH D cCl (pA L sz) s.heap L107 (va_up f112 ho (.inr (6, [.ref q1, .ref q16, .ref q34, .ref q55, .ref q79, .int (nI 0), .int (nI 0), .ref q106]))) H locs := Y
  generalize (va_up f112 ho (.inr (6, [.ref q1, .ref q16, .ref q34, .ref q55, .ref q79, .int (nI 0), .int (nI 0), .ref q106]))) = f127 at Y e128 e129 e130 e131 e132 e133 e134 hF135
  refine W.cs (cells' := 6) (slots' := 179) (by omega) (by omega) ?_
  exact c_retv hQQ X Y hr hlk ⟨s109, hF135, q1, q16, q34, q55, q79, q106, (fun _ => 0), (fun _ => 0), (fun _ => 0), (fun _ => 0), (fun _ => 0), (fun _ => 0), m122, nl6, m123, nl21, m124, nl39, m125, nl60, m126, nl84, m110, nl111, (ne_mem hqq16 m5), (ne_mem hqq34 m28), (ne_mem hqq55 m47), (ne_mem hqq79 m69), (ne_mem hqq106 m94), (ne_mem hqq34 m20), (ne_mem hqq55 m48), (ne_mem hqq79 m70), (ne_mem hqq106 m95), (ne_mem hqq55 m38), (ne_mem hqq79 m71), (ne_mem hqq106 m96), (ne_mem hqq79 m59), (ne_mem hqq106 m97), (ne_mem hqq106 m83), fB_0, fB_0, e128, e129, e130, e131, e132, e133, e134⟩ d_Ha_init_49
set_option maxHeartbeats 4000000 in
set_option maxRecDepth 100000 in
theorem c_By_body (l : Launch) (D : va_G) (E : cE) (T : cT) (L : List Nat) (f : pF) (sz : Nat) (a1 : Int32) (N b r n : Nat) (g_r : Nat → Int32) (m_b : b ∈ L) (m_r : r ∈ L) (e_b : f b = .inr (3, [.ref r, .int (nI n)])) (e_r : f r = .inl (E.1, N, .inl g_r)) (f_r : fB g_r) (hh0 : n ≤ N) (hh1 : N < 100000) (hh2 : a1 < nI n) : Met l y_By_body (k_By_body :: lw_tg) (kRm 0 0 0 (0)) (va_Pc [.ref b, .int a1] (kPre D E T L f sz)) (va_Qi (fun (r0 : Int32) (u : cU) => u.1 = L ∧ (∀ x, u.2 x = f x) ∧ (True)) (cPost D E (pA L sz)) (pA L sz)) 0 (0) (pA L sz) := by
  refine k_enter (own := R_By) (by decide) rfl (Nat.le_of_ble_eq_true rfl) (fun p e s m below meth c ls AV QQ H locs hQQ X Y hA hin hr hlk hml hl KS KR => ?_)
  have hl : lv_has ls 3 [(0, .ref b), (1, .int a1)] := hl
  refine lv_iload_n X.1 X.2.1 d_By_body_0 rfl (lv_at hl 1 rfl) ?_
  refine lv_if_lt (tgt := 14) X.1 X.2.1 d_By_body_1 (by decide) (fun c1 => ?_) (fun c1 => ?_)
  · skip
    refine lv_iconst (v := (-1)) X.1 X.2.1 d_By_body_14 (by decide) ?_
    exact c_reti hQQ X Y hr hlk ⟨rfl, (fun _ => rfl), trivial⟩ d_By_body_15
  · skip
    obtain ⟨k1, hk1, ek1⟩ := nI_of c1
    have hkn : k1 < n := by have h9 := hh2; rw [ek1, nI_ltI (by omega) (by omega)] at h9; exact h9
    refine lv_iload_n X.1 X.2.1 d_By_body_4 rfl (lv_at hl 1 rfl) ?_
    refine t_eq ek1 ?_
    refine lv_iconst (v := (nI 1)) X.1 X.2.1 d_By_body_5 (by decide) ?_
    refine lv_iadd X.1 X.2.1 d_By_body_6 ?_
    refine t_eq (y := nI (k1 + 1)) (nI_add _ _) ?_
    refine lv_aload_n X.1 X.2.1 d_By_body_7 rfl (lv_at hl 0 rfl) ?_
    refine q_get X.1 X.2.1 X.2.2.1 i_By X.2.2.2.1 X.2.2.2.2 Y m_b e_b rfl 1 (by decide) (X.2.2.1 _ lk_By_21) (fun _ h9 => h9) rfl d_By_body_8 ?_
    refine lv_icmp_lt (tgt := 16) X.1 X.2.1 d_By_body_11 (by decide) (fun c2 => ?_) (fun c2 => ?_)
    · skip
      rw [nI_ltI (by omega) (by omega)] at c2
      refine lv_aload_n X.1 X.2.1 d_By_body_16 rfl (lv_at hl 0 rfl) ?_
      refine q_get X.1 X.2.1 X.2.2.1 i_By X.2.2.2.1 X.2.2.2.2 Y m_b e_b rfl 0 (by decide) (X.2.2.1 _ lk_By_15) (fun _ h9 => h9) rfl d_By_body_17 ?_
      refine lv_iload_n X.1 X.2.1 d_By_body_20 rfl (lv_at hl 1 rfl) ?_
      refine t_eq ek1 ?_
      refine lv_iconst (v := (nI 1)) X.1 X.2.1 d_By_body_21 (by decide) ?_
      refine lv_iadd X.1 X.2.1 d_By_body_22 ?_
      refine t_eq (y := nI (k1 + 1)) (nI_add _ _) ?_
      refine q_bald X.1 X.2.1 X.2.2.2.2 Y 0 m_r e_r rfl (vp_in_nI (by omega) (by omega)) d_By_body_23 ?_
      refine t_any (fun v3 => ?_)
      refine lv_sipush (v := (nI 255)) X.1 X.2.1 d_By_body_24 (by decide) ?_
      refine lv_iand X.1 X.2.1 d_By_body_27 ?_
      obtain ⟨j4, hj4, ej4⟩ := pk_andE v3 (m := nI 255) 8 (by decide)
      refine t_eq ej4 ?_
      have hj4 : j4 < 256 := hj4
      refine lv_istore_n (lv' := [(2, .int (nI j4)), (0, .ref b), (1, .int a1)]) X.1 X.2.1 d_By_body_28 rfl hl (by decide) rfl (fun ls hl => ?_)
      refine lv_iload_n X.1 X.2.1 d_By_body_29 rfl (lv_at hl 0 rfl) ?_
      refine lv_sipush (v := (nI 128)) X.1 X.2.1 d_By_body_30 (by decide) ?_
      refine lv_icmp_ge (tgt := 42) X.1 X.2.1 d_By_body_33 (by decide) (fun c5 => ?_) (fun c5 => ?_)
      · skip
        rw [nI_leI (by omega) (by omega)] at c5
        refine lv_iload_n X.1 X.2.1 d_By_body_42 rfl (lv_at hl 2 rfl) ?_
        refine t_eq ek1 ?_
        refine lv_iconst (v := (nI 2)) X.1 X.2.1 d_By_body_43 (by decide) ?_
        refine lv_iadd X.1 X.2.1 d_By_body_44 ?_
        refine t_eq (y := nI (k1 + 2)) (nI_add _ _) ?_
        refine lv_iload_n X.1 X.2.1 d_By_body_45 rfl (lv_at hl 0 rfl) ?_
        refine lv_iadd X.1 X.2.1 d_By_body_46 ?_
        refine t_eq (y := nI (k1 + 2 + j4)) (nI_add _ _) ?_
        refine lv_sipush (v := (nI 128)) X.1 X.2.1 d_By_body_47 (by decide) ?_
        refine lv_isub X.1 X.2.1 d_By_body_50 ?_
        refine t_eq (y := nI (k1 + 2 + j4 - (128))) (pk_sub (by omega)) ?_
        exact c_reti hQQ X Y hr hlk ⟨rfl, (fun _ => rfl), trivial⟩ d_By_body_51
      · skip
        rw [nI_leI (by omega) (by omega)] at c5
        refine lv_iload_n X.1 X.2.1 d_By_body_36 rfl (lv_at hl 2 rfl) ?_
        refine t_eq ek1 ?_
        refine lv_iconst (v := (nI 2)) X.1 X.2.1 d_By_body_37 (by decide) ?_
        refine lv_iadd X.1 X.2.1 d_By_body_38 ?_
        refine t_eq (y := nI (k1 + 2)) (nI_add _ _) ?_
        refine lv_goto (tgt := 51) X.1 X.2.1 d_By_body_39 (by decide) ?_
        exact c_reti hQQ X Y hr hlk ⟨rfl, (fun _ => rfl), trivial⟩ d_By_body_51
    · skip
      rw [nI_ltI (by omega) (by omega)] at c2
      refine lv_iconst (v := (-1)) X.1 X.2.1 d_By_body_14 (by decide) ?_
      exact c_reti hQQ X Y hr hlk ⟨rfl, (fun _ => rfl), trivial⟩ d_By_body_15
set_option maxHeartbeats 4000000 in
set_option maxRecDepth 100000 in
theorem c_By_stop (l : Launch) (D : va_G) (E : cE) (T : cT) (L : List Nat) (f : pF) (sz : Nat) (a1 : Int32) (tt : Nat) (N b r n : Nat) (g_r : Nat → Int32) (m_b : b ∈ L) (m_r : r ∈ L) (e_b : f b = .inr (3, [.ref r, .int (nI n)])) (e_r : f r = .inl (E.1, N, .inl g_r)) (f_r : fB g_r) (hh0 : n ≤ N) (hh1 : N < 100000) (hh2 : a1 < nI n) (hh3 : tt = n) : Met l y_By_stop (k_By_stop :: lw_tg) (kRm 0 0 0 (0)) (va_Pc [.ref b, .int a1, .int (nI tt)] (kPre D E T L f sz)) (va_Qi (fun (r0 : Int32) (u : cU) => u.1 = L ∧ (∀ x, u.2 x = f x) ∧ (True)) (cPost D E (pA L sz)) (pA L sz)) 0 (0) (pA L sz) := by
  refine k_enter (own := R_By) (by decide) rfl (Nat.le_of_ble_eq_true rfl) (fun p e s m below meth c ls AV QQ H locs hQQ X Y hA hin hr hlk hml hl KS KR => ?_)
  have hl : lv_has ls 6 [(0, .ref b), (1, .int a1), (2, .int (nI tt))] := hl
  refine lv_iload_n X.1 X.2.1 d_By_stop_0 rfl (lv_at hl 1 rfl) ?_
  refine lv_if_lt (tgt := 19) X.1 X.2.1 d_By_stop_1 (by decide) (fun c1 => ?_) (fun c1 => ?_)
  · skip
    refine lv_iconst (v := (-1)) X.1 X.2.1 d_By_stop_19 (by decide) ?_
    exact c_reti hQQ X Y hr hlk ⟨rfl, (fun _ => rfl), trivial⟩ d_By_stop_20
  · skip
    obtain ⟨k1, hk1, ek1⟩ := nI_of c1
    have hkn : k1 < n := by have h9 := hh2; rw [ek1, nI_ltI (by omega) (by omega)] at h9; exact h9
    refine lv_iload_n X.1 X.2.1 d_By_stop_4 rfl (lv_at hl 2 rfl) ?_
    refine lv_aload_n X.1 X.2.1 d_By_stop_5 rfl (lv_at hl 0 rfl) ?_
    refine q_get X.1 X.2.1 X.2.2.1 i_By X.2.2.2.1 X.2.2.2.2 Y m_b e_b rfl 1 (by decide) (X.2.2.1 _ lk_By_21) (fun _ h9 => h9) rfl d_By_stop_6 ?_
    refine lv_icmp_gt (tgt := 19) X.1 X.2.1 d_By_stop_9 (by decide) (fun c2 => ?_) (fun c2 => ?_)
    · skip
      rw [nI_ltI (by omega) (by omega)] at c2
      refine lv_iconst (v := (-1)) X.1 X.2.1 d_By_stop_19 (by decide) ?_
      exact c_reti hQQ X Y hr hlk ⟨rfl, (fun _ => rfl), trivial⟩ d_By_stop_20
    · skip
      rw [nI_ltI (by omega) (by omega)] at c2
      refine lv_iload_n X.1 X.2.1 d_By_stop_12 rfl (lv_at hl 2 rfl) ?_
      refine lv_iload_n X.1 X.2.1 d_By_stop_13 rfl (lv_at hl 1 rfl) ?_
      refine t_eq ek1 ?_
      refine lv_isub X.1 X.2.1 d_By_stop_14 ?_
      refine t_eq (y := nI (tt - (k1))) (pk_sub (by omega)) ?_
      refine lv_iconst (v := (nI 2)) X.1 X.2.1 d_By_stop_15 (by decide) ?_
      refine lv_icmp_ge (tgt := 21) X.1 X.2.1 d_By_stop_16 (by decide) (fun c3 => ?_) (fun c3 => ?_)
      · skip
        rw [nI_leI (by omega) (by omega)] at c3
        refine lv_aload_n X.1 X.2.1 d_By_stop_21 rfl (lv_at hl 0 rfl) ?_
        refine q_get X.1 X.2.1 X.2.2.1 i_By X.2.2.2.1 X.2.2.2.2 Y m_b e_b rfl 0 (by decide) (X.2.2.1 _ lk_By_15) (fun _ h9 => h9) rfl d_By_stop_22 ?_
        refine lv_iload_n X.1 X.2.1 d_By_stop_25 rfl (lv_at hl 1 rfl) ?_
        refine t_eq ek1 ?_
        refine lv_iconst (v := (nI 1)) X.1 X.2.1 d_By_stop_26 (by decide) ?_
        refine lv_iadd X.1 X.2.1 d_By_stop_27 ?_
        refine t_eq (y := nI (k1 + 1)) (nI_add _ _) ?_
        refine q_bald X.1 X.2.1 X.2.2.2.2 Y 0 m_r e_r rfl (vp_in_nI (by omega) (by omega)) d_By_stop_28 ?_
        refine t_any (fun v4 => ?_)
        refine lv_sipush (v := (nI 255)) X.1 X.2.1 d_By_stop_29 (by decide) ?_
        refine lv_iand X.1 X.2.1 d_By_stop_32 ?_
        obtain ⟨j5, hj5, ej5⟩ := pk_andE v4 (m := nI 255) 8 (by decide)
        refine t_eq ej5 ?_
        have hj5 : j5 < 256 := hj5
        refine lv_istore_n (lv' := [(3, .int (nI j5)), (0, .ref b), (1, .int a1), (2, .int (nI tt))]) X.1 X.2.1 d_By_stop_33 rfl hl (by decide) rfl (fun ls hl => ?_)
        refine lv_iload_n X.1 X.2.1 d_By_stop_34 rfl (lv_at hl 2 rfl) ?_
        refine t_eq ek1 ?_
        refine lv_iconst (v := (nI 2)) X.1 X.2.1 d_By_stop_35 (by decide) ?_
        refine lv_iadd X.1 X.2.1 d_By_stop_36 ?_
        refine t_eq (y := nI (k1 + 2)) (nI_add _ _) ?_
        refine lv_istore (lv' := [(4, .int (nI (k1 + 2))), (3, .int (nI j5)), (0, .ref b), (1, .int a1), (2, .int (nI tt))]) X.1 X.2.1 d_By_stop_37 hl (by decide) rfl (fun ls hl => ?_)
        refine lv_iload_n X.1 X.2.1 d_By_stop_39 rfl (lv_at hl 1 rfl) ?_
        refine lv_sipush (v := (nI 128)) X.1 X.2.1 d_By_stop_40 (by decide) ?_
        refine lv_icmp_lt (tgt := 154) X.1 X.2.1 d_By_stop_43 (by decide) (fun c6 => ?_) (fun c6 => ?_)
        · skip
          rw [nI_ltI (by omega) (by omega)] at c6
          refine lv_iload_n X.1 X.2.1 d_By_stop_154 rfl (lv_at hl 1 rfl) ?_
          refine lv_iload_n X.1 X.2.1 d_By_stop_155 rfl (lv_at hl 4 rfl) ?_
          refine lv_iload X.1 X.2.1 d_By_stop_156 (lv_at hl 0 rfl) ?_
          refine lv_isub X.1 X.2.1 d_By_stop_158 ?_
          refine t_eq (y := nI (tt - (k1 + 2))) (pk_sub (by omega)) ?_
          refine lv_icmp_gt (tgt := 169) X.1 X.2.1 d_By_stop_159 (by decide) (fun c7 => ?_) (fun c7 => ?_)
          · skip
            rw [nI_ltI (by omega) (by omega)] at c7
            refine lv_iconst (v := (-1)) X.1 X.2.1 d_By_stop_169 (by decide) ?_
            exact c_reti hQQ X Y hr hlk ⟨rfl, (fun _ => rfl), trivial⟩ d_By_stop_170
          · skip
            rw [nI_ltI (by omega) (by omega)] at c7
            refine lv_iload X.1 X.2.1 d_By_stop_162 (lv_at hl 0 rfl) ?_
            refine lv_iload_n X.1 X.2.1 d_By_stop_164 rfl (lv_at hl 1 rfl) ?_
            refine lv_iadd X.1 X.2.1 d_By_stop_165 ?_
            refine t_eq (y := nI (k1 + 2 + j5)) (nI_add _ _) ?_
            refine lv_goto (tgt := 170) X.1 X.2.1 d_By_stop_166 (by decide) ?_
            exact c_reti hQQ X Y hr hlk ⟨rfl, (fun _ => rfl), trivial⟩ d_By_stop_170
        · skip
          rw [nI_ltI (by omega) (by omega)] at c6
          refine lv_iload_n X.1 X.2.1 d_By_stop_46 rfl (lv_at hl 1 rfl) ?_
          refine lv_sipush (v := (nI 128)) X.1 X.2.1 d_By_stop_47 (by decide) ?_
          refine lv_isub X.1 X.2.1 d_By_stop_50 ?_
          refine t_eq (y := nI (j5 - (128))) (pk_sub (by omega)) ?_
          refine lv_istore (lv' := [(5, .int (nI (j5 - (128)))), (4, .int (nI (k1 + 2))), (3, .int (nI j5)), (0, .ref b), (1, .int a1), (2, .int (nI tt))]) X.1 X.2.1 d_By_stop_51 hl (by decide) rfl (fun ls hl => ?_)
          refine lv_iload X.1 X.2.1 d_By_stop_53 (lv_at hl 0 rfl) ?_
          refine lv_iconst (v := (nI 1)) X.1 X.2.1 d_By_stop_55 (by decide) ?_
          refine lv_icmp_lt (tgt := 74) X.1 X.2.1 d_By_stop_56 (by decide) (fun c8 => ?_) (fun c8 => ?_)
          · skip
            rw [nI_ltI (by omega) (by omega)] at c8
            refine lv_iconst (v := (-1)) X.1 X.2.1 d_By_stop_74 (by decide) ?_
            exact c_reti hQQ X Y hr hlk ⟨rfl, (fun _ => rfl), trivial⟩ d_By_stop_75
          · skip
            rw [nI_ltI (by omega) (by omega)] at c8
            refine lv_iload X.1 X.2.1 d_By_stop_59 (lv_at hl 0 rfl) ?_
            refine lv_iconst (v := (nI 2)) X.1 X.2.1 d_By_stop_61 (by decide) ?_
            refine lv_icmp_gt (tgt := 74) X.1 X.2.1 d_By_stop_62 (by decide) (fun c9 => ?_) (fun c9 => ?_)
            · skip
              rw [nI_ltI (by omega) (by omega)] at c9
              refine lv_iconst (v := (-1)) X.1 X.2.1 d_By_stop_74 (by decide) ?_
              exact c_reti hQQ X Y hr hlk ⟨rfl, (fun _ => rfl), trivial⟩ d_By_stop_75
            · skip
              rw [nI_ltI (by omega) (by omega)] at c9
              refine lv_iload X.1 X.2.1 d_By_stop_65 (lv_at hl 0 rfl) ?_
              refine lv_iload_n X.1 X.2.1 d_By_stop_67 rfl (lv_at hl 5 rfl) ?_
              refine lv_iload X.1 X.2.1 d_By_stop_68 (lv_at hl 1 rfl) ?_
              refine lv_isub X.1 X.2.1 d_By_stop_70 ?_
              refine t_eq (y := nI (tt - (k1 + 2))) (pk_sub (by omega)) ?_
              refine lv_icmp_le (tgt := 76) X.1 X.2.1 d_By_stop_71 (by decide) (fun c10 => ?_) (fun c10 => ?_)
              · skip
                rw [nI_leI (by omega) (by omega)] at c10
                refine lv_iload X.1 X.2.1 d_By_stop_76 (lv_at hl 0 rfl) ?_
                refine lv_iconst (v := (nI 1)) X.1 X.2.1 d_By_stop_78 (by decide) ?_
                refine lv_icmp_ne (tgt := 96) X.1 X.2.1 d_By_stop_79 (by decide) (fun c11 => ?_) (fun c11 => ?_)
                · skip
                  rw [nI_eq (by omega) (by omega)] at c11
                  refine lv_aload_n X.1 X.2.1 d_By_stop_96 rfl (lv_at hl 3 rfl) ?_
                  refine q_get X.1 X.2.1 X.2.2.1 i_By X.2.2.2.1 X.2.2.2.2 Y m_b e_b rfl 0 (by decide) (X.2.2.1 _ lk_By_15) (fun _ h9 => h9) rfl d_By_stop_97 ?_
                  refine lv_iload X.1 X.2.1 d_By_stop_100 (lv_at hl 1 rfl) ?_
                  refine q_bald X.1 X.2.1 X.2.2.2.2 Y 0 m_r e_r rfl (vp_in_nI (by omega) (by omega)) d_By_stop_102 ?_
                  refine t_any (fun v12 => ?_)
                  refine lv_sipush (v := (nI 255)) X.1 X.2.1 d_By_stop_103 (by decide) ?_
                  refine lv_iand X.1 X.2.1 d_By_stop_106 ?_
                  obtain ⟨j13, hj13, ej13⟩ := pk_andE v12 (m := nI 255) 8 (by decide)
                  refine t_eq ej13 ?_
                  have hj13 : j13 < 256 := hj13
                  refine lv_sipush (v := (nI 256)) X.1 X.2.1 d_By_stop_107 (by decide) ?_
                  refine lv_imul X.1 X.2.1 d_By_stop_110 ?_
                  refine t_eq (y := nI ((j13) * (256))) (pk_mul _ _) ?_
                  refine lv_aload_n X.1 X.2.1 d_By_stop_111 rfl (lv_at hl 3 rfl) ?_
                  refine q_get X.1 X.2.1 X.2.2.1 i_By X.2.2.2.1 X.2.2.2.2 Y m_b e_b rfl 0 (by decide) (X.2.2.1 _ lk_By_15) (fun _ h9 => h9) rfl d_By_stop_112 ?_
                  refine lv_iload X.1 X.2.1 d_By_stop_115 (lv_at hl 1 rfl) ?_
                  refine lv_iconst (v := (nI 1)) X.1 X.2.1 d_By_stop_117 (by decide) ?_
                  refine lv_iadd X.1 X.2.1 d_By_stop_118 ?_
                  refine t_eq (y := nI (k1 + 2 + 1)) (nI_add _ _) ?_
                  refine q_bald X.1 X.2.1 X.2.2.2.2 Y 0 m_r e_r rfl (vp_in_nI (by omega) (by omega)) d_By_stop_119 ?_
                  refine t_any (fun v14 => ?_)
                  refine lv_sipush (v := (nI 255)) X.1 X.2.1 d_By_stop_120 (by decide) ?_
                  refine lv_iand X.1 X.2.1 d_By_stop_123 ?_
                  obtain ⟨j15, hj15, ej15⟩ := pk_andE v14 (m := nI 255) 8 (by decide)
                  refine t_eq ej15 ?_
                  have hj15 : j15 < 256 := hj15
                  refine lv_iadd X.1 X.2.1 d_By_stop_124 ?_
                  refine t_eq (y := nI ((j13) * (256) + j15)) (nI_add _ _) ?_
                  refine lv_istore_n (lv' := [(3, .int (nI ((j13) * (256) + j15))), (5, .int (nI (j5 - (128)))), (4, .int (nI (k1 + 2))), (0, .ref b), (1, .int a1), (2, .int (nI tt))]) X.1 X.2.1 d_By_stop_125 rfl hl (by decide) rfl (fun ls hl => ?_)
                  refine lv_iload X.1 X.2.1 d_By_stop_126 (lv_at hl 2 rfl) ?_
                  refine lv_iload X.1 X.2.1 d_By_stop_128 (lv_at hl 1 rfl) ?_
                  refine lv_iadd X.1 X.2.1 d_By_stop_130 ?_
                  refine t_eq (y := nI (k1 + 2 + (j5 - (128)))) (nI_add _ _) ?_
                  refine lv_istore (lv' := [(4, .int (nI (k1 + 2 + (j5 - (128))))), (3, .int (nI ((j13) * (256) + j15))), (5, .int (nI (j5 - (128)))), (0, .ref b), (1, .int a1), (2, .int (nI tt))]) X.1 X.2.1 d_By_stop_131 hl (by decide) rfl (fun ls hl => ?_)
                  refine lv_iload_n X.1 X.2.1 d_By_stop_133 rfl (lv_at hl 1 rfl) ?_
                  refine lv_iload X.1 X.2.1 d_By_stop_134 (lv_at hl 2 rfl) ?_
                  refine lv_iconst (v := (nI 1)) X.1 X.2.1 d_By_stop_136 (by decide) ?_
                  refine lv_icmp_ne (tgt := 146) X.1 X.2.1 d_By_stop_137 (by decide) (fun c16 => ?_) (fun c16 => ?_)
                  · skip
                    rw [nI_eq (by omega) (by omega)] at c16
                    refine lv_sipush (v := (nI 256)) X.1 X.2.1 d_By_stop_146 (by decide) ?_
                    refine lv_icmp_ge (tgt := 154) X.1 X.2.1 d_By_stop_149 (by decide) (fun c17 => ?_) (fun c17 => ?_)
                    · skip
                      rw [nI_leI (by omega) (by omega)] at c17
                      refine lv_iload_n X.1 X.2.1 d_By_stop_154 rfl (lv_at hl 1 rfl) ?_
                      refine lv_iload_n X.1 X.2.1 d_By_stop_155 rfl (lv_at hl 5 rfl) ?_
                      refine lv_iload X.1 X.2.1 d_By_stop_156 (lv_at hl 0 rfl) ?_
                      refine lv_isub X.1 X.2.1 d_By_stop_158 ?_
                      refine t_eq (y := nI (tt - (k1 + 2 + (j5 - (128))))) (pk_sub (by omega)) ?_
                      refine lv_icmp_gt (tgt := 169) X.1 X.2.1 d_By_stop_159 (by decide) (fun c18 => ?_) (fun c18 => ?_)
                      · skip
                        rw [nI_ltI (by omega) (by omega)] at c18
                        refine lv_iconst (v := (-1)) X.1 X.2.1 d_By_stop_169 (by decide) ?_
                        exact c_reti hQQ X Y hr hlk ⟨rfl, (fun _ => rfl), trivial⟩ d_By_stop_170
                      · skip
                        rw [nI_ltI (by omega) (by omega)] at c18
                        refine lv_iload X.1 X.2.1 d_By_stop_162 (lv_at hl 0 rfl) ?_
                        refine lv_iload_n X.1 X.2.1 d_By_stop_164 rfl (lv_at hl 1 rfl) ?_
                        refine lv_iadd X.1 X.2.1 d_By_stop_165 ?_
                        refine t_eq (y := nI (k1 + 2 + (j5 - (128)) + ((j13) * (256) + j15))) (nI_add _ _) ?_
                        refine lv_goto (tgt := 170) X.1 X.2.1 d_By_stop_166 (by decide) ?_
                        exact c_reti hQQ X Y hr hlk ⟨rfl, (fun _ => rfl), trivial⟩ d_By_stop_170
                    · skip
                      rw [nI_leI (by omega) (by omega)] at c17
                      refine lv_iconst (v := (-1)) X.1 X.2.1 d_By_stop_152 (by decide) ?_
                      exact c_reti hQQ X Y hr hlk ⟨rfl, (fun _ => rfl), trivial⟩ d_By_stop_153
                  · skip
                    rw [nI_eq (by omega) (by omega)] at c16
                    refine lv_sipush (v := (nI 128)) X.1 X.2.1 d_By_stop_140 (by decide) ?_
                    refine lv_goto (tgt := 149) X.1 X.2.1 d_By_stop_143 (by decide) ?_
                    refine lv_icmp_ge (tgt := 154) X.1 X.2.1 d_By_stop_149 (by decide) (fun c19 => ?_) (fun c19 => ?_)
                    · skip
                      rw [nI_leI (by omega) (by omega)] at c19
                      refine lv_iload_n X.1 X.2.1 d_By_stop_154 rfl (lv_at hl 1 rfl) ?_
                      refine lv_iload_n X.1 X.2.1 d_By_stop_155 rfl (lv_at hl 5 rfl) ?_
                      refine lv_iload X.1 X.2.1 d_By_stop_156 (lv_at hl 0 rfl) ?_
                      refine lv_isub X.1 X.2.1 d_By_stop_158 ?_
                      refine t_eq (y := nI (tt - (k1 + 2 + (j5 - (128))))) (pk_sub (by omega)) ?_
                      refine lv_icmp_gt (tgt := 169) X.1 X.2.1 d_By_stop_159 (by decide) (fun c20 => ?_) (fun c20 => ?_)
                      · skip
                        rw [nI_ltI (by omega) (by omega)] at c20
                        refine lv_iconst (v := (-1)) X.1 X.2.1 d_By_stop_169 (by decide) ?_
                        exact c_reti hQQ X Y hr hlk ⟨rfl, (fun _ => rfl), trivial⟩ d_By_stop_170
                      · skip
                        rw [nI_ltI (by omega) (by omega)] at c20
                        refine lv_iload X.1 X.2.1 d_By_stop_162 (lv_at hl 0 rfl) ?_
                        refine lv_iload_n X.1 X.2.1 d_By_stop_164 rfl (lv_at hl 1 rfl) ?_
                        refine lv_iadd X.1 X.2.1 d_By_stop_165 ?_
                        refine t_eq (y := nI (k1 + 2 + (j5 - (128)) + ((j13) * (256) + j15))) (nI_add _ _) ?_
                        refine lv_goto (tgt := 170) X.1 X.2.1 d_By_stop_166 (by decide) ?_
                        exact c_reti hQQ X Y hr hlk ⟨rfl, (fun _ => rfl), trivial⟩ d_By_stop_170
                    · skip
                      rw [nI_leI (by omega) (by omega)] at c19
                      refine lv_iconst (v := (-1)) X.1 X.2.1 d_By_stop_152 (by decide) ?_
                      exact c_reti hQQ X Y hr hlk ⟨rfl, (fun _ => rfl), trivial⟩ d_By_stop_153
                · skip
                  rw [nI_eq (by omega) (by omega)] at c11
                  refine lv_aload_n X.1 X.2.1 d_By_stop_82 rfl (lv_at hl 3 rfl) ?_
                  refine q_get X.1 X.2.1 X.2.2.1 i_By X.2.2.2.1 X.2.2.2.2 Y m_b e_b rfl 0 (by decide) (X.2.2.1 _ lk_By_15) (fun _ h9 => h9) rfl d_By_stop_83 ?_
                  refine lv_iload X.1 X.2.1 d_By_stop_86 (lv_at hl 1 rfl) ?_
                  refine q_bald X.1 X.2.1 X.2.2.2.2 Y 0 m_r e_r rfl (vp_in_nI (by omega) (by omega)) d_By_stop_88 ?_
                  refine t_any (fun v21 => ?_)
                  refine lv_sipush (v := (nI 255)) X.1 X.2.1 d_By_stop_89 (by decide) ?_
                  refine lv_iand X.1 X.2.1 d_By_stop_92 ?_
                  obtain ⟨j22, hj22, ej22⟩ := pk_andE v21 (m := nI 255) 8 (by decide)
                  refine t_eq ej22 ?_
                  have hj22 : j22 < 256 := hj22
                  refine lv_goto (tgt := 125) X.1 X.2.1 d_By_stop_93 (by decide) ?_
                  refine lv_istore_n (lv' := [(3, .int (nI j22)), (5, .int (nI (j5 - (128)))), (4, .int (nI (k1 + 2))), (0, .ref b), (1, .int a1), (2, .int (nI tt))]) X.1 X.2.1 d_By_stop_125 rfl hl (by decide) rfl (fun ls hl => ?_)
                  refine lv_iload X.1 X.2.1 d_By_stop_126 (lv_at hl 2 rfl) ?_
                  refine lv_iload X.1 X.2.1 d_By_stop_128 (lv_at hl 1 rfl) ?_
                  refine lv_iadd X.1 X.2.1 d_By_stop_130 ?_
                  refine t_eq (y := nI (k1 + 2 + (j5 - (128)))) (nI_add _ _) ?_
                  refine lv_istore (lv' := [(4, .int (nI (k1 + 2 + (j5 - (128))))), (3, .int (nI j22)), (5, .int (nI (j5 - (128)))), (0, .ref b), (1, .int a1), (2, .int (nI tt))]) X.1 X.2.1 d_By_stop_131 hl (by decide) rfl (fun ls hl => ?_)
                  refine lv_iload_n X.1 X.2.1 d_By_stop_133 rfl (lv_at hl 1 rfl) ?_
                  refine lv_iload X.1 X.2.1 d_By_stop_134 (lv_at hl 2 rfl) ?_
                  refine lv_iconst (v := (nI 1)) X.1 X.2.1 d_By_stop_136 (by decide) ?_
                  refine lv_icmp_ne (tgt := 146) X.1 X.2.1 d_By_stop_137 (by decide) (fun c23 => ?_) (fun c23 => ?_)
                  · skip
                    rw [nI_eq (by omega) (by omega)] at c23
                    refine lv_sipush (v := (nI 256)) X.1 X.2.1 d_By_stop_146 (by decide) ?_
                    refine lv_icmp_ge (tgt := 154) X.1 X.2.1 d_By_stop_149 (by decide) (fun c24 => ?_) (fun c24 => ?_)
                    · skip
                      rw [nI_leI (by omega) (by omega)] at c24
                      refine lv_iload_n X.1 X.2.1 d_By_stop_154 rfl (lv_at hl 1 rfl) ?_
                      refine lv_iload_n X.1 X.2.1 d_By_stop_155 rfl (lv_at hl 5 rfl) ?_
                      refine lv_iload X.1 X.2.1 d_By_stop_156 (lv_at hl 0 rfl) ?_
                      refine lv_isub X.1 X.2.1 d_By_stop_158 ?_
                      refine t_eq (y := nI (tt - (k1 + 2 + (j5 - (128))))) (pk_sub (by omega)) ?_
                      refine lv_icmp_gt (tgt := 169) X.1 X.2.1 d_By_stop_159 (by decide) (fun c25 => ?_) (fun c25 => ?_)
                      · skip
                        rw [nI_ltI (by omega) (by omega)] at c25
                        refine lv_iconst (v := (-1)) X.1 X.2.1 d_By_stop_169 (by decide) ?_
                        exact c_reti hQQ X Y hr hlk ⟨rfl, (fun _ => rfl), trivial⟩ d_By_stop_170
                      · skip
                        rw [nI_ltI (by omega) (by omega)] at c25
                        refine lv_iload X.1 X.2.1 d_By_stop_162 (lv_at hl 0 rfl) ?_
                        refine lv_iload_n X.1 X.2.1 d_By_stop_164 rfl (lv_at hl 1 rfl) ?_
                        refine lv_iadd X.1 X.2.1 d_By_stop_165 ?_
                        refine t_eq (y := nI (k1 + 2 + (j5 - (128)) + j22)) (nI_add _ _) ?_
                        refine lv_goto (tgt := 170) X.1 X.2.1 d_By_stop_166 (by decide) ?_
                        exact c_reti hQQ X Y hr hlk ⟨rfl, (fun _ => rfl), trivial⟩ d_By_stop_170
                    · skip
                      rw [nI_leI (by omega) (by omega)] at c24
                      refine lv_iconst (v := (-1)) X.1 X.2.1 d_By_stop_152 (by decide) ?_
                      exact c_reti hQQ X Y hr hlk ⟨rfl, (fun _ => rfl), trivial⟩ d_By_stop_153
                  · skip
                    rw [nI_eq (by omega) (by omega)] at c23
                    refine lv_sipush (v := (nI 128)) X.1 X.2.1 d_By_stop_140 (by decide) ?_
                    refine lv_goto (tgt := 149) X.1 X.2.1 d_By_stop_143 (by decide) ?_
                    refine lv_icmp_ge (tgt := 154) X.1 X.2.1 d_By_stop_149 (by decide) (fun c26 => ?_) (fun c26 => ?_)
                    · skip
                      rw [nI_leI (by omega) (by omega)] at c26
                      refine lv_iload_n X.1 X.2.1 d_By_stop_154 rfl (lv_at hl 1 rfl) ?_
                      refine lv_iload_n X.1 X.2.1 d_By_stop_155 rfl (lv_at hl 5 rfl) ?_
                      refine lv_iload X.1 X.2.1 d_By_stop_156 (lv_at hl 0 rfl) ?_
                      refine lv_isub X.1 X.2.1 d_By_stop_158 ?_
                      refine t_eq (y := nI (tt - (k1 + 2 + (j5 - (128))))) (pk_sub (by omega)) ?_
                      refine lv_icmp_gt (tgt := 169) X.1 X.2.1 d_By_stop_159 (by decide) (fun c27 => ?_) (fun c27 => ?_)
                      · skip
                        rw [nI_ltI (by omega) (by omega)] at c27
                        refine lv_iconst (v := (-1)) X.1 X.2.1 d_By_stop_169 (by decide) ?_
                        exact c_reti hQQ X Y hr hlk ⟨rfl, (fun _ => rfl), trivial⟩ d_By_stop_170
                      · skip
                        rw [nI_ltI (by omega) (by omega)] at c27
                        refine lv_iload X.1 X.2.1 d_By_stop_162 (lv_at hl 0 rfl) ?_
                        refine lv_iload_n X.1 X.2.1 d_By_stop_164 rfl (lv_at hl 1 rfl) ?_
                        refine lv_iadd X.1 X.2.1 d_By_stop_165 ?_
                        refine t_eq (y := nI (k1 + 2 + (j5 - (128)) + j22)) (nI_add _ _) ?_
                        refine lv_goto (tgt := 170) X.1 X.2.1 d_By_stop_166 (by decide) ?_
                        exact c_reti hQQ X Y hr hlk ⟨rfl, (fun _ => rfl), trivial⟩ d_By_stop_170
                    · skip
                      rw [nI_leI (by omega) (by omega)] at c26
                      refine lv_iconst (v := (-1)) X.1 X.2.1 d_By_stop_152 (by decide) ?_
                      exact c_reti hQQ X Y hr hlk ⟨rfl, (fun _ => rfl), trivial⟩ d_By_stop_153
              · skip
                rw [nI_leI (by omega) (by omega)] at c10
                refine lv_iconst (v := (-1)) X.1 X.2.1 d_By_stop_74 (by decide) ?_
                exact c_reti hQQ X Y hr hlk ⟨rfl, (fun _ => rfl), trivial⟩ d_By_stop_75
      · skip
        rw [nI_leI (by omega) (by omega)] at c3
        refine lv_iconst (v := (-1)) X.1 X.2.1 d_By_stop_19 (by decide) ?_
        exact c_reti hQQ X Y hr hlk ⟨rfl, (fun _ => rfl), trivial⟩ d_By_stop_20
set_option maxHeartbeats 4000000 in
set_option maxRecDepth 100000 in
theorem c_Va_putSalt (l : Launch) (D : va_G) (E : cE) (T : cT) (L : List Nat) (f : pF) (sz : Nat) (N M b r b2 r2 n n3 : Nat) (g_r g_r2 : Nat → Int32) (m_b : b ∈ L) (m_r : r ∈ L) (m_b2 : b2 ∈ L) (m_r2 : r2 ∈ L) (e_b : f b = .inr (3, [.ref r, .int (nI n)])) (e_r : f r = .inl (E.1, N, .inl g_r)) (e_b2 : f b2 = .inr (3, [.ref r2, .int (nI n3)])) (e_r2 : f r2 = .inl (E.1, M, .inl g_r2)) (f_r : fB g_r) (f_r2 : fB g_r2) (ap_b_b2 : b ≠ b2) (ap_r_r2 : r ≠ r2) (hh0 : n ≤ N) (hh1 : N < 100000) (hh2 : n3 ≤ M) (hh3 : M < 100000) : Met l y_Va_putSalt (k_Va_putSalt :: lw_tg) (kRm 5 112 0 (0)) (va_Pc [.ref b, .ref b2] (kPre D E T L f sz)) (va_Qv (fun (u : cU) => u.1 = L ∧ (∀ x, x ≠ b → x ≠ r → u.2 x = f x) ∧ ∃ (n2 : Nat) (k_r : Nat → Int32), fB k_r ∧ (n ≤ n2) ∧ (n2 ≤ N) ∧ u.2 b = .inr (3, [.ref r, .int (nI n2)]) ∧ u.2 r = .inl (E.1, N, .inl k_r)) (cPost D E (pA L sz)) (pA L sz)) 0 (0) (pA L sz) := by
  refine k_enter (own := R_Va) (by decide) rfl (Nat.le_of_ble_eq_true rfl) (fun p e s m below meth c ls AV QQ H locs hQQ X Y hA hin hr hlk hml hl KS KR => ?_)
  have hl : lv_has ls 6 [(0, .ref b), (1, .ref b2)] := hl
  refine lv_aload_n X.1 X.2.1 d_Va_putSalt_0 rfl (lv_at hl 0 rfl) ?_
  refine k_ldcS (i := 2) X KR (by decide) ⟨by decide, by decide⟩ d_Va_putSalt_1 ?_
  refine x_v (x_runV (As := [.ref (T.2.1 2)]) (rest := []) (n := 1) X Y hml hl.1 (c_By_putLetters l D E T L f H.size 2 (by decide) (N) b r (n) g_r m_b m_r e_b e_r f_r (by omega) (by omega)) (ok_k X Y hA KS KR) m_b e_b rfl kl_Va_By_putLetters ks_By_putLetters kx_By_putLetters ki_By_putLetters ini_By ⟨rfl, rfl⟩ hd_By_putLetters ⟨by decide, by decide⟩ rfl (Nat.le_of_ble_eq_true rfl) d_Va_putSalt_3 ⟨(show 0 + 0 ≤ 0 by omega), (show 0 + (0) ≤ (0) by omega)⟩) X Y hA (fun u H locs hp Y => ?_)
  obtain ⟨L3, f2⟩ := u
  obtain ⟨eL5, hF4, n7, g8, hg9, h10, h11, e12, e13⟩ := hp
  dsimp only at eL5 hF4 e12 e13 Y
  rw [eL5] at Y
  have e14 : f2 b2 = .inr (3, [.ref r2, .int (nI n3)]) := (hF4 b2 ap_b_b2.symm (q_tag e_b2 e_r (show (3 : Nat) ≠ 1000 by decide))).trans e_b2
  have e15 : f2 r2 = .inl (E.1, M, .inl g_r2) := (hF4 r2 (q_tag e_r2 e_b (show (1000 : Nat) ≠ 3 by decide)) ap_r_r2.symm).trans e_r2
  have hF16 : ∀ x, x ≠ b → x ≠ r → f2 x = f x := fun x h0 h1 => (hF4 x h0 h1).trans rfl
  refine lv_iconst (v := (nI 0)) X.1 X.2.1 d_Va_putSalt_6 (by decide) ?_
  refine lv_istore_n (lv' := [(2, .int (nI 0)), (0, .ref b), (1, .ref b2)]) X.1 X.2.1 d_Va_putSalt_7 rfl hl (by decide) rfl (fun ls hl => ?_)
  refine lv_iconst (v := (nI 0)) X.1 X.2.1 d_Va_putSalt_8 (by decide) ?_
  refine lv_istore_n (lv' := [(3, .int (nI 0)), (2, .int (nI 0)), (0, .ref b), (1, .ref b2)]) X.1 X.2.1 d_Va_putSalt_9 rfl hl (by decide) rfl (fun ls hl => ?_)
  have lp17 : ∀ (n18 i n23 : Nat) (x29 : Int32) (g25 : Nat → Int32) (f20 : pF) (H : Heap) (locs : List Loc) (ls : Array Slot), 2 - i = n18 → (i ≤ 2) → ((n23) ≤ N) → (n ≤ (n23)) → fB g25 → f20 b = .inr (3, [.ref r, .int (nI n23)]) → f20 r = .inl (E.1, N, .inl g25) → f20 b2 = .inr (3, [.ref r2, .int (nI n3)]) → f20 r2 = .inl (E.1, M, .inl g_r2) → (∀ x, x ≠ b → x ≠ r → f20 x = f x) → pH D cCl (pA L sz) s.heap L f20 H locs → lv_has ls 6 [(3, .int (nI i)), (2, .int x29), (0, .ref b), (1, .ref b2)] → W p l e (kRm 5 112 0 (0)) s m AV below meth c H locs 0 0 QQ (F0 m 10 ls []) := by
    intro n18
    induction n18 with
    | zero =>
      intro i n23 x29 g25 f20 H locs ls hm33 hc30 hc31 hc32 hg26 e22 e24 e27 e28 hF21 Y hl
      refine lv_iload_n X.1 X.2.1 d_Va_putSalt_10 rfl (lv_at hl 0 rfl) ?_
      refine lv_iconst (v := (nI 2)) X.1 X.2.1 d_Va_putSalt_11 (by decide) ?_
      refine lv_icmp_ge (tgt := 65) X.1 X.2.1 d_Va_putSalt_12 (by decide) (fun c34 => ?_) (fun c34 => absurd ?_ c34)
      rotate_left
      · (rw [nI_leI (by omega) (by omega)] <;> omega)
      rw [nI_leI (by omega) (by omega)] at c34
      exact c_retv hQQ X Y hr hlk ⟨rfl, hF21, (n23), g25, hg26, (by omega), (by omega), e22, e24⟩ d_Va_putSalt_65
    | succ n18 ih19 =>
      intro i n23 x29 g25 f20 H locs ls hm33 hc30 hc31 hc32 hg26 e22 e24 e27 e28 hF21 Y hl
      refine lv_iload_n X.1 X.2.1 d_Va_putSalt_10 rfl (lv_at hl 0 rfl) ?_
      refine lv_iconst (v := (nI 2)) X.1 X.2.1 d_Va_putSalt_11 (by decide) ?_
      refine lv_icmp_ge (tgt := 65) X.1 X.2.1 d_Va_putSalt_12 (by decide) (fun c35 => absurd c35 ?_) (fun c35 => ?_)
      · (rw [nI_leI (by omega) (by omega)] <;> omega)
      rw [nI_leI (by omega) (by omega)] at c35
      refine lv_iload_n X.1 X.2.1 d_Va_putSalt_15 rfl (lv_at hl 1 rfl) ?_
      refine lv_aload_n X.1 X.2.1 d_Va_putSalt_16 rfl (lv_at hl 3 rfl) ?_
      refine q_get X.1 X.2.1 X.2.2.1 i_By X.2.2.2.1 X.2.2.2.2 Y m_b2 e27 rfl 1 (by decide) (X.2.2.1 _ lk_Va_77) (fun _ h9 => h9) rfl d_Va_putSalt_17 ?_
      refine lv_icmp_ge (tgt := 65) X.1 X.2.1 d_Va_putSalt_20 (by decide) (fun c36 => ?_) (fun c36 => ?_)
      · skip
        exact c_retv hQQ X Y hr hlk ⟨rfl, hF21, (n23), g25, hg26, (by omega), (by omega), e22, e24⟩ d_Va_putSalt_65
      · skip
        refine lv_aload_n X.1 X.2.1 d_Va_putSalt_23 rfl (lv_at hl 3 rfl) ?_
        refine lv_iload_n X.1 X.2.1 d_Va_putSalt_24 rfl (lv_at hl 1 rfl) ?_
        refine x_i (x_runV (As := [.int x29]) (rest := []) (n := 1) X Y hml hl.1 (c_By_body l D E T L f20 H.size (x29) (M) b2 r2 (n3) g_r2 m_b2 m_r2 e27 e28 f_r2 (by omega) (by omega) (Int32.not_le.mp c36)) (ok_k X Y hA KS KR) m_b2 e27 rfl kl_Va_By_body ks_By_body kx_By_body ki_By_body ini_By ⟨rfl, rfl⟩ hd_By_body ⟨by decide, by decide⟩ rfl (Nat.le_of_ble_eq_true rfl) d_Va_putSalt_25 ⟨(show 0 + 0 ≤ 0 by omega), (show 0 + (0) ≤ (0) by omega)⟩) X Y hA (fun r37 u H locs hp Y => ?_)
        obtain ⟨L39, f38⟩ := u
        obtain ⟨eL41, hF40, pr42⟩ := hp
        dsimp only at eL41 hF40 pr42 Y
        rw [eL41] at Y
        rw [show f38 = f20 from funext hF40] at Y
        refine lv_istore (lv' := [(4, .int r37), (3, .int (nI i)), (2, .int x29), (0, .ref b), (1, .ref b2)]) X.1 X.2.1 d_Va_putSalt_28 hl (by decide) rfl (fun ls hl => ?_)
        refine lv_aload_n X.1 X.2.1 d_Va_putSalt_30 rfl (lv_at hl 4 rfl) ?_
        refine lv_iload_n X.1 X.2.1 d_Va_putSalt_31 rfl (lv_at hl 2 rfl) ?_
        refine lv_aload_n X.1 X.2.1 d_Va_putSalt_32 rfl (lv_at hl 4 rfl) ?_
        refine q_get X.1 X.2.1 X.2.2.1 i_By X.2.2.2.1 X.2.2.2.2 Y m_b2 e27 rfl 1 (by decide) (X.2.2.1 _ lk_Va_77) (fun _ h9 => h9) rfl d_Va_putSalt_33 ?_
        refine x_i (x_runV (As := [.int x29, .int (nI n3)]) (rest := []) (n := 2) X Y hml hl.1 (c_By_stop l D E T L f20 H.size (x29) (n3) (M) b2 r2 (n3) g_r2 m_b2 m_r2 e27 e28 f_r2 (by omega) (by omega) (Int32.not_le.mp c36) (by omega)) (ok_k X Y hA KS KR) m_b2 e27 rfl kl_Va_By_stop ks_By_stop kx_By_stop ki_By_stop ini_By ⟨rfl, rfl⟩ hd_By_stop ⟨by decide, by decide⟩ rfl (Nat.le_of_ble_eq_true rfl) d_Va_putSalt_36 ⟨(show 0 + 0 ≤ 0 by omega), (show 0 + (0) ≤ (0) by omega)⟩) X Y hA (fun r43 u H locs hp Y => ?_)
        obtain ⟨L45, f44⟩ := u
        obtain ⟨eL47, hF46, pr48⟩ := hp
        dsimp only at eL47 hF46 pr48 Y
        rw [eL47] at Y
        rw [show f44 = f20 from funext hF46] at Y
        refine lv_istore (lv' := [(5, .int r43), (4, .int r37), (3, .int (nI i)), (2, .int x29), (0, .ref b), (1, .ref b2)]) X.1 X.2.1 d_Va_putSalt_39 hl (by decide) rfl (fun ls hl => ?_)
        refine lv_aload_n X.1 X.2.1 d_Va_putSalt_41 rfl (lv_at hl 4 rfl) ?_
        refine lv_aload_n X.1 X.2.1 d_Va_putSalt_42 rfl (lv_at hl 5 rfl) ?_
        refine q_get X.1 X.2.1 X.2.2.1 i_By X.2.2.2.1 X.2.2.2.2 Y m_b2 e27 rfl 0 (by decide) (X.2.2.1 _ lk_Va_86) (fun _ h9 => h9) rfl d_Va_putSalt_43 ?_
        refine lv_iload X.1 X.2.1 d_Va_putSalt_46 (lv_at hl 1 rfl) ?_
        refine lv_iload X.1 X.2.1 d_Va_putSalt_48 (lv_at hl 0 rfl) ?_
        refine lv_iload X.1 X.2.1 d_Va_putSalt_50 (lv_at hl 1 rfl) ?_
        refine lv_isub X.1 X.2.1 d_Va_putSalt_52 ?_
        refine t_any (fun v49 => ?_)
        refine x_v (x_runV (As := [.ref r2, .int r37, .int v49]) (rest := []) (n := 3) X Y hml hl.1 (c_By_append l D E L f20 H.size r37 v49 b r (N) (n23) g25 m_b e22 m_r e24 (by omega) (by omega) hg26 r2 (M) g_r2 m_r2 e28 f_r2 (by omega) ap_r_r2.symm) (ok_c X Y) m_b e22 rfl kl_Va_By_append ks_By_append kx_By_append ki_By_append ini_By ⟨rfl, rfl⟩ hd_By_append ⟨by decide, by decide⟩ rfl (Nat.le_of_ble_eq_true rfl) d_Va_putSalt_53 ⟨(show 0 + 0 ≤ 0 by omega), (show 0 + (0) ≤ (0) by omega)⟩) X Y hA (fun u H locs hp Y => ?_)
        obtain ⟨L51, f50⟩ := u
        obtain ⟨eL61, hF52, n53, g54, h56, h57, h58, e59, e60⟩ := hp
        dsimp only at eL61 hF52 e59 e60 Y
        rw [eL61] at Y
        have e63 : f50 b2 = .inr (3, [.ref r2, .int (nI n3)]) := (hF52 b2 ap_b_b2.symm (q_tag e27 e24 (show (3 : Nat) ≠ 1000 by decide))).trans e27
        have e64 : f50 r2 = .inl (E.1, M, .inl g_r2) := (hF52 r2 (q_tag e28 e22 (show (1000 : Nat) ≠ 3 by decide)) ap_r_r2.symm).trans e28
        have hF65 : ∀ x, x ≠ b → x ≠ r → f50 x = f x := fun x h0 h1 => (hF52 x h0 h1).trans (hF21 x h0 h1)
        refine lv_iload X.1 X.2.1 d_Va_putSalt_56 (lv_at hl 0 rfl) ?_
        refine lv_istore_n (lv' := [(2, .int r43), (5, .int r43), (4, .int r37), (3, .int (nI i)), (0, .ref b), (1, .ref b2)]) X.1 X.2.1 d_Va_putSalt_58 rfl hl (by decide) rfl (fun ls hl => ?_)
        refine lv_iinc (v := (nI (i + 1))) (lv' := [(3, .int (nI (i + 1))), (2, .int r43), (5, .int r43), (4, .int r37), (0, .ref b), (1, .ref b2)]) X.1 X.2.1 d_Va_putSalt_59 hl (k := 3) rfl (nI_add _ 1) (by decide) rfl (fun ls hl => ?_)
        refine lv_goto (tgt := 10) X.1 X.2.1 d_Va_putSalt_62 (by decide) ?_
        exact ih19  (i + 1) (n53) (r43)  g54 f50 _ _ _ (by omega) (by omega) (by omega) (by omega) h57 e59 e60 e63 e64 hF65 Y (lv_sub hl [0, 1, 4, 5] rfl)
  exact lp17 (2) (0) (n7) ((nI 0))  g8 f2 _ _ _ (by omega) (by omega) (by omega) (by omega) hg9 e12 e13 e14 e15 hF16 Y (lv_sub hl [0, 1, 2, 3] rfl)
set_option maxHeartbeats 4000000 in
set_option maxRecDepth 100000 in
theorem c_Va_stretch (l : Launch) (D : va_G) (E : cE) (T : cT) (L : List Nat) (f : pF) (sz : Nat) (a1 : Int32) (N v ho wd bl hst inn out mac tu b r txo dro o se coo deo fl n : Nat) (now ssz cat crw tot : Int32) (g_wd g_bl g_hst g_inn g_out g_mac g_tu g_r : Nat → Int32) (m_v : v ∈ L) (m_ho : ho ∈ L) (m_wd : wd ∈ L) (m_bl : bl ∈ L) (m_hst : hst ∈ L) (m_inn : inn ∈ L) (m_out : out ∈ L) (m_mac : mac ∈ L) (m_tu : tu ∈ L) (m_b : b ∈ L) (m_r : r ∈ L) (e_v : f v = .inr (11, [.int now, .ref txo, .ref dro, .ref ho, .ref o, .ref se, .int ssz, .ref coo, .int cat, .int crw, .ref deo, .ref tu, .ref b])) (e_ho : f ho = .inr (6, [.ref wd, .ref bl, .ref hst, .ref inn, .ref out, .int (nI fl), .int tot, .ref mac])) (e_wd : f wd = .inl (E.2.1, 80, .inl g_wd)) (e_bl : f bl = .inl (E.1, 64, .inl g_bl)) (e_hst : f hst = .inl (E.2.1, 5, .inl g_hst)) (e_inn : f inn = .inl (E.2.1, 5, .inl g_inn)) (e_out : f out = .inl (E.2.1, 5, .inl g_out)) (e_mac : f mac = .inl (E.1, 20, .inl g_mac)) (e_tu : f tu = .inl (E.1, 20, .inl g_tu)) (e_b : f b = .inr (3, [.ref r, .int (nI n)])) (e_r : f r = .inl (E.1, N, .inl g_r)) (f_bl : fB g_bl) (f_mac : fB g_mac) (f_tu : fB g_tu) (f_r : fB g_r) (ap_wd_bl : wd ≠ bl) (ap_wd_hst : wd ≠ hst) (ap_wd_inn : wd ≠ inn) (ap_wd_out : wd ≠ out) (ap_wd_mac : wd ≠ mac) (ap_wd_tu : wd ≠ tu) (ap_wd_r : wd ≠ r) (ap_bl_hst : bl ≠ hst) (ap_bl_inn : bl ≠ inn) (ap_bl_out : bl ≠ out) (ap_bl_mac : bl ≠ mac) (ap_bl_tu : bl ≠ tu) (ap_bl_r : bl ≠ r) (ap_hst_inn : hst ≠ inn) (ap_hst_out : hst ≠ out) (ap_hst_mac : hst ≠ mac) (ap_hst_tu : hst ≠ tu) (ap_hst_r : hst ≠ r) (ap_inn_out : inn ≠ out) (ap_inn_mac : inn ≠ mac) (ap_inn_tu : inn ≠ tu) (ap_inn_r : inn ≠ r) (ap_out_mac : out ≠ mac) (ap_out_tu : out ≠ tu) (ap_out_r : out ≠ r) (ap_mac_tu : mac ≠ tu) (ap_mac_r : mac ≠ r) (ap_tu_r : tu ≠ r) (hh0 : n ≤ N) (hh1 : N < 100000) (hh2 : fl < 64) : Met l y_Va_stretch (k_Va_stretch :: lw_tg) (kRm 3 80 0 (0)) (va_Pc [.ref v, .int a1] (kPre D E T L f sz)) (va_Qv (fun (u : cU) => u.1 = L ∧ (∀ x, x ≠ ho → x ≠ wd → x ≠ bl → x ≠ hst → x ≠ mac → x ≠ tu → u.2 x = f x) ∧ ∃ (fl2 : Nat) (tot2 : Int32) (k_wd k_bl k_hst k_mac k_tu : Nat → Int32), fB k_bl ∧ fB k_mac ∧ fB k_tu ∧ (fl2 < 64) ∧ u.2 ho = .inr (6, [.ref wd, .ref bl, .ref hst, .ref inn, .ref out, .int (nI fl2), .int tot2, .ref mac]) ∧ u.2 wd = .inl (E.2.1, 80, .inl k_wd) ∧ u.2 bl = .inl (E.1, 64, .inl k_bl) ∧ u.2 hst = .inl (E.2.1, 5, .inl k_hst) ∧ u.2 mac = .inl (E.1, 20, .inl k_mac) ∧ u.2 tu = .inl (E.1, 20, .inl k_tu)) (cPost D E (pA L sz)) (pA L sz)) 0 (0) (pA L sz) := by
  refine k_enter (own := R_Va) (by decide) rfl (Nat.le_of_ble_eq_true rfl) (fun p e s m below meth c ls AV QQ H locs hQQ X Y hA hin hr hlk hml hl KS KR => ?_)
  have hl : lv_has ls 4 [(0, .ref v), (1, .int a1)] := hl
  refine lv_aload_n X.1 X.2.1 d_Va_stretch_0 rfl (lv_at hl 0 rfl) ?_
  refine q_get X.1 X.2.1 X.2.2.1 i_Va X.2.2.2.1 X.2.2.2.2 Y m_v e_v rfl 3 (by decide) (X.2.2.1 _ lk_Va_31) (fun _ h9 => h9) rfl d_Va_stretch_1 ?_
  refine x_v (x_runV (As := []) (rest := []) (n := 0) X Y hml hl.1 (c_Ha_begin l D E L f H.size  ho wd bl hst inn out mac (fl) (tot) g_wd g_bl g_hst g_inn g_out g_mac m_ho m_wd m_bl m_hst m_inn m_out m_mac e_ho e_wd e_bl e_hst e_inn e_out e_mac f_bl f_mac ap_wd_bl ap_wd_hst ap_wd_inn ap_wd_out ap_wd_mac ap_bl_hst ap_bl_inn ap_bl_out ap_bl_mac ap_hst_inn ap_hst_out ap_hst_mac ap_inn_out ap_inn_mac ap_out_mac) (ok_c X Y) m_ho e_ho rfl kl_Va_Ha_begin ks_Ha_begin kx_Ha_begin ki_Ha_begin ini_Ha ⟨rfl, rfl⟩ hd_Ha_begin ⟨by decide, by decide⟩ rfl (Nat.le_of_ble_eq_true rfl) d_Va_stretch_4 ⟨(show 0 + 0 ≤ 0 by omega), (show 0 + (0) ≤ (0) by omega)⟩) X Y hA (fun u H locs hp Y => ?_)
  obtain ⟨L2, f1⟩ := u
  obtain ⟨eL5, hF3, n7, v8, g9, h10, e11, e12⟩ := hp
  dsimp only at eL5 hF3 e11 e12 Y
  rw [eL5] at Y
  have e13 : f1 v = .inr (11, [.int now, .ref txo, .ref dro, .ref ho, .ref o, .ref se, .int ssz, .ref coo, .int cat, .int crw, .ref deo, .ref tu, .ref b]) := (hF3 v (q_tag e_v e_ho (show (11 : Nat) ≠ 6 by decide)) (q_tag e_v e_hst (show (11 : Nat) ≠ 1000 by decide))).trans e_v
  have e14 : f1 wd = .inl (E.2.1, 80, .inl g_wd) := (hF3 wd (q_tag e_wd e_ho (show (1000 : Nat) ≠ 6 by decide)) ap_wd_hst).trans e_wd
  have e15 : f1 bl = .inl (E.1, 64, .inl g_bl) := (hF3 bl (q_tag e_bl e_ho (show (1000 : Nat) ≠ 6 by decide)) ap_bl_hst).trans e_bl
  have e16 : f1 inn = .inl (E.2.1, 5, .inl g_inn) := (hF3 inn (q_tag e_inn e_ho (show (1000 : Nat) ≠ 6 by decide)) ap_hst_inn.symm).trans e_inn
  have e17 : f1 out = .inl (E.2.1, 5, .inl g_out) := (hF3 out (q_tag e_out e_ho (show (1000 : Nat) ≠ 6 by decide)) ap_hst_out.symm).trans e_out
  have e18 : f1 mac = .inl (E.1, 20, .inl g_mac) := (hF3 mac (q_tag e_mac e_ho (show (1000 : Nat) ≠ 6 by decide)) ap_hst_mac.symm).trans e_mac
  have e19 : f1 tu = .inl (E.1, 20, .inl g_tu) := (hF3 tu (q_tag e_tu e_ho (show (1000 : Nat) ≠ 6 by decide)) ap_hst_tu.symm).trans e_tu
  have e20 : f1 b = .inr (3, [.ref r, .int (nI n)]) := (hF3 b (q_tag e_b e_ho (show (3 : Nat) ≠ 6 by decide)) (q_tag e_b e_hst (show (3 : Nat) ≠ 1000 by decide))).trans e_b
  have e21 : f1 r = .inl (E.1, N, .inl g_r) := (hF3 r (q_tag e_r e_ho (show (1000 : Nat) ≠ 6 by decide)) ap_hst_r.symm).trans e_r
  have hF22 : ∀ x, x ≠ ho → x ≠ wd → x ≠ bl → x ≠ hst → x ≠ mac → x ≠ tu → f1 x = f x := fun x h0 h1 h2 h3 h4 h5 => (hF3 x h0 h3).trans rfl
  refine lv_aload_n X.1 X.2.1 d_Va_stretch_7 rfl (lv_at hl 0 rfl) ?_
  refine q_get X.1 X.2.1 X.2.2.1 i_Va X.2.2.2.1 X.2.2.2.2 Y m_v e13 rfl 3 (by decide) (X.2.2.1 _ lk_Va_31) (fun _ h9 => h9) rfl d_Va_stretch_8 ?_
  refine lv_aload_n X.1 X.2.1 d_Va_stretch_11 rfl (lv_at hl 0 rfl) ?_
  refine q_get X.1 X.2.1 X.2.2.1 i_Va X.2.2.2.1 X.2.2.2.2 Y m_v e13 rfl 12 (by decide) (X.2.2.1 _ lk_Va_58) (fun _ h9 => h9) rfl d_Va_stretch_12 ?_
  refine q_get X.1 X.2.1 X.2.2.1 i_By X.2.2.2.1 X.2.2.2.2 Y m_b e20 rfl 0 (by decide) (X.2.2.1 _ lk_Va_86) (fun _ h9 => h9) rfl d_Va_stretch_15 ?_
  refine lv_iconst (v := (nI 0)) X.1 X.2.1 d_Va_stretch_18 (by decide) ?_
  refine lv_aload_n X.1 X.2.1 d_Va_stretch_19 rfl (lv_at hl 0 rfl) ?_
  refine q_get X.1 X.2.1 X.2.2.1 i_Va X.2.2.2.1 X.2.2.2.2 Y m_v e13 rfl 12 (by decide) (X.2.2.1 _ lk_Va_58) (fun _ h9 => h9) rfl d_Va_stretch_20 ?_
  refine q_get X.1 X.2.1 X.2.2.1 i_By X.2.2.2.1 X.2.2.2.2 Y m_b e20 rfl 1 (by decide) (X.2.2.1 _ lk_Va_77) (fun _ h9 => h9) rfl d_Va_stretch_23 ?_
  refine x_v (x_runV (As := [.ref r, .int (nI 0), .int (nI n)]) (rest := []) (n := 3) X Y hml hl.1 (c_Ha_add l D E L f1 H.size (N) (nI 0) (nI n) ho wd bl hst inn out mac r (n7) (v8) g_wd g_bl g9 g_inn g_out g_mac g_r m_ho m_wd m_bl m_hst m_inn m_out m_mac m_r e11 e14 e15 e12 e16 e17 e18 e21 f_bl f_mac f_r ap_wd_bl ap_wd_hst ap_wd_inn ap_wd_out ap_wd_mac ap_wd_r ap_bl_hst ap_bl_inn ap_bl_out ap_bl_mac ap_bl_r ap_hst_inn ap_hst_out ap_hst_mac ap_hst_r ap_inn_out ap_inn_mac ap_inn_r ap_out_mac ap_out_r ap_mac_r (by omega) (by omega)) (ok_c X Y) m_ho e11 rfl kl_Va_Ha_add ks_Ha_add kx_Ha_add ki_Ha_add ini_Ha ⟨rfl, rfl⟩ hd_Ha_add ⟨by decide, by decide⟩ rfl (Nat.le_of_ble_eq_true rfl) d_Va_stretch_26 ⟨(show 0 + 0 ≤ 0 by omega), (show 0 + (0) ≤ (0) by omega)⟩) X Y hA (fun u H locs hp Y => ?_)
  obtain ⟨L24, f23⟩ := u
  obtain ⟨eL27, hF25, n29, v30, g31, g32, g33, hg34, h35, e36, e37, e38, e39⟩ := hp
  dsimp only at eL27 hF25 e36 e37 e38 e39 Y
  rw [eL27] at Y
  have e40 : f23 v = .inr (11, [.int now, .ref txo, .ref dro, .ref ho, .ref o, .ref se, .int ssz, .ref coo, .int cat, .int crw, .ref deo, .ref tu, .ref b]) := (hF25 v (q_tag e13 e11 (show (11 : Nat) ≠ 6 by decide)) (q_tag e13 e14 (show (11 : Nat) ≠ 1000 by decide)) (q_tag e13 e15 (show (11 : Nat) ≠ 1000 by decide)) (q_tag e13 e12 (show (11 : Nat) ≠ 1000 by decide))).trans e13
  have e41 : f23 inn = .inl (E.2.1, 5, .inl g_inn) := (hF25 inn (q_tag e16 e11 (show (1000 : Nat) ≠ 6 by decide)) ap_wd_inn.symm ap_bl_inn.symm ap_hst_inn.symm).trans e16
  have e42 : f23 out = .inl (E.2.1, 5, .inl g_out) := (hF25 out (q_tag e17 e11 (show (1000 : Nat) ≠ 6 by decide)) ap_wd_out.symm ap_bl_out.symm ap_hst_out.symm).trans e17
  have e43 : f23 mac = .inl (E.1, 20, .inl g_mac) := (hF25 mac (q_tag e18 e11 (show (1000 : Nat) ≠ 6 by decide)) ap_wd_mac.symm ap_bl_mac.symm ap_hst_mac.symm).trans e18
  have e44 : f23 tu = .inl (E.1, 20, .inl g_tu) := (hF25 tu (q_tag e19 e11 (show (1000 : Nat) ≠ 6 by decide)) ap_wd_tu.symm ap_bl_tu.symm ap_hst_tu.symm).trans e19
  have e45 : f23 b = .inr (3, [.ref r, .int (nI n)]) := (hF25 b (q_tag e20 e11 (show (3 : Nat) ≠ 6 by decide)) (q_tag e20 e14 (show (3 : Nat) ≠ 1000 by decide)) (q_tag e20 e15 (show (3 : Nat) ≠ 1000 by decide)) (q_tag e20 e12 (show (3 : Nat) ≠ 1000 by decide))).trans e20
  have e46 : f23 r = .inl (E.1, N, .inl g_r) := (hF25 r (q_tag e21 e11 (show (1000 : Nat) ≠ 6 by decide)) ap_wd_r.symm ap_bl_r.symm ap_hst_r.symm).trans e21
  have hF47 : ∀ x, x ≠ ho → x ≠ wd → x ≠ bl → x ≠ hst → x ≠ mac → x ≠ tu → f23 x = f x := fun x h0 h1 h2 h3 h4 h5 => (hF25 x h0 h1 h2 h3).trans (hF22 x h0 h1 h2 h3 h4 h5)
  refine lv_aload_n X.1 X.2.1 d_Va_stretch_29 rfl (lv_at hl 0 rfl) ?_
  refine q_get X.1 X.2.1 X.2.2.1 i_Va X.2.2.2.1 X.2.2.2.2 Y m_v e40 rfl 3 (by decide) (X.2.2.1 _ lk_Va_31) (fun _ h9 => h9) rfl d_Va_stretch_30 ?_
  refine x_v (x_runV (As := []) (rest := []) (n := 0) X Y hml hl.1 (c_Ha_finish l D E L f23 H.size  ho wd bl hst inn out mac (n29) (v30) g31 g32 g33 g_inn g_out g_mac m_ho m_wd m_bl m_hst m_inn m_out m_mac e36 e37 e38 e39 e41 e42 e43 hg34 f_mac ap_wd_bl ap_wd_hst ap_wd_inn ap_wd_out ap_wd_mac ap_bl_hst ap_bl_inn ap_bl_out ap_bl_mac ap_hst_inn ap_hst_out ap_hst_mac ap_inn_out ap_inn_mac ap_out_mac (by omega)) (ok_c X Y) m_ho e36 rfl kl_Va_Ha_finish ks_Ha_finish kx_Ha_finish ki_Ha_finish ini_Ha ⟨rfl, rfl⟩ hd_Ha_finish ⟨by decide, by decide⟩ rfl (Nat.le_of_ble_eq_true rfl) d_Va_stretch_33 ⟨(show 0 + 0 ≤ 0 by omega), (show 0 + (0) ≤ (0) by omega)⟩) X Y hA (fun u H locs hp Y => ?_)
  obtain ⟨L49, f48⟩ := u
  obtain ⟨eL52, hF50, n54, v55, g56, g57, g58, g59, hg60, hg61, h62, e63, e64, e65, e66, e67⟩ := hp
  dsimp only at eL52 hF50 e63 e64 e65 e66 e67 Y
  rw [eL52] at Y
  have e68 : f48 v = .inr (11, [.int now, .ref txo, .ref dro, .ref ho, .ref o, .ref se, .int ssz, .ref coo, .int cat, .int crw, .ref deo, .ref tu, .ref b]) := (hF50 v (q_tag e40 e36 (show (11 : Nat) ≠ 6 by decide)) (q_tag e40 e37 (show (11 : Nat) ≠ 1000 by decide)) (q_tag e40 e38 (show (11 : Nat) ≠ 1000 by decide)) (q_tag e40 e39 (show (11 : Nat) ≠ 1000 by decide)) (q_tag e40 e43 (show (11 : Nat) ≠ 1000 by decide))).trans e40
  have e69 : f48 inn = .inl (E.2.1, 5, .inl g_inn) := (hF50 inn (q_tag e41 e36 (show (1000 : Nat) ≠ 6 by decide)) ap_wd_inn.symm ap_bl_inn.symm ap_hst_inn.symm ap_inn_mac).trans e41
  have e70 : f48 out = .inl (E.2.1, 5, .inl g_out) := (hF50 out (q_tag e42 e36 (show (1000 : Nat) ≠ 6 by decide)) ap_wd_out.symm ap_bl_out.symm ap_hst_out.symm ap_out_mac).trans e42
  have e71 : f48 tu = .inl (E.1, 20, .inl g_tu) := (hF50 tu (q_tag e44 e36 (show (1000 : Nat) ≠ 6 by decide)) ap_wd_tu.symm ap_bl_tu.symm ap_hst_tu.symm ap_mac_tu.symm).trans e44
  have e72 : f48 b = .inr (3, [.ref r, .int (nI n)]) := (hF50 b (q_tag e45 e36 (show (3 : Nat) ≠ 6 by decide)) (q_tag e45 e37 (show (3 : Nat) ≠ 1000 by decide)) (q_tag e45 e38 (show (3 : Nat) ≠ 1000 by decide)) (q_tag e45 e39 (show (3 : Nat) ≠ 1000 by decide)) (q_tag e45 e43 (show (3 : Nat) ≠ 1000 by decide))).trans e45
  have e73 : f48 r = .inl (E.1, N, .inl g_r) := (hF50 r (q_tag e46 e36 (show (1000 : Nat) ≠ 6 by decide)) ap_wd_r.symm ap_bl_r.symm ap_hst_r.symm ap_mac_r.symm).trans e46
  have hF74 : ∀ x, x ≠ ho → x ≠ wd → x ≠ bl → x ≠ hst → x ≠ mac → x ≠ tu → f48 x = f x := fun x h0 h1 h2 h3 h4 h5 => (hF50 x h0 h1 h2 h3 h4).trans (hF47 x h0 h1 h2 h3 h4 h5)
  refine lv_aload_n X.1 X.2.1 d_Va_stretch_36 rfl (lv_at hl 0 rfl) ?_
  refine q_get X.1 X.2.1 X.2.2.1 i_Va X.2.2.2.1 X.2.2.2.2 Y m_v e68 rfl 3 (by decide) (X.2.2.1 _ lk_Va_31) (fun _ h9 => h9) rfl d_Va_stretch_37 ?_
  refine q_get X.1 X.2.1 X.2.2.1 i_Ha X.2.2.2.1 X.2.2.2.2 Y m_ho e63 rfl 7 (by decide) (X.2.2.1 _ lk_Va_125) (fun _ h9 => h9) rfl d_Va_stretch_40 ?_
  refine lv_iconst (v := (nI 0)) X.1 X.2.1 d_Va_stretch_43 (by decide) ?_
  refine lv_aload_n X.1 X.2.1 d_Va_stretch_44 rfl (lv_at hl 0 rfl) ?_
  refine q_get X.1 X.2.1 X.2.2.1 i_Va X.2.2.2.1 X.2.2.2.2 Y m_v e68 rfl 11 (by decide) (X.2.2.1 _ lk_Va_55) (fun _ h9 => h9) rfl d_Va_stretch_45 ?_
  refine lv_iconst (v := (nI 0)) X.1 X.2.1 d_Va_stretch_48 (by decide) ?_
  refine lv_bipush (v := (nI 20)) X.1 X.2.1 d_Va_stretch_49 (by decide) ?_
  refine q_copy X.1 X.2.1 (hml.trans hl.1.symm) X.2.2.2.1 (X.2.2.1 _ kl_Va_copy) (X.2.2.1 _ kn_copy) (X.2.2.1 _ ks_copy) (X.2.2.1 _ ini_Sys) X.2.2.2.2 Y 0 m_mac e67 m_tu e71 rfl rfl (show 0 + 20 ≤ 20 by omega) (show 0 + 20 ≤ 20 by omega) (by omega) (by omega) hg61 (Nat.le_of_ble_eq_true rfl) (Nat.le_of_ble_eq_true rfl) d_Va_stretch_51 (fun H locs Y => ?_)
  have hg76 : fB (va_cpy g59 g_tu (0) (0) (20)) := fB_cpy hg61 f_tu
  generalize (va_cpy g59 g_tu (0) (0) (20)) = g75 at Y hg76
  have e78 : (va_up f48 tu (.inl (E.1, 20, .inl g75))) tu = .inl (E.1, 20, .inl g75) := q_up
  have e79 : (va_up f48 tu (.inl (E.1, 20, .inl g75))) v = .inr (11, [.int now, .ref txo, .ref dro, .ref ho, .ref o, .ref se, .int ssz, .ref coo, .int cat, .int crw, .ref deo, .ref tu, .ref b]) := (q_ne (q_tag e68 e71 (show (11 : Nat) ≠ 1000 by decide))).trans e68
  have e80 : (va_up f48 tu (.inl (E.1, 20, .inl g75))) ho = .inr (6, [.ref wd, .ref bl, .ref hst, .ref inn, .ref out, .int (nI n54), .int v55, .ref mac]) := (q_ne (q_tag e63 e71 (show (6 : Nat) ≠ 1000 by decide))).trans e63
  have e81 : (va_up f48 tu (.inl (E.1, 20, .inl g75))) wd = .inl (E.2.1, 80, .inl g56) := (q_ne ap_wd_tu).trans e64
  have e82 : (va_up f48 tu (.inl (E.1, 20, .inl g75))) bl = .inl (E.1, 64, .inl g57) := (q_ne ap_bl_tu).trans e65
  have e83 : (va_up f48 tu (.inl (E.1, 20, .inl g75))) hst = .inl (E.2.1, 5, .inl g58) := (q_ne ap_hst_tu).trans e66
  have e84 : (va_up f48 tu (.inl (E.1, 20, .inl g75))) inn = .inl (E.2.1, 5, .inl g_inn) := (q_ne ap_inn_tu).trans e69
  have e85 : (va_up f48 tu (.inl (E.1, 20, .inl g75))) out = .inl (E.2.1, 5, .inl g_out) := (q_ne ap_out_tu).trans e70
  have e86 : (va_up f48 tu (.inl (E.1, 20, .inl g75))) mac = .inl (E.1, 20, .inl g59) := (q_ne ap_mac_tu).trans e67
  have e87 : (va_up f48 tu (.inl (E.1, 20, .inl g75))) b = .inr (3, [.ref r, .int (nI n)]) := (q_ne (q_tag e72 e71 (show (3 : Nat) ≠ 1000 by decide))).trans e72
  have e88 : (va_up f48 tu (.inl (E.1, 20, .inl g75))) r = .inl (E.1, N, .inl g_r) := (q_ne ap_tu_r.symm).trans e73
  have hF89 : ∀ x, x ≠ ho → x ≠ wd → x ≠ bl → x ≠ hst → x ≠ mac → x ≠ tu → (va_up f48 tu (.inl (E.1, 20, .inl g75))) x = f x := fun x h0 h1 h2 h3 h4 h5 => (q_ne h5).trans (hF74 x h0 h1 h2 h3 h4 h5)
  have Y : pH D cCl (pA L sz) s.heap L (va_up f48 tu (.inl (E.1, 20, .inl g75))) H locs := Y
  generalize (va_up f48 tu (.inl (E.1, 20, .inl g75))) = f77 at Y e78 e79 e80 e81 e82 e83 e84 e85 e86 e87 e88 hF89
  refine lv_iconst (v := (nI 1)) X.1 X.2.1 d_Va_stretch_54 (by decide) ?_
  refine lv_istore_n (lv' := [(2, .int (nI 1)), (0, .ref v), (1, .int a1)]) X.1 X.2.1 d_Va_stretch_55 rfl hl (by decide) rfl (fun ls hl => ?_)
  have lp90 : ∀ (n91 kk n97 : Nat) (y98 : Int32) (g100 : Nat → Int32) (g102 : Nat → Int32) (g105 : Nat → Int32) (g109 : Nat → Int32) (g112 : Nat → Int32) (f93 : pF) (H : Heap) (locs : List Loc) (ls : Array Slot), 200 - kk = n91 → (kk ≤ 200) → ((n97) < 64) → fB g102 → fB g109 → fB g112 → f93 v = .inr (11, [.int now, .ref txo, .ref dro, .ref ho, .ref o, .ref se, .int ssz, .ref coo, .int cat, .int crw, .ref deo, .ref tu, .ref b]) → f93 ho = .inr (6, [.ref wd, .ref bl, .ref hst, .ref inn, .ref out, .int (nI n97), .int y98, .ref mac]) → f93 wd = .inl (E.2.1, 80, .inl g100) → f93 bl = .inl (E.1, 64, .inl g102) → f93 hst = .inl (E.2.1, 5, .inl g105) → f93 inn = .inl (E.2.1, 5, .inl g_inn) → f93 out = .inl (E.2.1, 5, .inl g_out) → f93 mac = .inl (E.1, 20, .inl g109) → f93 tu = .inl (E.1, 20, .inl g112) → f93 b = .inr (3, [.ref r, .int (nI n)]) → f93 r = .inl (E.1, N, .inl g_r) → (∀ x, x ≠ ho → x ≠ wd → x ≠ bl → x ≠ hst → x ≠ mac → x ≠ tu → f93 x = f x) → pH D cCl (pA L sz) s.heap L f93 H locs → lv_has ls 4 [(2, .int (nI kk)), (0, .ref v), (1, .int a1)] → W p l e (kRm 3 80 0 (0)) s m AV below meth c H locs 0 0 QQ (F0 m 56 ls []) := by
    intro n91
    induction n91 with
    | zero =>
      intro kk n97 y98 g100 g102 g105 g109 g112 f93 H locs ls hm118 hc116 hc117 hg103 hg110 hg113 e95 e96 e99 e101 e104 e106 e107 e108 e111 e114 e115 hF94 Y hl
      refine lv_iload_n X.1 X.2.1 d_Va_stretch_56 rfl (lv_at hl 0 rfl) ?_
      refine lv_iload_n X.1 X.2.1 d_Va_stretch_57 rfl (lv_at hl 2 rfl) ?_
      refine lv_icmp_ge (tgt := 138) X.1 X.2.1 d_Va_stretch_58 (by decide) (fun c119 => ?_) (fun c119 => ?_)
      · skip
        exact c_retv hQQ X Y hr hlk ⟨rfl, hF94, (n97), (y98), g100, g102, g105, g109, g112, hg103, hg110, hg113, (by omega), e96, e99, e101, e104, e108, e111⟩ d_Va_stretch_138
      · skip
        refine lv_iload_n X.1 X.2.1 d_Va_stretch_61 rfl (lv_at hl 0 rfl) ?_
        refine lv_sipush (v := (nI 200)) X.1 X.2.1 d_Va_stretch_62 (by decide) ?_
        refine lv_icmp_ge (tgt := 138) X.1 X.2.1 d_Va_stretch_65 (by decide) (fun c120 => ?_) (fun c120 => absurd ?_ c120)
        rotate_left
        · (rw [nI_leI (by omega) (by omega)] <;> omega)
        rw [nI_leI (by omega) (by omega)] at c120
        exact c_retv hQQ X Y hr hlk ⟨rfl, hF94, (n97), (y98), g100, g102, g105, g109, g112, hg103, hg110, hg113, (by omega), e96, e99, e101, e104, e108, e111⟩ d_Va_stretch_138
    | succ n91 ih92 =>
      intro kk n97 y98 g100 g102 g105 g109 g112 f93 H locs ls hm118 hc116 hc117 hg103 hg110 hg113 e95 e96 e99 e101 e104 e106 e107 e108 e111 e114 e115 hF94 Y hl
      refine lv_iload_n X.1 X.2.1 d_Va_stretch_56 rfl (lv_at hl 0 rfl) ?_
      refine lv_iload_n X.1 X.2.1 d_Va_stretch_57 rfl (lv_at hl 2 rfl) ?_
      refine lv_icmp_ge (tgt := 138) X.1 X.2.1 d_Va_stretch_58 (by decide) (fun c121 => ?_) (fun c121 => ?_)
      · skip
        exact c_retv hQQ X Y hr hlk ⟨rfl, hF94, (n97), (y98), g100, g102, g105, g109, g112, hg103, hg110, hg113, (by omega), e96, e99, e101, e104, e108, e111⟩ d_Va_stretch_138
      · skip
        refine lv_iload_n X.1 X.2.1 d_Va_stretch_61 rfl (lv_at hl 0 rfl) ?_
        refine lv_sipush (v := (nI 200)) X.1 X.2.1 d_Va_stretch_62 (by decide) ?_
        refine lv_icmp_ge (tgt := 138) X.1 X.2.1 d_Va_stretch_65 (by decide) (fun c122 => absurd c122 ?_) (fun c122 => ?_)
        · (rw [nI_leI (by omega) (by omega)] <;> omega)
        rw [nI_leI (by omega) (by omega)] at c122
        refine lv_aload_n X.1 X.2.1 d_Va_stretch_68 rfl (lv_at hl 1 rfl) ?_
        refine q_get X.1 X.2.1 X.2.2.1 i_Va X.2.2.2.1 X.2.2.2.2 Y m_v e95 rfl 3 (by decide) (X.2.2.1 _ lk_Va_31) (fun _ h9 => h9) rfl d_Va_stretch_69 ?_
        refine x_v (x_runV (As := []) (rest := []) (n := 0) X Y hml hl.1 (c_Ha_begin l D E L f93 H.size  ho wd bl hst inn out mac (n97) (y98) g100 g102 g105 g_inn g_out g109 m_ho m_wd m_bl m_hst m_inn m_out m_mac e96 e99 e101 e104 e106 e107 e108 hg103 hg110 ap_wd_bl ap_wd_hst ap_wd_inn ap_wd_out ap_wd_mac ap_bl_hst ap_bl_inn ap_bl_out ap_bl_mac ap_hst_inn ap_hst_out ap_hst_mac ap_inn_out ap_inn_mac ap_out_mac) (ok_c X Y) m_ho e96 rfl kl_Va_Ha_begin ks_Ha_begin kx_Ha_begin ki_Ha_begin ini_Ha ⟨rfl, rfl⟩ hd_Ha_begin ⟨by decide, by decide⟩ rfl (Nat.le_of_ble_eq_true rfl) d_Va_stretch_72 ⟨(show 0 + 0 ≤ 0 by omega), (show 0 + (0) ≤ (0) by omega)⟩) X Y hA (fun u H locs hp Y => ?_)
        obtain ⟨L124, f123⟩ := u
        obtain ⟨eL127, hF125, n129, v130, g131, h132, e133, e134⟩ := hp
        dsimp only at eL127 hF125 e133 e134 Y
        rw [eL127] at Y
        have e135 : f123 v = .inr (11, [.int now, .ref txo, .ref dro, .ref ho, .ref o, .ref se, .int ssz, .ref coo, .int cat, .int crw, .ref deo, .ref tu, .ref b]) := (hF125 v (q_tag e95 e96 (show (11 : Nat) ≠ 6 by decide)) (q_tag e95 e104 (show (11 : Nat) ≠ 1000 by decide))).trans e95
        have e136 : f123 wd = .inl (E.2.1, 80, .inl g100) := (hF125 wd (q_tag e99 e96 (show (1000 : Nat) ≠ 6 by decide)) ap_wd_hst).trans e99
        have e137 : f123 bl = .inl (E.1, 64, .inl g102) := (hF125 bl (q_tag e101 e96 (show (1000 : Nat) ≠ 6 by decide)) ap_bl_hst).trans e101
        have e138 : f123 inn = .inl (E.2.1, 5, .inl g_inn) := (hF125 inn (q_tag e106 e96 (show (1000 : Nat) ≠ 6 by decide)) ap_hst_inn.symm).trans e106
        have e139 : f123 out = .inl (E.2.1, 5, .inl g_out) := (hF125 out (q_tag e107 e96 (show (1000 : Nat) ≠ 6 by decide)) ap_hst_out.symm).trans e107
        have e140 : f123 mac = .inl (E.1, 20, .inl g109) := (hF125 mac (q_tag e108 e96 (show (1000 : Nat) ≠ 6 by decide)) ap_hst_mac.symm).trans e108
        have e141 : f123 tu = .inl (E.1, 20, .inl g112) := (hF125 tu (q_tag e111 e96 (show (1000 : Nat) ≠ 6 by decide)) ap_hst_tu.symm).trans e111
        have e142 : f123 b = .inr (3, [.ref r, .int (nI n)]) := (hF125 b (q_tag e114 e96 (show (3 : Nat) ≠ 6 by decide)) (q_tag e114 e104 (show (3 : Nat) ≠ 1000 by decide))).trans e114
        have e143 : f123 r = .inl (E.1, N, .inl g_r) := (hF125 r (q_tag e115 e96 (show (1000 : Nat) ≠ 6 by decide)) ap_hst_r.symm).trans e115
        have hF144 : ∀ x, x ≠ ho → x ≠ wd → x ≠ bl → x ≠ hst → x ≠ mac → x ≠ tu → f123 x = f x := fun x h0 h1 h2 h3 h4 h5 => (hF125 x h0 h3).trans (hF94 x h0 h1 h2 h3 h4 h5)
        refine lv_aload_n X.1 X.2.1 d_Va_stretch_75 rfl (lv_at hl 1 rfl) ?_
        refine q_get X.1 X.2.1 X.2.2.1 i_Va X.2.2.2.1 X.2.2.2.2 Y m_v e135 rfl 3 (by decide) (X.2.2.1 _ lk_Va_31) (fun _ h9 => h9) rfl d_Va_stretch_76 ?_
        refine lv_aload_n X.1 X.2.1 d_Va_stretch_79 rfl (lv_at hl 1 rfl) ?_
        refine q_get X.1 X.2.1 X.2.2.1 i_Va X.2.2.2.1 X.2.2.2.2 Y m_v e135 rfl 3 (by decide) (X.2.2.1 _ lk_Va_31) (fun _ h9 => h9) rfl d_Va_stretch_80 ?_
        refine q_get X.1 X.2.1 X.2.2.1 i_Ha X.2.2.2.1 X.2.2.2.2 Y m_ho e133 rfl 7 (by decide) (X.2.2.1 _ lk_Va_125) (fun _ h9 => h9) rfl d_Va_stretch_83 ?_
        refine lv_iconst (v := (nI 0)) X.1 X.2.1 d_Va_stretch_86 (by decide) ?_
        refine lv_bipush (v := (nI 20)) X.1 X.2.1 d_Va_stretch_87 (by decide) ?_
        refine x_v (x_runV (As := [.ref mac, .int (nI 0), .int (nI 20)]) (rest := []) (n := 3) X Y hml hl.1 (c_Ha_addMac l D E L f123 H.size (nI 0) (nI 20) ho wd bl hst inn out mac (n129) (v130) g100 g102 g131 g_inn g_out g109 m_ho m_wd m_bl m_hst m_inn m_out m_mac e133 e136 e137 e134 e138 e139 e140 hg103 hg110 ap_wd_bl ap_wd_hst ap_wd_inn ap_wd_out ap_wd_mac ap_bl_hst ap_bl_inn ap_bl_out ap_bl_mac ap_hst_inn ap_hst_out ap_hst_mac ap_inn_out ap_inn_mac ap_out_mac (by omega) (by omega)) (ok_c X Y) m_ho e133 rfl kl_Va_Ha_add ks_Ha_add kx_Ha_add ki_Ha_add ini_Ha ⟨rfl, rfl⟩ hd_Ha_add ⟨by decide, by decide⟩ rfl (Nat.le_of_ble_eq_true rfl) d_Va_stretch_89 ⟨(show 0 + 0 ≤ 0 by omega), (show 0 + (0) ≤ (0) by omega)⟩) X Y hA (fun u H locs hp Y => ?_)
        obtain ⟨L146, f145⟩ := u
        obtain ⟨eL149, hF147, n151, v152, g153, g154, g155, hg156, h157, e158, e159, e160, e161⟩ := hp
        dsimp only at eL149 hF147 e158 e159 e160 e161 Y
        rw [eL149] at Y
        have e162 : f145 v = .inr (11, [.int now, .ref txo, .ref dro, .ref ho, .ref o, .ref se, .int ssz, .ref coo, .int cat, .int crw, .ref deo, .ref tu, .ref b]) := (hF147 v (q_tag e135 e133 (show (11 : Nat) ≠ 6 by decide)) (q_tag e135 e136 (show (11 : Nat) ≠ 1000 by decide)) (q_tag e135 e137 (show (11 : Nat) ≠ 1000 by decide)) (q_tag e135 e134 (show (11 : Nat) ≠ 1000 by decide))).trans e135
        have e163 : f145 inn = .inl (E.2.1, 5, .inl g_inn) := (hF147 inn (q_tag e138 e133 (show (1000 : Nat) ≠ 6 by decide)) ap_wd_inn.symm ap_bl_inn.symm ap_hst_inn.symm).trans e138
        have e164 : f145 out = .inl (E.2.1, 5, .inl g_out) := (hF147 out (q_tag e139 e133 (show (1000 : Nat) ≠ 6 by decide)) ap_wd_out.symm ap_bl_out.symm ap_hst_out.symm).trans e139
        have e165 : f145 mac = .inl (E.1, 20, .inl g109) := (hF147 mac (q_tag e140 e133 (show (1000 : Nat) ≠ 6 by decide)) ap_wd_mac.symm ap_bl_mac.symm ap_hst_mac.symm).trans e140
        have e166 : f145 tu = .inl (E.1, 20, .inl g112) := (hF147 tu (q_tag e141 e133 (show (1000 : Nat) ≠ 6 by decide)) ap_wd_tu.symm ap_bl_tu.symm ap_hst_tu.symm).trans e141
        have e167 : f145 b = .inr (3, [.ref r, .int (nI n)]) := (hF147 b (q_tag e142 e133 (show (3 : Nat) ≠ 6 by decide)) (q_tag e142 e136 (show (3 : Nat) ≠ 1000 by decide)) (q_tag e142 e137 (show (3 : Nat) ≠ 1000 by decide)) (q_tag e142 e134 (show (3 : Nat) ≠ 1000 by decide))).trans e142
        have e168 : f145 r = .inl (E.1, N, .inl g_r) := (hF147 r (q_tag e143 e133 (show (1000 : Nat) ≠ 6 by decide)) ap_wd_r.symm ap_bl_r.symm ap_hst_r.symm).trans e143
        have hF169 : ∀ x, x ≠ ho → x ≠ wd → x ≠ bl → x ≠ hst → x ≠ mac → x ≠ tu → f145 x = f x := fun x h0 h1 h2 h3 h4 h5 => (hF147 x h0 h1 h2 h3).trans (hF144 x h0 h1 h2 h3 h4 h5)
        refine lv_aload_n X.1 X.2.1 d_Va_stretch_92 rfl (lv_at hl 1 rfl) ?_
        refine q_get X.1 X.2.1 X.2.2.1 i_Va X.2.2.2.1 X.2.2.2.2 Y m_v e162 rfl 3 (by decide) (X.2.2.1 _ lk_Va_31) (fun _ h9 => h9) rfl d_Va_stretch_93 ?_
        refine x_v (x_runV (As := []) (rest := []) (n := 0) X Y hml hl.1 (c_Ha_finish l D E L f145 H.size  ho wd bl hst inn out mac (n151) (v152) g153 g154 g155 g_inn g_out g109 m_ho m_wd m_bl m_hst m_inn m_out m_mac e158 e159 e160 e161 e163 e164 e165 hg156 hg110 ap_wd_bl ap_wd_hst ap_wd_inn ap_wd_out ap_wd_mac ap_bl_hst ap_bl_inn ap_bl_out ap_bl_mac ap_hst_inn ap_hst_out ap_hst_mac ap_inn_out ap_inn_mac ap_out_mac (by omega)) (ok_c X Y) m_ho e158 rfl kl_Va_Ha_finish ks_Ha_finish kx_Ha_finish ki_Ha_finish ini_Ha ⟨rfl, rfl⟩ hd_Ha_finish ⟨by decide, by decide⟩ rfl (Nat.le_of_ble_eq_true rfl) d_Va_stretch_96 ⟨(show 0 + 0 ≤ 0 by omega), (show 0 + (0) ≤ (0) by omega)⟩) X Y hA (fun u H locs hp Y => ?_)
        obtain ⟨L171, f170⟩ := u
        obtain ⟨eL174, hF172, n176, v177, g178, g179, g180, g181, hg182, hg183, h184, e185, e186, e187, e188, e189⟩ := hp
        dsimp only at eL174 hF172 e185 e186 e187 e188 e189 Y
        rw [eL174] at Y
        have e190 : f170 v = .inr (11, [.int now, .ref txo, .ref dro, .ref ho, .ref o, .ref se, .int ssz, .ref coo, .int cat, .int crw, .ref deo, .ref tu, .ref b]) := (hF172 v (q_tag e162 e158 (show (11 : Nat) ≠ 6 by decide)) (q_tag e162 e159 (show (11 : Nat) ≠ 1000 by decide)) (q_tag e162 e160 (show (11 : Nat) ≠ 1000 by decide)) (q_tag e162 e161 (show (11 : Nat) ≠ 1000 by decide)) (q_tag e162 e165 (show (11 : Nat) ≠ 1000 by decide))).trans e162
        have e191 : f170 inn = .inl (E.2.1, 5, .inl g_inn) := (hF172 inn (q_tag e163 e158 (show (1000 : Nat) ≠ 6 by decide)) ap_wd_inn.symm ap_bl_inn.symm ap_hst_inn.symm ap_inn_mac).trans e163
        have e192 : f170 out = .inl (E.2.1, 5, .inl g_out) := (hF172 out (q_tag e164 e158 (show (1000 : Nat) ≠ 6 by decide)) ap_wd_out.symm ap_bl_out.symm ap_hst_out.symm ap_out_mac).trans e164
        have e193 : f170 tu = .inl (E.1, 20, .inl g112) := (hF172 tu (q_tag e166 e158 (show (1000 : Nat) ≠ 6 by decide)) ap_wd_tu.symm ap_bl_tu.symm ap_hst_tu.symm ap_mac_tu.symm).trans e166
        have e194 : f170 b = .inr (3, [.ref r, .int (nI n)]) := (hF172 b (q_tag e167 e158 (show (3 : Nat) ≠ 6 by decide)) (q_tag e167 e159 (show (3 : Nat) ≠ 1000 by decide)) (q_tag e167 e160 (show (3 : Nat) ≠ 1000 by decide)) (q_tag e167 e161 (show (3 : Nat) ≠ 1000 by decide)) (q_tag e167 e165 (show (3 : Nat) ≠ 1000 by decide))).trans e167
        have e195 : f170 r = .inl (E.1, N, .inl g_r) := (hF172 r (q_tag e168 e158 (show (1000 : Nat) ≠ 6 by decide)) ap_wd_r.symm ap_bl_r.symm ap_hst_r.symm ap_mac_r.symm).trans e168
        have hF196 : ∀ x, x ≠ ho → x ≠ wd → x ≠ bl → x ≠ hst → x ≠ mac → x ≠ tu → f170 x = f x := fun x h0 h1 h2 h3 h4 h5 => (hF172 x h0 h1 h2 h3 h4).trans (hF169 x h0 h1 h2 h3 h4 h5)
        refine lv_iconst (v := (nI 0)) X.1 X.2.1 d_Va_stretch_99 (by decide) ?_
        refine lv_istore_n (lv' := [(3, .int (nI 0)), (2, .int (nI kk)), (0, .ref v), (1, .int a1)]) X.1 X.2.1 d_Va_stretch_100 rfl hl (by decide) rfl (fun ls hl => ?_)
        have lp197 : ∀ (n198 i : Nat) (g211 : Nat → Int32) (f200 : pF) (H : Heap) (locs : List Loc) (ls : Array Slot), 20 - i = n198 → (i ≤ 20) → fB g211 → f200 v = .inr (11, [.int now, .ref txo, .ref dro, .ref ho, .ref o, .ref se, .int ssz, .ref coo, .int cat, .int crw, .ref deo, .ref tu, .ref b]) → f200 ho = .inr (6, [.ref wd, .ref bl, .ref hst, .ref inn, .ref out, .int (nI n176), .int v177, .ref mac]) → f200 wd = .inl (E.2.1, 80, .inl g178) → f200 bl = .inl (E.1, 64, .inl g179) → f200 hst = .inl (E.2.1, 5, .inl g180) → f200 inn = .inl (E.2.1, 5, .inl g_inn) → f200 out = .inl (E.2.1, 5, .inl g_out) → f200 mac = .inl (E.1, 20, .inl g181) → f200 tu = .inl (E.1, 20, .inl g211) → f200 b = .inr (3, [.ref r, .int (nI n)]) → f200 r = .inl (E.1, N, .inl g_r) → (∀ x, x ≠ ho → x ≠ wd → x ≠ bl → x ≠ hst → x ≠ mac → x ≠ tu → f200 x = f x) → pH D cCl (pA L sz) s.heap L f200 H locs → lv_has ls 4 [(3, .int (nI i)), (2, .int (nI kk)), (0, .ref v), (1, .int a1)] → W p l e (kRm 3 80 0 (0)) s m AV below meth c H locs 0 0 QQ (F0 m 101 ls []) := by
          intro n198
          induction n198 with
          | zero =>
            intro i g211 f200 H locs ls hm216 hc215 hg212 e202 e203 e204 e205 e206 e207 e208 e209 e210 e213 e214 hF201 Y hl
            refine lv_iload_n X.1 X.2.1 d_Va_stretch_101 rfl (lv_at hl 0 rfl) ?_
            refine lv_bipush (v := (nI 20)) X.1 X.2.1 d_Va_stretch_102 (by decide) ?_
            refine lv_icmp_ge (tgt := 132) X.1 X.2.1 d_Va_stretch_104 (by decide) (fun c217 => ?_) (fun c217 => absurd ?_ c217)
            rotate_left
            · (rw [nI_leI (by omega) (by omega)] <;> omega)
            rw [nI_leI (by omega) (by omega)] at c217
            refine lv_iinc (v := (nI (kk + 1))) (lv' := [(2, .int (nI (kk + 1))), (3, .int (nI i)), (0, .ref v), (1, .int a1)]) X.1 X.2.1 d_Va_stretch_132 hl (k := 1) rfl (nI_add _ 1) (by decide) rfl (fun ls hl => ?_)
            refine lv_goto (tgt := 56) X.1 X.2.1 d_Va_stretch_135 (by decide) ?_
            exact ih92  (kk + 1) (n176)  (v177) g178 g179 g180 g181 g211 f200 _ _ _ (by omega) (by omega) (by omega) hg182 hg183 hg212 e202 e203 e204 e205 e206 e207 e208 e209 e210 e213 e214 hF201 Y (lv_sub hl [0, 2, 3] rfl)
          | succ n198 ih199 =>
            intro i g211 f200 H locs ls hm216 hc215 hg212 e202 e203 e204 e205 e206 e207 e208 e209 e210 e213 e214 hF201 Y hl
            refine lv_iload_n X.1 X.2.1 d_Va_stretch_101 rfl (lv_at hl 0 rfl) ?_
            refine lv_bipush (v := (nI 20)) X.1 X.2.1 d_Va_stretch_102 (by decide) ?_
            refine lv_icmp_ge (tgt := 132) X.1 X.2.1 d_Va_stretch_104 (by decide) (fun c218 => absurd c218 ?_) (fun c218 => ?_)
            · (rw [nI_leI (by omega) (by omega)] <;> omega)
            rw [nI_leI (by omega) (by omega)] at c218
            refine lv_aload_n X.1 X.2.1 d_Va_stretch_107 rfl (lv_at hl 2 rfl) ?_
            refine q_get X.1 X.2.1 X.2.2.1 i_Va X.2.2.2.1 X.2.2.2.2 Y m_v e202 rfl 11 (by decide) (X.2.2.1 _ lk_Va_55) (fun _ h9 => h9) rfl d_Va_stretch_108 ?_
            refine lv_iload_n X.1 X.2.1 d_Va_stretch_111 rfl (lv_at hl 0 rfl) ?_
            refine lv_dup2_11 X.1 X.2.1 d_Va_stretch_112 rfl rfl ?_
            refine q_bald X.1 X.2.1 X.2.2.2.2 Y 0 m_tu e210 rfl (vp_in_nI (by omega) (by omega)) d_Va_stretch_113 ?_
            refine t_any (fun v219 => ?_)
            refine lv_aload_n X.1 X.2.1 d_Va_stretch_114 rfl (lv_at hl 2 rfl) ?_
            refine q_get X.1 X.2.1 X.2.2.1 i_Va X.2.2.2.1 X.2.2.2.2 Y m_v e202 rfl 3 (by decide) (X.2.2.1 _ lk_Va_31) (fun _ h9 => h9) rfl d_Va_stretch_115 ?_
            refine q_get X.1 X.2.1 X.2.2.1 i_Ha X.2.2.2.1 X.2.2.2.2 Y m_ho e203 rfl 7 (by decide) (X.2.2.1 _ lk_Va_125) (fun _ h9 => h9) rfl d_Va_stretch_118 ?_
            refine lv_iload_n X.1 X.2.1 d_Va_stretch_121 rfl (lv_at hl 0 rfl) ?_
            refine q_bald X.1 X.2.1 X.2.2.2.2 Y 0 m_mac e209 rfl (vp_in_nI (by omega) (by omega)) d_Va_stretch_122 ?_
            refine t_any (fun v220 => ?_)
            refine lv_ixor X.1 X.2.1 d_Va_stretch_123 ?_
            refine t_any (fun v221 => ?_)
            obtain ⟨v222, ev222⟩ : ∃ z : Int32, (v221 : Int32).toInt8.toInt32 = z := ⟨_, rfl⟩
            refine lv_i2b (v := v222) X.1 X.2.1 d_Va_stretch_124 ev222 ?_
            refine q_bast X.1 X.2.1 X.2.2.2.2 Y 0 m_tu e210 rfl (vp_in_nI (by omega) (by omega)) d_Va_stretch_125 (fun H locs Y => ?_)
            have hg224 : fB (upd g211 ((nI i)).toNatClampNeg (vp_nar .byte v222)) := fB_upd hg212
            generalize (upd g211 ((nI i)).toNatClampNeg (vp_nar .byte v222)) = g223 at Y hg224
            have e226 : (va_up f200 tu (.inl (E.1, 20, .inl g223))) tu = .inl (E.1, 20, .inl g223) := q_up
            have e227 : (va_up f200 tu (.inl (E.1, 20, .inl g223))) v = .inr (11, [.int now, .ref txo, .ref dro, .ref ho, .ref o, .ref se, .int ssz, .ref coo, .int cat, .int crw, .ref deo, .ref tu, .ref b]) := (q_ne (q_tag e202 e210 (show (11 : Nat) ≠ 1000 by decide))).trans e202
            have e228 : (va_up f200 tu (.inl (E.1, 20, .inl g223))) ho = .inr (6, [.ref wd, .ref bl, .ref hst, .ref inn, .ref out, .int (nI n176), .int v177, .ref mac]) := (q_ne (q_tag e203 e210 (show (6 : Nat) ≠ 1000 by decide))).trans e203
            have e229 : (va_up f200 tu (.inl (E.1, 20, .inl g223))) wd = .inl (E.2.1, 80, .inl g178) := (q_ne ap_wd_tu).trans e204
            have e230 : (va_up f200 tu (.inl (E.1, 20, .inl g223))) bl = .inl (E.1, 64, .inl g179) := (q_ne ap_bl_tu).trans e205
            have e231 : (va_up f200 tu (.inl (E.1, 20, .inl g223))) hst = .inl (E.2.1, 5, .inl g180) := (q_ne ap_hst_tu).trans e206
            have e232 : (va_up f200 tu (.inl (E.1, 20, .inl g223))) inn = .inl (E.2.1, 5, .inl g_inn) := (q_ne ap_inn_tu).trans e207
            have e233 : (va_up f200 tu (.inl (E.1, 20, .inl g223))) out = .inl (E.2.1, 5, .inl g_out) := (q_ne ap_out_tu).trans e208
            have e234 : (va_up f200 tu (.inl (E.1, 20, .inl g223))) mac = .inl (E.1, 20, .inl g181) := (q_ne ap_mac_tu).trans e209
            have e235 : (va_up f200 tu (.inl (E.1, 20, .inl g223))) b = .inr (3, [.ref r, .int (nI n)]) := (q_ne (q_tag e213 e210 (show (3 : Nat) ≠ 1000 by decide))).trans e213
            have e236 : (va_up f200 tu (.inl (E.1, 20, .inl g223))) r = .inl (E.1, N, .inl g_r) := (q_ne ap_tu_r.symm).trans e214
            have hF237 : ∀ x, x ≠ ho → x ≠ wd → x ≠ bl → x ≠ hst → x ≠ mac → x ≠ tu → (va_up f200 tu (.inl (E.1, 20, .inl g223))) x = f x := fun x h0 h1 h2 h3 h4 h5 => (q_ne h5).trans (hF201 x h0 h1 h2 h3 h4 h5)
            have Y : pH D cCl (pA L sz) s.heap L (va_up f200 tu (.inl (E.1, 20, .inl g223))) H locs := Y
            generalize (va_up f200 tu (.inl (E.1, 20, .inl g223))) = f225 at Y e226 e227 e228 e229 e230 e231 e232 e233 e234 e235 e236 hF237
            refine lv_iinc (v := (nI (i + 1))) (lv' := [(3, .int (nI (i + 1))), (2, .int (nI kk)), (0, .ref v), (1, .int a1)]) X.1 X.2.1 d_Va_stretch_126 hl (k := 0) rfl (nI_add _ 1) (by decide) rfl (fun ls hl => ?_)
            refine lv_goto (tgt := 101) X.1 X.2.1 d_Va_stretch_129 (by decide) ?_
            exact ih199  (i + 1)    g223 f225 _ _ _ (by omega) (by omega) hg224 e227 e228 e229 e230 e231 e232 e233 e234 e226 e235 e236 hF237 Y (lv_sub hl [0, 1, 2, 3] rfl)
        exact lp197 (20) (0)    g112 f170 _ _ _ (by omega) (by omega) hg113 e190 e185 e186 e187 e188 e191 e192 e189 e193 e194 e195 hF196 Y (lv_sub hl [0, 1, 2, 3] rfl)
  exact lp90 (199) (1) (n54)  (v55) g56 g57 g58 g59 g75 f77 _ _ _ (by omega) (by omega) (by omega) hg60 hg61 hg76 e79 e80 e81 e82 e83 e84 e85 e86 e78 e87 e88 hF89 Y (lv_sub hl [0, 1, 2] rfl)
set_option maxHeartbeats 4000000 in
set_option maxRecDepth 100000 in
theorem c_Va_chain16 (l : Launch) (D : va_G) (E : cE) (T : cT) (L : List Nat) (f : pF) (sz : Nat) (v o tw ke sta mo ky txo dro ho se coo deo tu b un kp rd : Nat) (now ssz cat crw : Int32) (g_tw g_ke g_sta g_mo g_ky : Nat → Int32) (m_v : v ∈ L) (m_o : o ∈ L) (m_tw : tw ∈ L) (m_ke : ke ∈ L) (m_sta : sta ∈ L) (m_mo : mo ∈ L) (m_ky : ky ∈ L) (e_v : f v = .inr (11, [.int now, .ref txo, .ref dro, .ref ho, .ref o, .ref se, .int ssz, .ref coo, .int cat, .int crw, .ref deo, .ref tu, .ref b])) (e_o : f o = .inr (1, [.ref un, .ref tw, .ref ke, .int (nI rd), .ref sta, .ref mo, .ref kp])) (e_tw : f tw = .inl (E.2.1, 256, .inl g_tw)) (e_ke : f ke = .inl (E.2.1, 240, .inl g_ke)) (e_sta : f sta = .inl (E.2.1, 16, .inl g_sta)) (e_mo : f mo = .inl (E.2.1, 16, .inl g_mo)) (e_ky : f ky = .inl (E.1, 16, .inl g_ky)) (f_tw : by8 g_tw) (f_ke : by8 g_ke) (f_sta : by8 g_sta) (f_mo : by8 g_mo) (f_ky : fB g_ky) (ap_tw_ke : tw ≠ ke) (ap_tw_sta : tw ≠ sta) (ap_tw_mo : tw ≠ mo) (ap_tw_ky : tw ≠ ky) (ap_ke_sta : ke ≠ sta) (ap_ke_mo : ke ≠ mo) (ap_ke_ky : ke ≠ ky) (ap_sta_mo : sta ≠ mo) (ap_sta_ky : sta ≠ ky) (ap_mo_ky : mo ≠ ky) (hh0 : rd ≤ 14) : Met l y_Va_chain (k_Va_chain :: lw_tg) (kRm 2 60 0 (0)) (va_Pc [.ref v, .ref ky, .int (nI 16)] (kPre D E T L f sz)) (va_Qv (fun (u : cU) => u.1 = L ∧ (∀ x, x ≠ sta → x ≠ mo → x ≠ ky → u.2 x = f x) ∧ ∃ (k_sta k_mo k_ky : Nat → Int32), by8 k_sta ∧ by8 k_mo ∧ fB k_ky ∧ u.2 sta = .inl (E.2.1, 16, .inl k_sta) ∧ u.2 mo = .inl (E.2.1, 16, .inl k_mo) ∧ u.2 ky = .inl (E.1, 16, .inl k_ky)) (cPost D E (pA L sz)) (pA L sz)) 0 (0) (pA L sz) := by
  refine k_enter (own := R_Va) (by decide) rfl (Nat.le_of_ble_eq_true rfl) (fun p e s m below meth c ls AV QQ H locs hQQ X Y hA hin hr hlk hml hl KS KR => ?_)
  have hl : lv_has ls 3 [(0, .ref v), (1, .ref ky), (2, .int (nI 16))] := hl
  refine lv_aload_n X.1 X.2.1 d_Va_chain_0 rfl (lv_at hl 0 rfl) ?_
  refine q_get X.1 X.2.1 X.2.2.1 i_Va X.2.2.2.1 X.2.2.2.2 Y m_v e_v rfl 4 (by decide) (X.2.2.1 _ lk_Va_38) (fun _ h9 => h9) rfl d_Va_chain_1 ?_
  refine lv_aload_n X.1 X.2.1 d_Va_chain_4 rfl (lv_at hl 1 rfl) ?_
  refine lv_iconst (v := (nI 0)) X.1 X.2.1 d_Va_chain_5 (by decide) ?_
  refine x_v (x_runV (As := [.ref ky, .int (nI 0)]) (rest := []) (n := 2) X Y hml hl.1 (c_Ae_encrypt l D E T L f H.size (0) (16) o tw ke sta mo ky un kp (rd) g_tw g_ke g_sta g_mo g_ky m_o m_tw m_ke m_sta m_mo m_ky e_o e_tw e_ke e_sta e_mo e_ky f_tw f_ke f_sta f_mo f_ky ap_tw_ke ap_tw_sta ap_tw_mo ap_tw_ky ap_ke_sta ap_ke_mo ap_ke_ky ap_sta_mo ap_sta_ky ap_mo_ky (by omega) (by omega) (by omega)) (ok_k X Y hA KS KR) m_o e_o rfl kl_Va_Ae_encrypt ks_Ae_encrypt kx_Ae_encrypt ki_Ae_encrypt ini_Ae ⟨rfl, rfl⟩ hd_Ae_encrypt ⟨by decide, by decide⟩ rfl (Nat.le_of_ble_eq_true rfl) d_Va_chain_6 ⟨(show 0 + 0 ≤ 0 by omega), (show 0 + (0) ≤ (0) by omega)⟩) X Y hA (fun u H locs hp Y => ?_)
  obtain ⟨L3, f2⟩ := u
  obtain ⟨eL5, hF4, g7, g8, g9, hg10, hg11, hg12, e13, e14, e15⟩ := hp
  dsimp only at eL5 hF4 e13 e14 e15 Y
  rw [eL5] at Y
  have e16 : f2 v = .inr (11, [.int now, .ref txo, .ref dro, .ref ho, .ref o, .ref se, .int ssz, .ref coo, .int cat, .int crw, .ref deo, .ref tu, .ref b]) := (hF4 v (q_tag e_v e_sta (show (11 : Nat) ≠ 1000 by decide)) (q_tag e_v e_mo (show (11 : Nat) ≠ 1000 by decide)) (q_tag e_v e_ky (show (11 : Nat) ≠ 1000 by decide))).trans e_v
  have e17 : f2 o = .inr (1, [.ref un, .ref tw, .ref ke, .int (nI rd), .ref sta, .ref mo, .ref kp]) := (hF4 o (q_tag e_o e_sta (show (1 : Nat) ≠ 1000 by decide)) (q_tag e_o e_mo (show (1 : Nat) ≠ 1000 by decide)) (q_tag e_o e_ky (show (1 : Nat) ≠ 1000 by decide))).trans e_o
  have e18 : f2 tw = .inl (E.2.1, 256, .inl g_tw) := (hF4 tw ap_tw_sta ap_tw_mo ap_tw_ky).trans e_tw
  have e19 : f2 ke = .inl (E.2.1, 240, .inl g_ke) := (hF4 ke ap_ke_sta ap_ke_mo ap_ke_ky).trans e_ke
  have hF20 : ∀ x, x ≠ sta → x ≠ mo → x ≠ ky → f2 x = f x := fun x h0 h1 h2 => (hF4 x h0 h1 h2).trans rfl
  refine lv_iload_n X.1 X.2.1 d_Va_chain_9 rfl (lv_at hl 2 rfl) ?_
  refine lv_bipush (v := (nI 32)) X.1 X.2.1 d_Va_chain_10 (by decide) ?_
  refine lv_icmp_ne (tgt := 42) X.1 X.2.1 d_Va_chain_12 (by decide) (fun c21 => ?_) (fun c21 => absurd c21 ?_)
  rotate_left
  · (rw [nI_eq (by omega) (by omega)] <;> omega)
  rw [nI_eq (by omega) (by omega)] at c21
  exact c_retv hQQ X Y hr hlk ⟨rfl, hF20, g7, g8, g9, hg10, hg11, hg12, e13, e14, e15⟩ d_Va_chain_42
set_option maxHeartbeats 4000000 in
set_option maxRecDepth 100000 in
theorem c_Va_chain32 (l : Launch) (D : va_G) (E : cE) (T : cT) (L : List Nat) (f : pF) (sz : Nat) (v o tw ke sta mo ky txo dro ho se coo deo tu b un kp rd : Nat) (now ssz cat crw : Int32) (g_tw g_ke g_sta g_mo g_ky : Nat → Int32) (m_v : v ∈ L) (m_o : o ∈ L) (m_tw : tw ∈ L) (m_ke : ke ∈ L) (m_sta : sta ∈ L) (m_mo : mo ∈ L) (m_ky : ky ∈ L) (e_v : f v = .inr (11, [.int now, .ref txo, .ref dro, .ref ho, .ref o, .ref se, .int ssz, .ref coo, .int cat, .int crw, .ref deo, .ref tu, .ref b])) (e_o : f o = .inr (1, [.ref un, .ref tw, .ref ke, .int (nI rd), .ref sta, .ref mo, .ref kp])) (e_tw : f tw = .inl (E.2.1, 256, .inl g_tw)) (e_ke : f ke = .inl (E.2.1, 240, .inl g_ke)) (e_sta : f sta = .inl (E.2.1, 16, .inl g_sta)) (e_mo : f mo = .inl (E.2.1, 16, .inl g_mo)) (e_ky : f ky = .inl (E.1, 32, .inl g_ky)) (f_tw : by8 g_tw) (f_ke : by8 g_ke) (f_sta : by8 g_sta) (f_mo : by8 g_mo) (f_ky : fB g_ky) (ap_tw_ke : tw ≠ ke) (ap_tw_sta : tw ≠ sta) (ap_tw_mo : tw ≠ mo) (ap_tw_ky : tw ≠ ky) (ap_ke_sta : ke ≠ sta) (ap_ke_mo : ke ≠ mo) (ap_ke_ky : ke ≠ ky) (ap_sta_mo : sta ≠ mo) (ap_sta_ky : sta ≠ ky) (ap_mo_ky : mo ≠ ky) (hh0 : rd ≤ 14) : Met l y_Va_chain (k_Va_chain :: lw_tg) (kRm 2 60 0 (0)) (va_Pc [.ref v, .ref ky, .int (nI 32)] (kPre D E T L f sz)) (va_Qv (fun (u : cU) => u.1 = L ∧ (∀ x, x ≠ sta → x ≠ mo → x ≠ ky → u.2 x = f x) ∧ ∃ (k_sta k_mo k_ky : Nat → Int32), by8 k_sta ∧ by8 k_mo ∧ fB k_ky ∧ u.2 sta = .inl (E.2.1, 16, .inl k_sta) ∧ u.2 mo = .inl (E.2.1, 16, .inl k_mo) ∧ u.2 ky = .inl (E.1, 32, .inl k_ky)) (cPost D E (pA L sz)) (pA L sz)) 0 (0) (pA L sz) := by
  refine k_enter (own := R_Va) (by decide) rfl (Nat.le_of_ble_eq_true rfl) (fun p e s m below meth c ls AV QQ H locs hQQ X Y hA hin hr hlk hml hl KS KR => ?_)
  have hl : lv_has ls 3 [(0, .ref v), (1, .ref ky), (2, .int (nI 32))] := hl
  refine lv_aload_n X.1 X.2.1 d_Va_chain_0 rfl (lv_at hl 0 rfl) ?_
  refine q_get X.1 X.2.1 X.2.2.1 i_Va X.2.2.2.1 X.2.2.2.2 Y m_v e_v rfl 4 (by decide) (X.2.2.1 _ lk_Va_38) (fun _ h9 => h9) rfl d_Va_chain_1 ?_
  refine lv_aload_n X.1 X.2.1 d_Va_chain_4 rfl (lv_at hl 1 rfl) ?_
  refine lv_iconst (v := (nI 0)) X.1 X.2.1 d_Va_chain_5 (by decide) ?_
  refine x_v (x_runV (As := [.ref ky, .int (nI 0)]) (rest := []) (n := 2) X Y hml hl.1 (c_Ae_encrypt l D E T L f H.size (0) (32) o tw ke sta mo ky un kp (rd) g_tw g_ke g_sta g_mo g_ky m_o m_tw m_ke m_sta m_mo m_ky e_o e_tw e_ke e_sta e_mo e_ky f_tw f_ke f_sta f_mo f_ky ap_tw_ke ap_tw_sta ap_tw_mo ap_tw_ky ap_ke_sta ap_ke_mo ap_ke_ky ap_sta_mo ap_sta_ky ap_mo_ky (by omega) (by omega) (by omega)) (ok_k X Y hA KS KR) m_o e_o rfl kl_Va_Ae_encrypt ks_Ae_encrypt kx_Ae_encrypt ki_Ae_encrypt ini_Ae ⟨rfl, rfl⟩ hd_Ae_encrypt ⟨by decide, by decide⟩ rfl (Nat.le_of_ble_eq_true rfl) d_Va_chain_6 ⟨(show 0 + 0 ≤ 0 by omega), (show 0 + (0) ≤ (0) by omega)⟩) X Y hA (fun u H locs hp Y => ?_)
  obtain ⟨L3, f2⟩ := u
  obtain ⟨eL5, hF4, g7, g8, g9, hg10, hg11, hg12, e13, e14, e15⟩ := hp
  dsimp only at eL5 hF4 e13 e14 e15 Y
  rw [eL5] at Y
  have e16 : f2 v = .inr (11, [.int now, .ref txo, .ref dro, .ref ho, .ref o, .ref se, .int ssz, .ref coo, .int cat, .int crw, .ref deo, .ref tu, .ref b]) := (hF4 v (q_tag e_v e_sta (show (11 : Nat) ≠ 1000 by decide)) (q_tag e_v e_mo (show (11 : Nat) ≠ 1000 by decide)) (q_tag e_v e_ky (show (11 : Nat) ≠ 1000 by decide))).trans e_v
  have e17 : f2 o = .inr (1, [.ref un, .ref tw, .ref ke, .int (nI rd), .ref sta, .ref mo, .ref kp]) := (hF4 o (q_tag e_o e_sta (show (1 : Nat) ≠ 1000 by decide)) (q_tag e_o e_mo (show (1 : Nat) ≠ 1000 by decide)) (q_tag e_o e_ky (show (1 : Nat) ≠ 1000 by decide))).trans e_o
  have e18 : f2 tw = .inl (E.2.1, 256, .inl g_tw) := (hF4 tw ap_tw_sta ap_tw_mo ap_tw_ky).trans e_tw
  have e19 : f2 ke = .inl (E.2.1, 240, .inl g_ke) := (hF4 ke ap_ke_sta ap_ke_mo ap_ke_ky).trans e_ke
  have hF20 : ∀ x, x ≠ sta → x ≠ mo → x ≠ ky → f2 x = f x := fun x h0 h1 h2 => (hF4 x h0 h1 h2).trans rfl
  refine lv_iload_n X.1 X.2.1 d_Va_chain_9 rfl (lv_at hl 2 rfl) ?_
  refine lv_bipush (v := (nI 32)) X.1 X.2.1 d_Va_chain_10 (by decide) ?_
  refine lv_icmp_ne (tgt := 42) X.1 X.2.1 d_Va_chain_12 (by decide) (fun c21 => absurd c21 ?_) (fun c21 => ?_)
  · (rw [nI_eq (by omega) (by omega)] <;> omega)
  rw [nI_eq (by omega) (by omega)] at c21
  refine lv_aload_n X.1 X.2.1 d_Va_chain_15 rfl (lv_at hl 1 rfl) ?_
  refine q_alen X.1 X.2.1 X.2.2.2.2 Y 0 m_ky e15 rfl (v := nI (32)) rfl d_Va_chain_16 ?_
  refine lv_bipush (v := (nI 32)) X.1 X.2.1 d_Va_chain_17 (by decide) ?_
  refine lv_icmp_lt (tgt := 42) X.1 X.2.1 d_Va_chain_19 (by decide) (fun c22 => absurd c22 ?_) (fun c22 => ?_)
  · (rw [nI_ltI (by omega) (by omega)] <;> omega)
  rw [nI_ltI (by omega) (by omega)] at c22
  refine lv_aload_n X.1 X.2.1 d_Va_chain_22 rfl (lv_at hl 1 rfl) ?_
  refine lv_iconst (v := (nI 0)) X.1 X.2.1 d_Va_chain_23 (by decide) ?_
  refine lv_aload_n X.1 X.2.1 d_Va_chain_24 rfl (lv_at hl 1 rfl) ?_
  refine lv_bipush (v := (nI 16)) X.1 X.2.1 d_Va_chain_25 (by decide) ?_
  refine lv_bipush (v := (nI 16)) X.1 X.2.1 d_Va_chain_27 (by decide) ?_
  refine q_copy X.1 X.2.1 (hml.trans hl.1.symm) X.2.2.2.1 (X.2.2.1 _ kl_Va_copy) (X.2.2.1 _ kn_copy) (X.2.2.1 _ ks_copy) (X.2.2.1 _ ini_Sys) X.2.2.2.2 Y 0 m_ky e15 m_ky e15 rfl rfl (show 0 + 16 ≤ 32 by omega) (show 16 + 16 ≤ 32 by omega) (by omega) (by omega) hg12 (Nat.le_of_ble_eq_true rfl) (Nat.le_of_ble_eq_true rfl) d_Va_chain_29 (fun H locs Y => ?_)
  have hg24 : fB (va_cpy g9 g9 (0) (16) (16)) := fB_cpy hg12 hg12
  generalize (va_cpy g9 g9 (0) (16) (16)) = g23 at Y hg24
  have e26 : (va_up f2 ky (.inl (E.1, 32, .inl g23))) ky = .inl (E.1, 32, .inl g23) := q_up
  have e27 : (va_up f2 ky (.inl (E.1, 32, .inl g23))) v = .inr (11, [.int now, .ref txo, .ref dro, .ref ho, .ref o, .ref se, .int ssz, .ref coo, .int cat, .int crw, .ref deo, .ref tu, .ref b]) := (q_ne (q_tag e16 e15 (show (11 : Nat) ≠ 1000 by decide))).trans e16
  have e28 : (va_up f2 ky (.inl (E.1, 32, .inl g23))) o = .inr (1, [.ref un, .ref tw, .ref ke, .int (nI rd), .ref sta, .ref mo, .ref kp]) := (q_ne (q_tag e17 e15 (show (1 : Nat) ≠ 1000 by decide))).trans e17
  have e29 : (va_up f2 ky (.inl (E.1, 32, .inl g23))) tw = .inl (E.2.1, 256, .inl g_tw) := (q_ne ap_tw_ky).trans e18
  have e30 : (va_up f2 ky (.inl (E.1, 32, .inl g23))) ke = .inl (E.2.1, 240, .inl g_ke) := (q_ne ap_ke_ky).trans e19
  have e31 : (va_up f2 ky (.inl (E.1, 32, .inl g23))) sta = .inl (E.2.1, 16, .inl g7) := (q_ne ap_sta_ky).trans e13
  have e32 : (va_up f2 ky (.inl (E.1, 32, .inl g23))) mo = .inl (E.2.1, 16, .inl g8) := (q_ne ap_mo_ky).trans e14
  have hF33 : ∀ x, x ≠ sta → x ≠ mo → x ≠ ky → (va_up f2 ky (.inl (E.1, 32, .inl g23))) x = f x := fun x h0 h1 h2 => (q_ne h2).trans (hF20 x h0 h1 h2)
  have Y : pH D cCl (pA L sz) s.heap L (va_up f2 ky (.inl (E.1, 32, .inl g23))) H locs := Y
  generalize (va_up f2 ky (.inl (E.1, 32, .inl g23))) = f25 at Y e26 e27 e28 e29 e30 e31 e32 hF33
  refine lv_aload_n X.1 X.2.1 d_Va_chain_32 rfl (lv_at hl 0 rfl) ?_
  refine q_get X.1 X.2.1 X.2.2.1 i_Va X.2.2.2.1 X.2.2.2.2 Y m_v e27 rfl 4 (by decide) (X.2.2.1 _ lk_Va_38) (fun _ h9 => h9) rfl d_Va_chain_33 ?_
  refine lv_aload_n X.1 X.2.1 d_Va_chain_36 rfl (lv_at hl 1 rfl) ?_
  refine lv_bipush (v := (nI 16)) X.1 X.2.1 d_Va_chain_37 (by decide) ?_
  refine x_v (x_runV (As := [.ref ky, .int (nI 16)]) (rest := []) (n := 2) X Y hml hl.1 (c_Ae_encrypt l D E T L f25 H.size (16) (32) o tw ke sta mo ky un kp (rd) g_tw g_ke g7 g8 g23 m_o m_tw m_ke m_sta m_mo m_ky e28 e29 e30 e31 e32 e26 f_tw f_ke hg10 hg11 hg24 ap_tw_ke ap_tw_sta ap_tw_mo ap_tw_ky ap_ke_sta ap_ke_mo ap_ke_ky ap_sta_mo ap_sta_ky ap_mo_ky (by omega) (by omega) (by omega)) (ok_k X Y hA KS KR) m_o e28 rfl kl_Va_Ae_encrypt ks_Ae_encrypt kx_Ae_encrypt ki_Ae_encrypt ini_Ae ⟨rfl, rfl⟩ hd_Ae_encrypt ⟨by decide, by decide⟩ rfl (Nat.le_of_ble_eq_true rfl) d_Va_chain_39 ⟨(show 0 + 0 ≤ 0 by omega), (show 0 + (0) ≤ (0) by omega)⟩) X Y hA (fun u H locs hp Y => ?_)
  obtain ⟨L36, f35⟩ := u
  obtain ⟨eL38, hF37, g40, g41, g42, hg43, hg44, hg45, e46, e47, e48⟩ := hp
  dsimp only at eL38 hF37 e46 e47 e48 Y
  rw [eL38] at Y
  have e49 : f35 v = .inr (11, [.int now, .ref txo, .ref dro, .ref ho, .ref o, .ref se, .int ssz, .ref coo, .int cat, .int crw, .ref deo, .ref tu, .ref b]) := (hF37 v (q_tag e27 e31 (show (11 : Nat) ≠ 1000 by decide)) (q_tag e27 e32 (show (11 : Nat) ≠ 1000 by decide)) (q_tag e27 e26 (show (11 : Nat) ≠ 1000 by decide))).trans e27
  have e50 : f35 o = .inr (1, [.ref un, .ref tw, .ref ke, .int (nI rd), .ref sta, .ref mo, .ref kp]) := (hF37 o (q_tag e28 e31 (show (1 : Nat) ≠ 1000 by decide)) (q_tag e28 e32 (show (1 : Nat) ≠ 1000 by decide)) (q_tag e28 e26 (show (1 : Nat) ≠ 1000 by decide))).trans e28
  have e51 : f35 tw = .inl (E.2.1, 256, .inl g_tw) := (hF37 tw ap_tw_sta ap_tw_mo ap_tw_ky).trans e29
  have e52 : f35 ke = .inl (E.2.1, 240, .inl g_ke) := (hF37 ke ap_ke_sta ap_ke_mo ap_ke_ky).trans e30
  have hF53 : ∀ x, x ≠ sta → x ≠ mo → x ≠ ky → f35 x = f x := fun x h0 h1 h2 => (hF37 x h0 h1 h2).trans (hF33 x h0 h1 h2)
  exact c_retv hQQ X Y hr hlk ⟨rfl, hF53, g40, g41, g42, hg43, hg44, hg45, e46, e47, e48⟩ d_Va_chain_42
set_option maxHeartbeats 4000000 in
set_option maxRecDepth 100000 in
theorem c_Va_passwordKey18 (l : Launch) (D : va_G) (E : cE) (T : cT) (L : List Nat) (f : pF) (sz : Nat) (st0 : Nat) (a5 : Int32) (N M M3 v ho wd bl hst inn out mac o tw ke sta mo tu b r b2 r2 b3 r3 txo dro se coo deo un kp fl rd n n3 n5 : Nat) (now ssz cat crw tot : Int32) (g_wd g_bl g_hst g_inn g_out g_mac g_tw g_ke g_sta g_mo g_tu g_r g_r2 g_r3 : Nat → Int32) (m_v : v ∈ L) (m_ho : ho ∈ L) (m_wd : wd ∈ L) (m_bl : bl ∈ L) (m_hst : hst ∈ L) (m_inn : inn ∈ L) (m_out : out ∈ L) (m_mac : mac ∈ L) (m_o : o ∈ L) (m_tw : tw ∈ L) (m_ke : ke ∈ L) (m_sta : sta ∈ L) (m_mo : mo ∈ L) (m_tu : tu ∈ L) (m_b : b ∈ L) (m_r : r ∈ L) (m_b2 : b2 ∈ L) (m_r2 : r2 ∈ L) (m_b3 : b3 ∈ L) (m_r3 : r3 ∈ L) (e_v : f v = .inr (11, [.int now, .ref txo, .ref dro, .ref ho, .ref o, .ref se, .int ssz, .ref coo, .int cat, .int crw, .ref deo, .ref tu, .ref b])) (e_ho : f ho = .inr (6, [.ref wd, .ref bl, .ref hst, .ref inn, .ref out, .int (nI fl), .int tot, .ref mac])) (e_wd : f wd = .inl (E.2.1, 80, .inl g_wd)) (e_bl : f bl = .inl (E.1, 64, .inl g_bl)) (e_hst : f hst = .inl (E.2.1, 5, .inl g_hst)) (e_inn : f inn = .inl (E.2.1, 5, .inl g_inn)) (e_out : f out = .inl (E.2.1, 5, .inl g_out)) (e_mac : f mac = .inl (E.1, 20, .inl g_mac)) (e_o : f o = .inr (1, [.ref un, .ref tw, .ref ke, .int (nI rd), .ref sta, .ref mo, .ref kp])) (e_tw : f tw = .inl (E.2.1, 256, .inl g_tw)) (e_ke : f ke = .inl (E.2.1, 240, .inl g_ke)) (e_sta : f sta = .inl (E.2.1, 16, .inl g_sta)) (e_mo : f mo = .inl (E.2.1, 16, .inl g_mo)) (e_tu : f tu = .inl (E.1, 20, .inl g_tu)) (e_b : f b = .inr (3, [.ref r, .int (nI n)])) (e_r : f r = .inl (E.1, N, .inl g_r)) (e_b2 : f b2 = .inr (3, [.ref r2, .int (nI n3)])) (e_r2 : f r2 = .inl (E.1, M, .inl g_r2)) (e_b3 : f b3 = .inr (3, [.ref r3, .int (nI n5)])) (e_r3 : f r3 = .inl (E.1, M3, .inl g_r3)) (f_bl : fB g_bl) (f_mac : fB g_mac) (f_tw : by8 g_tw) (f_ke : by8 g_ke) (f_sta : by8 g_sta) (f_mo : by8 g_mo) (f_tu : fB g_tu) (f_r : fB g_r) (f_r2 : fB g_r2) (f_r3 : fB g_r3) (ap_wd_bl : wd ≠ bl) (ap_wd_hst : wd ≠ hst) (ap_wd_inn : wd ≠ inn) (ap_wd_out : wd ≠ out) (ap_wd_mac : wd ≠ mac) (ap_wd_tw : wd ≠ tw) (ap_wd_ke : wd ≠ ke) (ap_wd_sta : wd ≠ sta) (ap_wd_mo : wd ≠ mo) (ap_wd_tu : wd ≠ tu) (ap_wd_r : wd ≠ r) (ap_wd_r2 : wd ≠ r2) (ap_wd_r3 : wd ≠ r3) (ap_bl_hst : bl ≠ hst) (ap_bl_inn : bl ≠ inn) (ap_bl_out : bl ≠ out) (ap_bl_mac : bl ≠ mac) (ap_bl_tw : bl ≠ tw) (ap_bl_ke : bl ≠ ke) (ap_bl_sta : bl ≠ sta) (ap_bl_mo : bl ≠ mo) (ap_bl_tu : bl ≠ tu) (ap_bl_r : bl ≠ r) (ap_bl_r2 : bl ≠ r2) (ap_bl_r3 : bl ≠ r3) (ap_hst_inn : hst ≠ inn) (ap_hst_out : hst ≠ out) (ap_hst_mac : hst ≠ mac) (ap_hst_tw : hst ≠ tw) (ap_hst_ke : hst ≠ ke) (ap_hst_sta : hst ≠ sta) (ap_hst_mo : hst ≠ mo) (ap_hst_tu : hst ≠ tu) (ap_hst_r : hst ≠ r) (ap_hst_r2 : hst ≠ r2) (ap_hst_r3 : hst ≠ r3) (ap_inn_out : inn ≠ out) (ap_inn_mac : inn ≠ mac) (ap_inn_tw : inn ≠ tw) (ap_inn_ke : inn ≠ ke) (ap_inn_sta : inn ≠ sta) (ap_inn_mo : inn ≠ mo) (ap_inn_tu : inn ≠ tu) (ap_inn_r : inn ≠ r) (ap_inn_r2 : inn ≠ r2) (ap_inn_r3 : inn ≠ r3) (ap_out_mac : out ≠ mac) (ap_out_tw : out ≠ tw) (ap_out_ke : out ≠ ke) (ap_out_sta : out ≠ sta) (ap_out_mo : out ≠ mo) (ap_out_tu : out ≠ tu) (ap_out_r : out ≠ r) (ap_out_r2 : out ≠ r2) (ap_out_r3 : out ≠ r3) (ap_mac_tw : mac ≠ tw) (ap_mac_ke : mac ≠ ke) (ap_mac_sta : mac ≠ sta) (ap_mac_mo : mac ≠ mo) (ap_mac_tu : mac ≠ tu) (ap_mac_r : mac ≠ r) (ap_mac_r2 : mac ≠ r2) (ap_mac_r3 : mac ≠ r3) (ap_tw_ke : tw ≠ ke) (ap_tw_sta : tw ≠ sta) (ap_tw_mo : tw ≠ mo) (ap_tw_tu : tw ≠ tu) (ap_tw_r : tw ≠ r) (ap_tw_r2 : tw ≠ r2) (ap_tw_r3 : tw ≠ r3) (ap_ke_sta : ke ≠ sta) (ap_ke_mo : ke ≠ mo) (ap_ke_tu : ke ≠ tu) (ap_ke_r : ke ≠ r) (ap_ke_r2 : ke ≠ r2) (ap_ke_r3 : ke ≠ r3) (ap_sta_mo : sta ≠ mo) (ap_sta_tu : sta ≠ tu) (ap_sta_r : sta ≠ r) (ap_sta_r2 : sta ≠ r2) (ap_sta_r3 : sta ≠ r3) (ap_mo_tu : mo ≠ tu) (ap_mo_r : mo ≠ r) (ap_mo_r2 : mo ≠ r2) (ap_mo_r3 : mo ≠ r3) (ap_tu_r : tu ≠ r) (ap_tu_r2 : tu ≠ r2) (ap_tu_r3 : tu ≠ r3) (ap_b_b2 : b ≠ b2) (ap_b_b3 : b ≠ b3) (ap_r_r2 : r ≠ r2) (ap_r_r3 : r ≠ r3) (ap_b2_b3 : b2 ≠ b3) (ap_r2_r3 : r2 ≠ r3) (hh0 : n ≤ N) (hh1 : N < 100000) (hh2 : n3 ≤ M) (hh3 : M < 100000) (hh4 : n5 ≤ M3) (hh5 : M3 < 100000) (hh6 : st0 ≤ n5) (hh7 : fl < 64) (hh8 : rd ≤ 14) : Met l y_Va_passwordKey (k_Va_passwordKey :: lw_tg) (kRm 6 137 1 (32)) (va_Pc [.ref v, .int (nI 18), .ref b2, .ref b3, .int (nI st0), .int a5] (kPre D E T L f sz)) (va_Qr (fun _ : cU => True) (fun u ky t => (fun (ky : Nat) (u : cU) => (∀ x, x ∈ L → x ∈ u.1) ∧ (∀ x, x ∈ L → x ≠ ho → x ≠ wd → x ≠ bl → x ≠ hst → x ≠ mac → x ≠ inn → x ≠ out → x ≠ o → x ≠ ke → x ≠ sta → x ≠ mo → x ≠ tu → x ≠ b → x ≠ r → u.2 x = f x) ∧ ∃ (fl2 rd2 n2 : Nat) (tot2 : Int32) (k_wd k_bl k_hst k_mac k_inn k_out k_ke k_sta k_mo k_tu k_r k_ky : Nat → Int32), ky ∈ u.1 ∧ ky ∉ L ∧ fB k_bl ∧ fB k_mac ∧ by8 k_ke ∧ by8 k_sta ∧ by8 k_mo ∧ fB k_tu ∧ fB k_r ∧ fB k_ky ∧ (fl2 < 64) ∧ (rd2 ≤ 14) ∧ (n2 ≤ N) ∧ u.2 ho = .inr (6, [.ref wd, .ref bl, .ref hst, .ref inn, .ref out, .int (nI fl2), .int tot2, .ref mac]) ∧ u.2 wd = .inl (E.2.1, 80, .inl k_wd) ∧ u.2 bl = .inl (E.1, 64, .inl k_bl) ∧ u.2 hst = .inl (E.2.1, 5, .inl k_hst) ∧ u.2 mac = .inl (E.1, 20, .inl k_mac) ∧ u.2 inn = .inl (E.2.1, 5, .inl k_inn) ∧ u.2 out = .inl (E.2.1, 5, .inl k_out) ∧ u.2 o = .inr (1, [.ref un, .ref tw, .ref ke, .int (nI rd2), .ref sta, .ref mo, .ref kp]) ∧ u.2 ke = .inl (E.2.1, 240, .inl k_ke) ∧ u.2 sta = .inl (E.2.1, 16, .inl k_sta) ∧ u.2 mo = .inl (E.2.1, 16, .inl k_mo) ∧ u.2 tu = .inl (E.1, 20, .inl k_tu) ∧ u.2 b = .inr (3, [.ref r, .int (nI n2)]) ∧ u.2 r = .inl (E.1, N, .inl k_r) ∧ u.2 ky = .inl (E.1, 32, .inl k_ky)) ky u ∧ cPost D E (pA L sz) u t) (pA L sz)) 1 (32) (pA L sz) := by
  refine k_enter (own := R_Va) (by decide) rfl (Nat.le_of_ble_eq_true rfl) (fun p e s m below meth c ls AV QQ H locs hQQ X Y hA hin hr hlk hml hl KS KR => ?_)
  have hl : lv_has ls 9 [(0, .ref v), (1, .int (nI 18)), (2, .ref b2), (3, .ref b3), (4, .int (nI st0)), (5, .int a5)] := hl
  refine lv_iload_n X.1 X.2.1 d_Va_passwordKey_0 rfl (lv_at hl 1 rfl) ?_
  refine lv_bipush (v := (nI 18)) X.1 X.2.1 d_Va_passwordKey_1 (by decide) ?_
  refine lv_icmp_ne (tgt := 11) X.1 X.2.1 d_Va_passwordKey_3 (by decide) (fun c1 => absurd c1 ?_) (fun c1 => ?_)
  · (rw [nI_eq (by omega) (by omega)] <;> omega)
  rw [nI_eq (by omega) (by omega)] at c1
  refine lv_bipush (v := (nI 32)) X.1 X.2.1 d_Va_passwordKey_6 (by decide) ?_
  refine lv_goto (tgt := 13) X.1 X.2.1 d_Va_passwordKey_8 (by decide) ?_
  refine q_newa X.1 X.2.1 (atype := .byte) (ty := .byte) rfl ra_byte (X.2.2.1 _ ar_byte) X.2.2.2.2 0 (cE := E.1) rfl Y hA (N := (32)) (a0 := (32, .inl (fun _ => 0))) (fun cA => vz_byte cA (32)) (nI_pos (by omega)) (nI_clamp (by omega)) (by decide) (show 0 + 1 ≤ 1 by omega) (show 0 + (32) ≤ (32) by omega) d_Va_passwordKey_13 (fun q2 H hqq2 Y => ?_)
  have Y : pH D cCl (pA L sz) s.heap (L ++ [q2]) (va_up f q2 (.inl (E.1, 32, .inl (fun _ => 0)))) H locs := Y
  have e9 : (va_up f q2 (.inl (E.1, 32, .inl (fun _ => 0)))) q2 = .inl (E.1, 32, .inl (fun _ => 0)) := q_up
  have e10 : (va_up f q2 (.inl (E.1, 32, .inl (fun _ => 0)))) v = .inr (11, [.int now, .ref txo, .ref dro, .ref ho, .ref o, .ref se, .int ssz, .ref coo, .int cat, .int crw, .ref deo, .ref tu, .ref b]) := (q_ne (ne_mem hqq2 m_v)).trans e_v
  have e11 : (va_up f q2 (.inl (E.1, 32, .inl (fun _ => 0)))) ho = .inr (6, [.ref wd, .ref bl, .ref hst, .ref inn, .ref out, .int (nI fl), .int tot, .ref mac]) := (q_ne (ne_mem hqq2 m_ho)).trans e_ho
  have e12 : (va_up f q2 (.inl (E.1, 32, .inl (fun _ => 0)))) wd = .inl (E.2.1, 80, .inl g_wd) := (q_ne (ne_mem hqq2 m_wd)).trans e_wd
  have e13 : (va_up f q2 (.inl (E.1, 32, .inl (fun _ => 0)))) bl = .inl (E.1, 64, .inl g_bl) := (q_ne (ne_mem hqq2 m_bl)).trans e_bl
  have e14 : (va_up f q2 (.inl (E.1, 32, .inl (fun _ => 0)))) hst = .inl (E.2.1, 5, .inl g_hst) := (q_ne (ne_mem hqq2 m_hst)).trans e_hst
  have e15 : (va_up f q2 (.inl (E.1, 32, .inl (fun _ => 0)))) inn = .inl (E.2.1, 5, .inl g_inn) := (q_ne (ne_mem hqq2 m_inn)).trans e_inn
  have e16 : (va_up f q2 (.inl (E.1, 32, .inl (fun _ => 0)))) out = .inl (E.2.1, 5, .inl g_out) := (q_ne (ne_mem hqq2 m_out)).trans e_out
  have e17 : (va_up f q2 (.inl (E.1, 32, .inl (fun _ => 0)))) mac = .inl (E.1, 20, .inl g_mac) := (q_ne (ne_mem hqq2 m_mac)).trans e_mac
  have e18 : (va_up f q2 (.inl (E.1, 32, .inl (fun _ => 0)))) o = .inr (1, [.ref un, .ref tw, .ref ke, .int (nI rd), .ref sta, .ref mo, .ref kp]) := (q_ne (ne_mem hqq2 m_o)).trans e_o
  have e19 : (va_up f q2 (.inl (E.1, 32, .inl (fun _ => 0)))) tw = .inl (E.2.1, 256, .inl g_tw) := (q_ne (ne_mem hqq2 m_tw)).trans e_tw
  have e20 : (va_up f q2 (.inl (E.1, 32, .inl (fun _ => 0)))) ke = .inl (E.2.1, 240, .inl g_ke) := (q_ne (ne_mem hqq2 m_ke)).trans e_ke
  have e21 : (va_up f q2 (.inl (E.1, 32, .inl (fun _ => 0)))) sta = .inl (E.2.1, 16, .inl g_sta) := (q_ne (ne_mem hqq2 m_sta)).trans e_sta
  have e22 : (va_up f q2 (.inl (E.1, 32, .inl (fun _ => 0)))) mo = .inl (E.2.1, 16, .inl g_mo) := (q_ne (ne_mem hqq2 m_mo)).trans e_mo
  have e23 : (va_up f q2 (.inl (E.1, 32, .inl (fun _ => 0)))) tu = .inl (E.1, 20, .inl g_tu) := (q_ne (ne_mem hqq2 m_tu)).trans e_tu
  have e24 : (va_up f q2 (.inl (E.1, 32, .inl (fun _ => 0)))) b = .inr (3, [.ref r, .int (nI n)]) := (q_ne (ne_mem hqq2 m_b)).trans e_b
  have e25 : (va_up f q2 (.inl (E.1, 32, .inl (fun _ => 0)))) r = .inl (E.1, N, .inl g_r) := (q_ne (ne_mem hqq2 m_r)).trans e_r
  have e26 : (va_up f q2 (.inl (E.1, 32, .inl (fun _ => 0)))) b2 = .inr (3, [.ref r2, .int (nI n3)]) := (q_ne (ne_mem hqq2 m_b2)).trans e_b2
  have e27 : (va_up f q2 (.inl (E.1, 32, .inl (fun _ => 0)))) r2 = .inl (E.1, M, .inl g_r2) := (q_ne (ne_mem hqq2 m_r2)).trans e_r2
  have e28 : (va_up f q2 (.inl (E.1, 32, .inl (fun _ => 0)))) b3 = .inr (3, [.ref r3, .int (nI n5)]) := (q_ne (ne_mem hqq2 m_b3)).trans e_b3
  have e29 : (va_up f q2 (.inl (E.1, 32, .inl (fun _ => 0)))) r3 = .inl (E.1, M3, .inl g_r3) := (q_ne (ne_mem hqq2 m_r3)).trans e_r3
  have nl7 : q2 ∉ L := fun h9 => hqq2 h9
  have hF30 : ∀ x, x ∈ L → x ≠ ho → x ≠ wd → x ≠ bl → x ≠ hst → x ≠ mac → x ≠ inn → x ≠ out → x ≠ o → x ≠ ke → x ≠ sta → x ≠ mo → x ≠ tu → x ≠ b → x ≠ r → (va_up f q2 (.inl (E.1, 32, .inl (fun _ => 0)))) x = f x := fun x hx h0 h1 h2 h3 h4 h5 h6 h7 h8 h9 h10 h11 h12 h13 => (q_ne (ne_mem nl7 hx)).trans rfl
  generalize (va_up f q2 (.inl (E.1, 32, .inl (fun _ => 0)))) = f8 at Y e9 e10 e11 e12 e13 e14 e15 e16 e17 e18 e19 e20 e21 e22 e23 e24 e25 e26 e27 e28 e29 hF30
  have s5 : ∀ x, x ∈ L → x ∈ L ++ [q2] := fun x hx => List.mem_append_left _ hx
  have m31 : v ∈ L ++ [q2] := List.mem_append_left _ m_v
  have m32 : ho ∈ L ++ [q2] := List.mem_append_left _ m_ho
  have m33 : wd ∈ L ++ [q2] := List.mem_append_left _ m_wd
  have m34 : bl ∈ L ++ [q2] := List.mem_append_left _ m_bl
  have m35 : hst ∈ L ++ [q2] := List.mem_append_left _ m_hst
  have m36 : inn ∈ L ++ [q2] := List.mem_append_left _ m_inn
  have m37 : out ∈ L ++ [q2] := List.mem_append_left _ m_out
  have m38 : mac ∈ L ++ [q2] := List.mem_append_left _ m_mac
  have m39 : o ∈ L ++ [q2] := List.mem_append_left _ m_o
  have m40 : tw ∈ L ++ [q2] := List.mem_append_left _ m_tw
  have m41 : ke ∈ L ++ [q2] := List.mem_append_left _ m_ke
  have m42 : sta ∈ L ++ [q2] := List.mem_append_left _ m_sta
  have m43 : mo ∈ L ++ [q2] := List.mem_append_left _ m_mo
  have m44 : tu ∈ L ++ [q2] := List.mem_append_left _ m_tu
  have m45 : b ∈ L ++ [q2] := List.mem_append_left _ m_b
  have m46 : r ∈ L ++ [q2] := List.mem_append_left _ m_r
  have m47 : b2 ∈ L ++ [q2] := List.mem_append_left _ m_b2
  have m48 : r2 ∈ L ++ [q2] := List.mem_append_left _ m_r2
  have m49 : b3 ∈ L ++ [q2] := List.mem_append_left _ m_b3
  have m50 : r3 ∈ L ++ [q2] := List.mem_append_left _ m_r3
  have m6 : q2 ∈ L ++ [q2] := List.mem_append_right _ (List.mem_singleton.mpr rfl)
  generalize L ++ [q2] = L3 at Y s5 m31 m32 m33 m34 m35 m36 m37 m38 m39 m40 m41 m42 m43 m44 m45 m46 m47 m48 m49 m50 m6
  refine lv_astore (lv' := [(6, .ref q2), (0, .ref v), (1, .int (nI 18)), (2, .ref b2), (3, .ref b3), (4, .int (nI st0)), (5, .int a5)]) X.1 X.2.1 d_Va_passwordKey_15 hl (by decide) rfl (fun ls hl => ?_)
  refine lv_aload_n X.1 X.2.1 d_Va_passwordKey_17 rfl (lv_at hl 1 rfl) ?_
  refine q_get X.1 X.2.1 X.2.2.1 i_Va X.2.2.2.1 X.2.2.2.2 Y m31 e10 rfl 12 (by decide) (X.2.2.1 _ lk_Va_58) (fun _ h9 => h9) rfl d_Va_passwordKey_18 ?_
  refine x_v (x_runV (As := []) (rest := []) (n := 0) X Y hml hl.1 (c_By_clear l D E L3 f8 H.size  b r (N) (n) g_r m45 e24 m46 e25 (by omega) (by omega) f_r) (ok_c X Y) m45 e24 rfl kl_Va_By_clear ks_By_clear kx_By_clear ki_By_clear ini_By ⟨rfl, rfl⟩ hd_By_clear ⟨by decide, by decide⟩ rfl (Nat.le_of_ble_eq_true rfl) d_Va_passwordKey_21 ⟨(show 1 + 0 ≤ 1 by omega), (show 32 + (0) ≤ (32) by omega)⟩) X Y hA (fun u H locs hp Y => ?_)
  obtain ⟨L52, f51⟩ := u
  obtain ⟨eL62, hF53, n54, g55, h57, h58, h59, e60, e61⟩ := hp
  dsimp only at eL62 hF53 e60 e61 Y
  rw [eL62] at Y
  have e64 : f51 v = .inr (11, [.int now, .ref txo, .ref dro, .ref ho, .ref o, .ref se, .int ssz, .ref coo, .int cat, .int crw, .ref deo, .ref tu, .ref b]) := (hF53 v (q_tag e10 e24 (show (11 : Nat) ≠ 3 by decide)) (q_tag e10 e25 (show (11 : Nat) ≠ 1000 by decide))).trans e10
  have e65 : f51 ho = .inr (6, [.ref wd, .ref bl, .ref hst, .ref inn, .ref out, .int (nI fl), .int tot, .ref mac]) := (hF53 ho (q_tag e11 e24 (show (6 : Nat) ≠ 3 by decide)) (q_tag e11 e25 (show (6 : Nat) ≠ 1000 by decide))).trans e11
  have e66 : f51 wd = .inl (E.2.1, 80, .inl g_wd) := (hF53 wd (q_tag e12 e24 (show (1000 : Nat) ≠ 3 by decide)) ap_wd_r).trans e12
  have e67 : f51 bl = .inl (E.1, 64, .inl g_bl) := (hF53 bl (q_tag e13 e24 (show (1000 : Nat) ≠ 3 by decide)) ap_bl_r).trans e13
  have e68 : f51 hst = .inl (E.2.1, 5, .inl g_hst) := (hF53 hst (q_tag e14 e24 (show (1000 : Nat) ≠ 3 by decide)) ap_hst_r).trans e14
  have e69 : f51 inn = .inl (E.2.1, 5, .inl g_inn) := (hF53 inn (q_tag e15 e24 (show (1000 : Nat) ≠ 3 by decide)) ap_inn_r).trans e15
  have e70 : f51 out = .inl (E.2.1, 5, .inl g_out) := (hF53 out (q_tag e16 e24 (show (1000 : Nat) ≠ 3 by decide)) ap_out_r).trans e16
  have e71 : f51 mac = .inl (E.1, 20, .inl g_mac) := (hF53 mac (q_tag e17 e24 (show (1000 : Nat) ≠ 3 by decide)) ap_mac_r).trans e17
  have e72 : f51 o = .inr (1, [.ref un, .ref tw, .ref ke, .int (nI rd), .ref sta, .ref mo, .ref kp]) := (hF53 o (q_tag e18 e24 (show (1 : Nat) ≠ 3 by decide)) (q_tag e18 e25 (show (1 : Nat) ≠ 1000 by decide))).trans e18
  have e73 : f51 tw = .inl (E.2.1, 256, .inl g_tw) := (hF53 tw (q_tag e19 e24 (show (1000 : Nat) ≠ 3 by decide)) ap_tw_r).trans e19
  have e74 : f51 ke = .inl (E.2.1, 240, .inl g_ke) := (hF53 ke (q_tag e20 e24 (show (1000 : Nat) ≠ 3 by decide)) ap_ke_r).trans e20
  have e75 : f51 sta = .inl (E.2.1, 16, .inl g_sta) := (hF53 sta (q_tag e21 e24 (show (1000 : Nat) ≠ 3 by decide)) ap_sta_r).trans e21
  have e76 : f51 mo = .inl (E.2.1, 16, .inl g_mo) := (hF53 mo (q_tag e22 e24 (show (1000 : Nat) ≠ 3 by decide)) ap_mo_r).trans e22
  have e77 : f51 tu = .inl (E.1, 20, .inl g_tu) := (hF53 tu (q_tag e23 e24 (show (1000 : Nat) ≠ 3 by decide)) ap_tu_r).trans e23
  have e78 : f51 b2 = .inr (3, [.ref r2, .int (nI n3)]) := (hF53 b2 ap_b_b2.symm (q_tag e26 e25 (show (3 : Nat) ≠ 1000 by decide))).trans e26
  have e79 : f51 r2 = .inl (E.1, M, .inl g_r2) := (hF53 r2 (q_tag e27 e24 (show (1000 : Nat) ≠ 3 by decide)) ap_r_r2.symm).trans e27
  have e80 : f51 b3 = .inr (3, [.ref r3, .int (nI n5)]) := (hF53 b3 ap_b_b3.symm (q_tag e28 e25 (show (3 : Nat) ≠ 1000 by decide))).trans e28
  have e81 : f51 r3 = .inl (E.1, M3, .inl g_r3) := (hF53 r3 (q_tag e29 e24 (show (1000 : Nat) ≠ 3 by decide)) ap_r_r3.symm).trans e29
  have e82 : f51 q2 = .inl (E.1, 32, .inl (fun _ => 0)) := (hF53 q2 (q_tag e9 e24 (show (1000 : Nat) ≠ 3 by decide)) (ne_mem hqq2 m_r).symm).trans e9
  have hF83 : ∀ x, x ∈ L → x ≠ ho → x ≠ wd → x ≠ bl → x ≠ hst → x ≠ mac → x ≠ inn → x ≠ out → x ≠ o → x ≠ ke → x ≠ sta → x ≠ mo → x ≠ tu → x ≠ b → x ≠ r → f51 x = f x := fun x hx h0 h1 h2 h3 h4 h5 h6 h7 h8 h9 h10 h11 h12 h13 => (hF53 x h12 h13).trans (hF30 x hx h0 h1 h2 h3 h4 h5 h6 h7 h8 h9 h10 h11 h12 h13)
  refine lv_aload_n X.1 X.2.1 d_Va_passwordKey_24 rfl (lv_at hl 1 rfl) ?_
  refine q_get X.1 X.2.1 X.2.2.1 i_Va X.2.2.2.1 X.2.2.2.2 Y m31 e64 rfl 12 (by decide) (X.2.2.1 _ lk_Va_58) (fun _ h9 => h9) rfl d_Va_passwordKey_25 ?_
  refine lv_aload_n X.1 X.2.1 d_Va_passwordKey_28 rfl (lv_at hl 3 rfl) ?_
  refine x_v (x_runS (As := [.ref b, .ref b2]) (rest := []) (n := 2) X hml hl.1 (c_Va_putSalt l D E T L3 f51 H.size (N) (M) b r b2 r2 (n54) (n3) g55 g_r2 m45 m46 m47 m48 e60 e61 e78 e79 h58 f_r2 ap_b_b2 ap_r_r2 (by omega) (by omega) (by omega) (by omega)) (ok_k X Y hA KS KR) kl_Va_Va_putSalt ks_Va_putSalt ki_Va_putSalt ini_Va ⟨rfl, rfl⟩ hd_Va_putSalt.2 ⟨by decide, by decide⟩ rfl (Nat.le_of_ble_eq_true rfl) d_Va_passwordKey_29 ⟨(show 1 + 0 ≤ 1 by omega), (show 32 + (0) ≤ (32) by omega)⟩) X Y hA (fun u H locs hp Y => ?_)
  obtain ⟨L86, f85⟩ := u
  obtain ⟨eL88, hF87, n90, g91, hg92, h93, h94, e95, e96⟩ := hp
  dsimp only at eL88 hF87 e95 e96 Y
  rw [eL88] at Y
  have e97 : f85 v = .inr (11, [.int now, .ref txo, .ref dro, .ref ho, .ref o, .ref se, .int ssz, .ref coo, .int cat, .int crw, .ref deo, .ref tu, .ref b]) := (hF87 v (q_tag e64 e60 (show (11 : Nat) ≠ 3 by decide)) (q_tag e64 e61 (show (11 : Nat) ≠ 1000 by decide))).trans e64
  have e98 : f85 ho = .inr (6, [.ref wd, .ref bl, .ref hst, .ref inn, .ref out, .int (nI fl), .int tot, .ref mac]) := (hF87 ho (q_tag e65 e60 (show (6 : Nat) ≠ 3 by decide)) (q_tag e65 e61 (show (6 : Nat) ≠ 1000 by decide))).trans e65
  have e99 : f85 wd = .inl (E.2.1, 80, .inl g_wd) := (hF87 wd (q_tag e66 e60 (show (1000 : Nat) ≠ 3 by decide)) ap_wd_r).trans e66
  have e100 : f85 bl = .inl (E.1, 64, .inl g_bl) := (hF87 bl (q_tag e67 e60 (show (1000 : Nat) ≠ 3 by decide)) ap_bl_r).trans e67
  have e101 : f85 hst = .inl (E.2.1, 5, .inl g_hst) := (hF87 hst (q_tag e68 e60 (show (1000 : Nat) ≠ 3 by decide)) ap_hst_r).trans e68
  have e102 : f85 inn = .inl (E.2.1, 5, .inl g_inn) := (hF87 inn (q_tag e69 e60 (show (1000 : Nat) ≠ 3 by decide)) ap_inn_r).trans e69
  have e103 : f85 out = .inl (E.2.1, 5, .inl g_out) := (hF87 out (q_tag e70 e60 (show (1000 : Nat) ≠ 3 by decide)) ap_out_r).trans e70
  have e104 : f85 mac = .inl (E.1, 20, .inl g_mac) := (hF87 mac (q_tag e71 e60 (show (1000 : Nat) ≠ 3 by decide)) ap_mac_r).trans e71
  have e105 : f85 o = .inr (1, [.ref un, .ref tw, .ref ke, .int (nI rd), .ref sta, .ref mo, .ref kp]) := (hF87 o (q_tag e72 e60 (show (1 : Nat) ≠ 3 by decide)) (q_tag e72 e61 (show (1 : Nat) ≠ 1000 by decide))).trans e72
  have e106 : f85 tw = .inl (E.2.1, 256, .inl g_tw) := (hF87 tw (q_tag e73 e60 (show (1000 : Nat) ≠ 3 by decide)) ap_tw_r).trans e73
  have e107 : f85 ke = .inl (E.2.1, 240, .inl g_ke) := (hF87 ke (q_tag e74 e60 (show (1000 : Nat) ≠ 3 by decide)) ap_ke_r).trans e74
  have e108 : f85 sta = .inl (E.2.1, 16, .inl g_sta) := (hF87 sta (q_tag e75 e60 (show (1000 : Nat) ≠ 3 by decide)) ap_sta_r).trans e75
  have e109 : f85 mo = .inl (E.2.1, 16, .inl g_mo) := (hF87 mo (q_tag e76 e60 (show (1000 : Nat) ≠ 3 by decide)) ap_mo_r).trans e76
  have e110 : f85 tu = .inl (E.1, 20, .inl g_tu) := (hF87 tu (q_tag e77 e60 (show (1000 : Nat) ≠ 3 by decide)) ap_tu_r).trans e77
  have e111 : f85 b2 = .inr (3, [.ref r2, .int (nI n3)]) := (hF87 b2 ap_b_b2.symm (q_tag e78 e61 (show (3 : Nat) ≠ 1000 by decide))).trans e78
  have e112 : f85 r2 = .inl (E.1, M, .inl g_r2) := (hF87 r2 (q_tag e79 e60 (show (1000 : Nat) ≠ 3 by decide)) ap_r_r2.symm).trans e79
  have e113 : f85 b3 = .inr (3, [.ref r3, .int (nI n5)]) := (hF87 b3 ap_b_b3.symm (q_tag e80 e61 (show (3 : Nat) ≠ 1000 by decide))).trans e80
  have e114 : f85 r3 = .inl (E.1, M3, .inl g_r3) := (hF87 r3 (q_tag e81 e60 (show (1000 : Nat) ≠ 3 by decide)) ap_r_r3.symm).trans e81
  have e115 : f85 q2 = .inl (E.1, 32, .inl (fun _ => 0)) := (hF87 q2 (q_tag e82 e60 (show (1000 : Nat) ≠ 3 by decide)) (ne_mem hqq2 m_r).symm).trans e82
  have hF116 : ∀ x, x ∈ L → x ≠ ho → x ≠ wd → x ≠ bl → x ≠ hst → x ≠ mac → x ≠ inn → x ≠ out → x ≠ o → x ≠ ke → x ≠ sta → x ≠ mo → x ≠ tu → x ≠ b → x ≠ r → f85 x = f x := fun x hx h0 h1 h2 h3 h4 h5 h6 h7 h8 h9 h10 h11 h12 h13 => (hF87 x h12 h13).trans (hF83 x hx h0 h1 h2 h3 h4 h5 h6 h7 h8 h9 h10 h11 h12 h13)
  refine lv_aload_n X.1 X.2.1 d_Va_passwordKey_32 rfl (lv_at hl 1 rfl) ?_
  refine q_get X.1 X.2.1 X.2.2.1 i_Va X.2.2.2.1 X.2.2.2.2 Y m31 e97 rfl 12 (by decide) (X.2.2.1 _ lk_Va_58) (fun _ h9 => h9) rfl d_Va_passwordKey_33 ?_
  refine q_get X.1 X.2.1 X.2.2.1 i_By X.2.2.2.1 X.2.2.2.2 Y m45 e95 rfl 1 (by decide) (X.2.2.1 _ lk_Va_77) (fun _ h9 => h9) rfl d_Va_passwordKey_36 ?_
  refine lv_istore (lv' := [(7, .int (nI n90)), (6, .ref q2), (0, .ref v), (1, .int (nI 18)), (2, .ref b2), (3, .ref b3), (4, .int (nI st0)), (5, .int a5)]) X.1 X.2.1 d_Va_passwordKey_39 hl (by decide) rfl (fun ls hl => ?_)
  refine lv_aload_n X.1 X.2.1 d_Va_passwordKey_41 rfl (lv_at hl 2 rfl) ?_
  refine q_get X.1 X.2.1 X.2.2.1 i_Va X.2.2.2.1 X.2.2.2.2 Y m31 e97 rfl 3 (by decide) (X.2.2.1 _ lk_Va_31) (fun _ h9 => h9) rfl d_Va_passwordKey_42 ?_
  refine lv_aload_n X.1 X.2.1 d_Va_passwordKey_45 rfl (lv_at hl 5 rfl) ?_
  refine q_get X.1 X.2.1 X.2.2.1 i_By X.2.2.2.1 X.2.2.2.2 Y m49 e113 rfl 0 (by decide) (X.2.2.1 _ lk_Va_86) (fun _ h9 => h9) rfl d_Va_passwordKey_46 ?_
  refine lv_iload X.1 X.2.1 d_Va_passwordKey_49 (lv_at hl 6 rfl) ?_
  refine lv_aload_n X.1 X.2.1 d_Va_passwordKey_51 rfl (lv_at hl 5 rfl) ?_
  refine q_get X.1 X.2.1 X.2.2.1 i_By X.2.2.2.1 X.2.2.2.2 Y m49 e113 rfl 1 (by decide) (X.2.2.1 _ lk_Va_77) (fun _ h9 => h9) rfl d_Va_passwordKey_52 ?_
  refine lv_iload X.1 X.2.1 d_Va_passwordKey_55 (lv_at hl 6 rfl) ?_
  refine lv_isub X.1 X.2.1 d_Va_passwordKey_57 ?_
  refine t_eq (y := nI (n5 - (st0))) (pk_sub (by omega)) ?_
  refine x_v (x_runV (As := [.ref r3, .int (nI st0), .int (nI (n5 - (st0)))]) (rest := []) (n := 3) X Y hml hl.1 (c_Ha_setKey l D E L3 f85 H.size (M3) (st0) (nI (n5 - (st0))) ho wd bl hst inn out mac r3 (fl) (tot) g_wd g_bl g_hst g_inn g_out g_mac g_r3 m32 m33 m34 m35 m36 m37 m38 m50 e98 e99 e100 e101 e102 e103 e104 e114 f_bl f_mac f_r3 ap_wd_bl ap_wd_hst ap_wd_inn ap_wd_out ap_wd_mac ap_wd_r3 ap_bl_hst ap_bl_inn ap_bl_out ap_bl_mac ap_bl_r3 ap_hst_inn ap_hst_out ap_hst_mac ap_hst_r3 ap_inn_out ap_inn_mac ap_inn_r3 ap_out_mac ap_out_r3 ap_mac_r3 (by omega) (by omega)) (ok_c X Y) m32 e98 rfl kl_Va_Ha_setKey ks_Ha_setKey kx_Ha_setKey ki_Ha_setKey ini_Ha ⟨rfl, rfl⟩ hd_Ha_setKey ⟨by decide, by decide⟩ rfl (Nat.le_of_ble_eq_true rfl) d_Va_passwordKey_58 ⟨(show 1 + 0 ≤ 1 by omega), (show 32 + (0) ≤ (32) by omega)⟩) X Y hA (fun u H locs hp Y => ?_)
  obtain ⟨L118, f117⟩ := u
  obtain ⟨eL121, hF119, g123, g124, g125, g126, g127, hg128, e129, e130, e131, e132, e133⟩ := hp
  dsimp only at eL121 hF119 e129 e130 e131 e132 e133 Y
  rw [eL121] at Y
  have e134 : f117 v = .inr (11, [.int now, .ref txo, .ref dro, .ref ho, .ref o, .ref se, .int ssz, .ref coo, .int cat, .int crw, .ref deo, .ref tu, .ref b]) := (hF119 v (q_tag e97 e99 (show (11 : Nat) ≠ 1000 by decide)) (q_tag e97 e100 (show (11 : Nat) ≠ 1000 by decide)) (q_tag e97 e101 (show (11 : Nat) ≠ 1000 by decide)) (q_tag e97 e102 (show (11 : Nat) ≠ 1000 by decide)) (q_tag e97 e103 (show (11 : Nat) ≠ 1000 by decide))).trans e97
  have e135 : f117 ho = .inr (6, [.ref wd, .ref bl, .ref hst, .ref inn, .ref out, .int (nI fl), .int tot, .ref mac]) := (hF119 ho (q_tag e98 e99 (show (6 : Nat) ≠ 1000 by decide)) (q_tag e98 e100 (show (6 : Nat) ≠ 1000 by decide)) (q_tag e98 e101 (show (6 : Nat) ≠ 1000 by decide)) (q_tag e98 e102 (show (6 : Nat) ≠ 1000 by decide)) (q_tag e98 e103 (show (6 : Nat) ≠ 1000 by decide))).trans e98
  have e136 : f117 mac = .inl (E.1, 20, .inl g_mac) := (hF119 mac ap_wd_mac.symm ap_bl_mac.symm ap_hst_mac.symm ap_inn_mac.symm ap_out_mac.symm).trans e104
  have e137 : f117 o = .inr (1, [.ref un, .ref tw, .ref ke, .int (nI rd), .ref sta, .ref mo, .ref kp]) := (hF119 o (q_tag e105 e99 (show (1 : Nat) ≠ 1000 by decide)) (q_tag e105 e100 (show (1 : Nat) ≠ 1000 by decide)) (q_tag e105 e101 (show (1 : Nat) ≠ 1000 by decide)) (q_tag e105 e102 (show (1 : Nat) ≠ 1000 by decide)) (q_tag e105 e103 (show (1 : Nat) ≠ 1000 by decide))).trans e105
  have e138 : f117 tw = .inl (E.2.1, 256, .inl g_tw) := (hF119 tw ap_wd_tw.symm ap_bl_tw.symm ap_hst_tw.symm ap_inn_tw.symm ap_out_tw.symm).trans e106
  have e139 : f117 ke = .inl (E.2.1, 240, .inl g_ke) := (hF119 ke ap_wd_ke.symm ap_bl_ke.symm ap_hst_ke.symm ap_inn_ke.symm ap_out_ke.symm).trans e107
  have e140 : f117 sta = .inl (E.2.1, 16, .inl g_sta) := (hF119 sta ap_wd_sta.symm ap_bl_sta.symm ap_hst_sta.symm ap_inn_sta.symm ap_out_sta.symm).trans e108
  have e141 : f117 mo = .inl (E.2.1, 16, .inl g_mo) := (hF119 mo ap_wd_mo.symm ap_bl_mo.symm ap_hst_mo.symm ap_inn_mo.symm ap_out_mo.symm).trans e109
  have e142 : f117 tu = .inl (E.1, 20, .inl g_tu) := (hF119 tu ap_wd_tu.symm ap_bl_tu.symm ap_hst_tu.symm ap_inn_tu.symm ap_out_tu.symm).trans e110
  have e143 : f117 b = .inr (3, [.ref r, .int (nI n90)]) := (hF119 b (q_tag e95 e99 (show (3 : Nat) ≠ 1000 by decide)) (q_tag e95 e100 (show (3 : Nat) ≠ 1000 by decide)) (q_tag e95 e101 (show (3 : Nat) ≠ 1000 by decide)) (q_tag e95 e102 (show (3 : Nat) ≠ 1000 by decide)) (q_tag e95 e103 (show (3 : Nat) ≠ 1000 by decide))).trans e95
  have e144 : f117 r = .inl (E.1, N, .inl g91) := (hF119 r ap_wd_r.symm ap_bl_r.symm ap_hst_r.symm ap_inn_r.symm ap_out_r.symm).trans e96
  have e145 : f117 b2 = .inr (3, [.ref r2, .int (nI n3)]) := (hF119 b2 (q_tag e111 e99 (show (3 : Nat) ≠ 1000 by decide)) (q_tag e111 e100 (show (3 : Nat) ≠ 1000 by decide)) (q_tag e111 e101 (show (3 : Nat) ≠ 1000 by decide)) (q_tag e111 e102 (show (3 : Nat) ≠ 1000 by decide)) (q_tag e111 e103 (show (3 : Nat) ≠ 1000 by decide))).trans e111
  have e146 : f117 r2 = .inl (E.1, M, .inl g_r2) := (hF119 r2 ap_wd_r2.symm ap_bl_r2.symm ap_hst_r2.symm ap_inn_r2.symm ap_out_r2.symm).trans e112
  have e147 : f117 b3 = .inr (3, [.ref r3, .int (nI n5)]) := (hF119 b3 (q_tag e113 e99 (show (3 : Nat) ≠ 1000 by decide)) (q_tag e113 e100 (show (3 : Nat) ≠ 1000 by decide)) (q_tag e113 e101 (show (3 : Nat) ≠ 1000 by decide)) (q_tag e113 e102 (show (3 : Nat) ≠ 1000 by decide)) (q_tag e113 e103 (show (3 : Nat) ≠ 1000 by decide))).trans e113
  have e148 : f117 r3 = .inl (E.1, M3, .inl g_r3) := (hF119 r3 ap_wd_r3.symm ap_bl_r3.symm ap_hst_r3.symm ap_inn_r3.symm ap_out_r3.symm).trans e114
  have e149 : f117 q2 = .inl (E.1, 32, .inl (fun _ => 0)) := (hF119 q2 (ne_mem hqq2 m_wd).symm (ne_mem hqq2 m_bl).symm (ne_mem hqq2 m_hst).symm (ne_mem hqq2 m_inn).symm (ne_mem hqq2 m_out).symm).trans e115
  have hF150 : ∀ x, x ∈ L → x ≠ ho → x ≠ wd → x ≠ bl → x ≠ hst → x ≠ mac → x ≠ inn → x ≠ out → x ≠ o → x ≠ ke → x ≠ sta → x ≠ mo → x ≠ tu → x ≠ b → x ≠ r → f117 x = f x := fun x hx h0 h1 h2 h3 h4 h5 h6 h7 h8 h9 h10 h11 h12 h13 => (hF119 x h1 h2 h3 h5 h6).trans (hF116 x hx h0 h1 h2 h3 h4 h5 h6 h7 h8 h9 h10 h11 h12 h13)
  refine lv_iconst (v := (nI 0)) X.1 X.2.1 d_Va_passwordKey_61 (by decide) ?_
  refine lv_istore (lv' := [(8, .int (nI 0)), (7, .int (nI n90)), (6, .ref q2), (0, .ref v), (1, .int (nI 18)), (2, .ref b2), (3, .ref b3), (4, .int (nI st0)), (5, .int a5)]) X.1 X.2.1 d_Va_passwordKey_62 hl (by decide) rfl (fun ls hl => ?_)
  refine lv_iload X.1 X.2.1 d_Va_passwordKey_64 (lv_at hl 0 rfl) ?_
  refine lv_aload X.1 X.2.1 d_Va_passwordKey_66 (lv_at hl 2 rfl) ?_
  refine q_alen X.1 X.2.1 X.2.2.2.2 Y 0 m6 e149 rfl (v := nI (32)) rfl d_Va_passwordKey_68 ?_
  refine lv_icmp_ge (tgt := 130) X.1 X.2.1 d_Va_passwordKey_69 (by decide) (fun c151 => absurd c151 ?_) (fun c151 => ?_)
  · (rw [nI_leI (by omega) (by omega)] <;> omega)
  rw [nI_leI (by omega) (by omega)] at c151
  refine lv_aload_n X.1 X.2.1 d_Va_passwordKey_72 rfl (lv_at hl 3 rfl) ?_
  refine q_get X.1 X.2.1 X.2.2.1 i_Va X.2.2.2.1 X.2.2.2.2 Y m31 e134 rfl 12 (by decide) (X.2.2.1 _ lk_Va_58) (fun _ h9 => h9) rfl d_Va_passwordKey_73 ?_
  refine lv_iload X.1 X.2.1 d_Va_passwordKey_76 (lv_at hl 1 rfl) ?_
  refine q_put X.1 X.2.1 X.2.2.1 i_By t_By t_By_ok n_By X.2.2.2.1 X.2.2.2.2 Y m45 e143 rfl 1 (by decide) (X.2.2.1 _ lk_Va_77) (fun _ h9 => h9) rfl (t_By_ok 1 (by decide)) rfl rfl (Nat.le_of_ble_eq_true rfl) d_Va_passwordKey_78 (fun H locs Y => ?_)
  have e153 : (va_up f117 b (.inr (3, [.ref r, .int (nI n90)]))) b = .inr (3, [.ref r, .int (nI n90)]) := q_up
  have e154 : (va_up f117 b (.inr (3, [.ref r, .int (nI n90)]))) v = .inr (11, [.int now, .ref txo, .ref dro, .ref ho, .ref o, .ref se, .int ssz, .ref coo, .int cat, .int crw, .ref deo, .ref tu, .ref b]) := (q_ne (q_tag e134 e143 (show (11 : Nat) ≠ 3 by decide))).trans e134
  have e155 : (va_up f117 b (.inr (3, [.ref r, .int (nI n90)]))) ho = .inr (6, [.ref wd, .ref bl, .ref hst, .ref inn, .ref out, .int (nI fl), .int tot, .ref mac]) := (q_ne (q_tag e135 e143 (show (6 : Nat) ≠ 3 by decide))).trans e135
  have e156 : (va_up f117 b (.inr (3, [.ref r, .int (nI n90)]))) wd = .inl (E.2.1, 80, .inl g123) := (q_ne (q_tag e129 e143 (show (1000 : Nat) ≠ 3 by decide))).trans e129
  have e157 : (va_up f117 b (.inr (3, [.ref r, .int (nI n90)]))) bl = .inl (E.1, 64, .inl g124) := (q_ne (q_tag e130 e143 (show (1000 : Nat) ≠ 3 by decide))).trans e130
  have e158 : (va_up f117 b (.inr (3, [.ref r, .int (nI n90)]))) hst = .inl (E.2.1, 5, .inl g125) := (q_ne (q_tag e131 e143 (show (1000 : Nat) ≠ 3 by decide))).trans e131
  have e159 : (va_up f117 b (.inr (3, [.ref r, .int (nI n90)]))) inn = .inl (E.2.1, 5, .inl g126) := (q_ne (q_tag e132 e143 (show (1000 : Nat) ≠ 3 by decide))).trans e132
  have e160 : (va_up f117 b (.inr (3, [.ref r, .int (nI n90)]))) out = .inl (E.2.1, 5, .inl g127) := (q_ne (q_tag e133 e143 (show (1000 : Nat) ≠ 3 by decide))).trans e133
  have e161 : (va_up f117 b (.inr (3, [.ref r, .int (nI n90)]))) mac = .inl (E.1, 20, .inl g_mac) := (q_ne (q_tag e136 e143 (show (1000 : Nat) ≠ 3 by decide))).trans e136
  have e162 : (va_up f117 b (.inr (3, [.ref r, .int (nI n90)]))) o = .inr (1, [.ref un, .ref tw, .ref ke, .int (nI rd), .ref sta, .ref mo, .ref kp]) := (q_ne (q_tag e137 e143 (show (1 : Nat) ≠ 3 by decide))).trans e137
  have e163 : (va_up f117 b (.inr (3, [.ref r, .int (nI n90)]))) tw = .inl (E.2.1, 256, .inl g_tw) := (q_ne (q_tag e138 e143 (show (1000 : Nat) ≠ 3 by decide))).trans e138
  have e164 : (va_up f117 b (.inr (3, [.ref r, .int (nI n90)]))) ke = .inl (E.2.1, 240, .inl g_ke) := (q_ne (q_tag e139 e143 (show (1000 : Nat) ≠ 3 by decide))).trans e139
  have e165 : (va_up f117 b (.inr (3, [.ref r, .int (nI n90)]))) sta = .inl (E.2.1, 16, .inl g_sta) := (q_ne (q_tag e140 e143 (show (1000 : Nat) ≠ 3 by decide))).trans e140
  have e166 : (va_up f117 b (.inr (3, [.ref r, .int (nI n90)]))) mo = .inl (E.2.1, 16, .inl g_mo) := (q_ne (q_tag e141 e143 (show (1000 : Nat) ≠ 3 by decide))).trans e141
  have e167 : (va_up f117 b (.inr (3, [.ref r, .int (nI n90)]))) tu = .inl (E.1, 20, .inl g_tu) := (q_ne (q_tag e142 e143 (show (1000 : Nat) ≠ 3 by decide))).trans e142
  have e168 : (va_up f117 b (.inr (3, [.ref r, .int (nI n90)]))) r = .inl (E.1, N, .inl g91) := (q_ne (q_tag e144 e143 (show (1000 : Nat) ≠ 3 by decide))).trans e144
  have e169 : (va_up f117 b (.inr (3, [.ref r, .int (nI n90)]))) b2 = .inr (3, [.ref r2, .int (nI n3)]) := (q_ne ap_b_b2.symm).trans e145
  have e170 : (va_up f117 b (.inr (3, [.ref r, .int (nI n90)]))) r2 = .inl (E.1, M, .inl g_r2) := (q_ne (q_tag e146 e143 (show (1000 : Nat) ≠ 3 by decide))).trans e146
  have e171 : (va_up f117 b (.inr (3, [.ref r, .int (nI n90)]))) b3 = .inr (3, [.ref r3, .int (nI n5)]) := (q_ne ap_b_b3.symm).trans e147
  have e172 : (va_up f117 b (.inr (3, [.ref r, .int (nI n90)]))) r3 = .inl (E.1, M3, .inl g_r3) := (q_ne (q_tag e148 e143 (show (1000 : Nat) ≠ 3 by decide))).trans e148
  have e173 : (va_up f117 b (.inr (3, [.ref r, .int (nI n90)]))) q2 = .inl (E.1, 32, .inl (fun _ => 0)) := (q_ne (q_tag e149 e143 (show (1000 : Nat) ≠ 3 by decide))).trans e149
  have hF174 : ∀ x, x ∈ L → x ≠ ho → x ≠ wd → x ≠ bl → x ≠ hst → x ≠ mac → x ≠ inn → x ≠ out → x ≠ o → x ≠ ke → x ≠ sta → x ≠ mo → x ≠ tu → x ≠ b → x ≠ r → (va_up f117 b (.inr (3, [.ref r, .int (nI n90)]))) x = f x := fun x hx h0 h1 h2 h3 h4 h5 h6 h7 h8 h9 h10 h11 h12 h13 => (q_ne h12).trans (hF150 x hx h0 h1 h2 h3 h4 h5 h6 h7 h8 h9 h10 h11 h12 h13)
  have Y : pH D cCl (pA L sz) s.heap L3 (va_up f117 b (.inr (3, [.ref r, .int (nI n90)]))) H locs := Y
  generalize (va_up f117 b (.inr (3, [.ref r, .int (nI n90)]))) = f152 at Y e153 e154 e155 e156 e157 e158 e159 e160 e161 e162 e163 e164 e165 e166 e167 e168 e169 e170 e171 e172 e173 hF174
  refine lv_aload_n X.1 X.2.1 d_Va_passwordKey_81 rfl (lv_at hl 3 rfl) ?_
  refine q_get X.1 X.2.1 X.2.2.1 i_Va X.2.2.2.1 X.2.2.2.2 Y m31 e154 rfl 12 (by decide) (X.2.2.1 _ lk_Va_58) (fun _ h9 => h9) rfl d_Va_passwordKey_82 ?_
  refine lv_iload X.1 X.2.1 d_Va_passwordKey_85 (lv_at hl 0 rfl) ?_
  refine lv_bipush (v := (nI 20)) X.1 X.2.1 d_Va_passwordKey_87 (by decide) ?_
  refine lv_idiv X.1 X.2.1 d_Va_passwordKey_89 (nI_ne0 (by omega) (by omega)) ?_
  refine t_eq (y := nI 0) (by decide) ?_
  refine lv_iconst (v := (nI 1)) X.1 X.2.1 d_Va_passwordKey_90 (by decide) ?_
  refine lv_iadd X.1 X.2.1 d_Va_passwordKey_91 ?_
  refine t_eq (y := nI 1) (by decide) ?_
  refine x_v (x_runV (As := [.int (nI 1)]) (rest := []) (n := 1) X Y hml hl.1 (c_By_putWord l D E L3 f152 H.size ((nI 1)) b r (N) (n90) g91 m45 e153 m46 e168 (by omega) (by omega) hg92) (ok_c X Y) m45 e153 rfl kl_Va_By_putWord ks_By_putWord kx_By_putWord ki_By_putWord ini_By ⟨rfl, rfl⟩ hd_By_putWord ⟨by decide, by decide⟩ rfl (Nat.le_of_ble_eq_true rfl) d_Va_passwordKey_92 ⟨(show 1 + 0 ≤ 1 by omega), (show 32 + (0) ≤ (32) by omega)⟩) X Y hA (fun u H locs hp Y => ?_)
  obtain ⟨L176, f175⟩ := u
  obtain ⟨eL187, hF177, n178, g179, h181, h182, h183, h184, e185, e186⟩ := hp
  dsimp only at eL187 hF177 e185 e186 Y
  rw [eL187] at Y
  have e189 : f175 v = .inr (11, [.int now, .ref txo, .ref dro, .ref ho, .ref o, .ref se, .int ssz, .ref coo, .int cat, .int crw, .ref deo, .ref tu, .ref b]) := (hF177 v (q_tag e154 e153 (show (11 : Nat) ≠ 3 by decide)) (q_tag e154 e168 (show (11 : Nat) ≠ 1000 by decide))).trans e154
  have e190 : f175 ho = .inr (6, [.ref wd, .ref bl, .ref hst, .ref inn, .ref out, .int (nI fl), .int tot, .ref mac]) := (hF177 ho (q_tag e155 e153 (show (6 : Nat) ≠ 3 by decide)) (q_tag e155 e168 (show (6 : Nat) ≠ 1000 by decide))).trans e155
  have e191 : f175 wd = .inl (E.2.1, 80, .inl g123) := (hF177 wd (q_tag e156 e153 (show (1000 : Nat) ≠ 3 by decide)) ap_wd_r).trans e156
  have e192 : f175 bl = .inl (E.1, 64, .inl g124) := (hF177 bl (q_tag e157 e153 (show (1000 : Nat) ≠ 3 by decide)) ap_bl_r).trans e157
  have e193 : f175 hst = .inl (E.2.1, 5, .inl g125) := (hF177 hst (q_tag e158 e153 (show (1000 : Nat) ≠ 3 by decide)) ap_hst_r).trans e158
  have e194 : f175 inn = .inl (E.2.1, 5, .inl g126) := (hF177 inn (q_tag e159 e153 (show (1000 : Nat) ≠ 3 by decide)) ap_inn_r).trans e159
  have e195 : f175 out = .inl (E.2.1, 5, .inl g127) := (hF177 out (q_tag e160 e153 (show (1000 : Nat) ≠ 3 by decide)) ap_out_r).trans e160
  have e196 : f175 mac = .inl (E.1, 20, .inl g_mac) := (hF177 mac (q_tag e161 e153 (show (1000 : Nat) ≠ 3 by decide)) ap_mac_r).trans e161
  have e197 : f175 o = .inr (1, [.ref un, .ref tw, .ref ke, .int (nI rd), .ref sta, .ref mo, .ref kp]) := (hF177 o (q_tag e162 e153 (show (1 : Nat) ≠ 3 by decide)) (q_tag e162 e168 (show (1 : Nat) ≠ 1000 by decide))).trans e162
  have e198 : f175 tw = .inl (E.2.1, 256, .inl g_tw) := (hF177 tw (q_tag e163 e153 (show (1000 : Nat) ≠ 3 by decide)) ap_tw_r).trans e163
  have e199 : f175 ke = .inl (E.2.1, 240, .inl g_ke) := (hF177 ke (q_tag e164 e153 (show (1000 : Nat) ≠ 3 by decide)) ap_ke_r).trans e164
  have e200 : f175 sta = .inl (E.2.1, 16, .inl g_sta) := (hF177 sta (q_tag e165 e153 (show (1000 : Nat) ≠ 3 by decide)) ap_sta_r).trans e165
  have e201 : f175 mo = .inl (E.2.1, 16, .inl g_mo) := (hF177 mo (q_tag e166 e153 (show (1000 : Nat) ≠ 3 by decide)) ap_mo_r).trans e166
  have e202 : f175 tu = .inl (E.1, 20, .inl g_tu) := (hF177 tu (q_tag e167 e153 (show (1000 : Nat) ≠ 3 by decide)) ap_tu_r).trans e167
  have e203 : f175 b2 = .inr (3, [.ref r2, .int (nI n3)]) := (hF177 b2 ap_b_b2.symm (q_tag e169 e168 (show (3 : Nat) ≠ 1000 by decide))).trans e169
  have e204 : f175 r2 = .inl (E.1, M, .inl g_r2) := (hF177 r2 (q_tag e170 e153 (show (1000 : Nat) ≠ 3 by decide)) ap_r_r2.symm).trans e170
  have e205 : f175 b3 = .inr (3, [.ref r3, .int (nI n5)]) := (hF177 b3 ap_b_b3.symm (q_tag e171 e168 (show (3 : Nat) ≠ 1000 by decide))).trans e171
  have e206 : f175 r3 = .inl (E.1, M3, .inl g_r3) := (hF177 r3 (q_tag e172 e153 (show (1000 : Nat) ≠ 3 by decide)) ap_r_r3.symm).trans e172
  have e207 : f175 q2 = .inl (E.1, 32, .inl (fun _ => 0)) := (hF177 q2 (q_tag e173 e153 (show (1000 : Nat) ≠ 3 by decide)) (ne_mem hqq2 m_r).symm).trans e173
  have hF208 : ∀ x, x ∈ L → x ≠ ho → x ≠ wd → x ≠ bl → x ≠ hst → x ≠ mac → x ≠ inn → x ≠ out → x ≠ o → x ≠ ke → x ≠ sta → x ≠ mo → x ≠ tu → x ≠ b → x ≠ r → f175 x = f x := fun x hx h0 h1 h2 h3 h4 h5 h6 h7 h8 h9 h10 h11 h12 h13 => (hF177 x h12 h13).trans (hF174 x hx h0 h1 h2 h3 h4 h5 h6 h7 h8 h9 h10 h11 h12 h13)
  refine lv_aload_n X.1 X.2.1 d_Va_passwordKey_95 rfl (lv_at hl 3 rfl) ?_
  refine lv_iload X.1 X.2.1 d_Va_passwordKey_96 (lv_at hl 8 rfl) ?_
  refine x_v (x_runV (As := [.int a5]) (rest := []) (n := 1) X Y hml hl.1 (c_Va_stretch l D E T L3 f175 H.size (a5) (N) v ho wd bl hst inn out mac tu b r txo dro o se coo deo (fl) (n178) (now) (ssz) (cat) (crw) (tot) g123 g124 g125 g126 g127 g_mac g_tu g179 m31 m32 m33 m34 m35 m36 m37 m38 m44 m45 m46 e189 e190 e191 e192 e193 e194 e195 e196 e202 e185 e186 hg128 f_mac f_tu h182 ap_wd_bl ap_wd_hst ap_wd_inn ap_wd_out ap_wd_mac ap_wd_tu ap_wd_r ap_bl_hst ap_bl_inn ap_bl_out ap_bl_mac ap_bl_tu ap_bl_r ap_hst_inn ap_hst_out ap_hst_mac ap_hst_tu ap_hst_r ap_inn_out ap_inn_mac ap_inn_tu ap_inn_r ap_out_mac ap_out_tu ap_out_r ap_mac_tu ap_mac_r ap_tu_r (by omega) (by omega) (by omega)) (ok_k X Y hA KS KR) m31 e189 rfl kl_Va_Va_stretch ks_Va_stretch kx_Va_stretch ki_Va_stretch ini_Va ⟨rfl, rfl⟩ hd_Va_stretch ⟨by decide, by decide⟩ rfl (Nat.le_of_ble_eq_true rfl) d_Va_passwordKey_98 ⟨(show 1 + 0 ≤ 1 by omega), (show 32 + (0) ≤ (32) by omega)⟩) X Y hA (fun u H locs hp Y => ?_)
  obtain ⟨L211, f210⟩ := u
  obtain ⟨eL213, hF212, n215, v216, g217, g218, g219, g220, g221, hg222, hg223, hg224, h225, e226, e227, e228, e229, e230, e231⟩ := hp
  dsimp only at eL213 hF212 e226 e227 e228 e229 e230 e231 Y
  rw [eL213] at Y
  have e232 : f210 v = .inr (11, [.int now, .ref txo, .ref dro, .ref ho, .ref o, .ref se, .int ssz, .ref coo, .int cat, .int crw, .ref deo, .ref tu, .ref b]) := (hF212 v (q_tag e189 e190 (show (11 : Nat) ≠ 6 by decide)) (q_tag e189 e191 (show (11 : Nat) ≠ 1000 by decide)) (q_tag e189 e192 (show (11 : Nat) ≠ 1000 by decide)) (q_tag e189 e193 (show (11 : Nat) ≠ 1000 by decide)) (q_tag e189 e196 (show (11 : Nat) ≠ 1000 by decide)) (q_tag e189 e202 (show (11 : Nat) ≠ 1000 by decide))).trans e189
  have e233 : f210 inn = .inl (E.2.1, 5, .inl g126) := (hF212 inn (q_tag e194 e190 (show (1000 : Nat) ≠ 6 by decide)) ap_wd_inn.symm ap_bl_inn.symm ap_hst_inn.symm ap_inn_mac ap_inn_tu).trans e194
  have e234 : f210 out = .inl (E.2.1, 5, .inl g127) := (hF212 out (q_tag e195 e190 (show (1000 : Nat) ≠ 6 by decide)) ap_wd_out.symm ap_bl_out.symm ap_hst_out.symm ap_out_mac ap_out_tu).trans e195
  have e235 : f210 o = .inr (1, [.ref un, .ref tw, .ref ke, .int (nI rd), .ref sta, .ref mo, .ref kp]) := (hF212 o (q_tag e197 e190 (show (1 : Nat) ≠ 6 by decide)) (q_tag e197 e191 (show (1 : Nat) ≠ 1000 by decide)) (q_tag e197 e192 (show (1 : Nat) ≠ 1000 by decide)) (q_tag e197 e193 (show (1 : Nat) ≠ 1000 by decide)) (q_tag e197 e196 (show (1 : Nat) ≠ 1000 by decide)) (q_tag e197 e202 (show (1 : Nat) ≠ 1000 by decide))).trans e197
  have e236 : f210 tw = .inl (E.2.1, 256, .inl g_tw) := (hF212 tw (q_tag e198 e190 (show (1000 : Nat) ≠ 6 by decide)) ap_wd_tw.symm ap_bl_tw.symm ap_hst_tw.symm ap_mac_tw.symm ap_tw_tu).trans e198
  have e237 : f210 ke = .inl (E.2.1, 240, .inl g_ke) := (hF212 ke (q_tag e199 e190 (show (1000 : Nat) ≠ 6 by decide)) ap_wd_ke.symm ap_bl_ke.symm ap_hst_ke.symm ap_mac_ke.symm ap_ke_tu).trans e199
  have e238 : f210 sta = .inl (E.2.1, 16, .inl g_sta) := (hF212 sta (q_tag e200 e190 (show (1000 : Nat) ≠ 6 by decide)) ap_wd_sta.symm ap_bl_sta.symm ap_hst_sta.symm ap_mac_sta.symm ap_sta_tu).trans e200
  have e239 : f210 mo = .inl (E.2.1, 16, .inl g_mo) := (hF212 mo (q_tag e201 e190 (show (1000 : Nat) ≠ 6 by decide)) ap_wd_mo.symm ap_bl_mo.symm ap_hst_mo.symm ap_mac_mo.symm ap_mo_tu).trans e201
  have e240 : f210 b = .inr (3, [.ref r, .int (nI n178)]) := (hF212 b (q_tag e185 e190 (show (3 : Nat) ≠ 6 by decide)) (q_tag e185 e191 (show (3 : Nat) ≠ 1000 by decide)) (q_tag e185 e192 (show (3 : Nat) ≠ 1000 by decide)) (q_tag e185 e193 (show (3 : Nat) ≠ 1000 by decide)) (q_tag e185 e196 (show (3 : Nat) ≠ 1000 by decide)) (q_tag e185 e202 (show (3 : Nat) ≠ 1000 by decide))).trans e185
  have e241 : f210 r = .inl (E.1, N, .inl g179) := (hF212 r (q_tag e186 e190 (show (1000 : Nat) ≠ 6 by decide)) ap_wd_r.symm ap_bl_r.symm ap_hst_r.symm ap_mac_r.symm ap_tu_r.symm).trans e186
  have e242 : f210 b2 = .inr (3, [.ref r2, .int (nI n3)]) := (hF212 b2 (q_tag e203 e190 (show (3 : Nat) ≠ 6 by decide)) (q_tag e203 e191 (show (3 : Nat) ≠ 1000 by decide)) (q_tag e203 e192 (show (3 : Nat) ≠ 1000 by decide)) (q_tag e203 e193 (show (3 : Nat) ≠ 1000 by decide)) (q_tag e203 e196 (show (3 : Nat) ≠ 1000 by decide)) (q_tag e203 e202 (show (3 : Nat) ≠ 1000 by decide))).trans e203
  have e243 : f210 r2 = .inl (E.1, M, .inl g_r2) := (hF212 r2 (q_tag e204 e190 (show (1000 : Nat) ≠ 6 by decide)) ap_wd_r2.symm ap_bl_r2.symm ap_hst_r2.symm ap_mac_r2.symm ap_tu_r2.symm).trans e204
  have e244 : f210 b3 = .inr (3, [.ref r3, .int (nI n5)]) := (hF212 b3 (q_tag e205 e190 (show (3 : Nat) ≠ 6 by decide)) (q_tag e205 e191 (show (3 : Nat) ≠ 1000 by decide)) (q_tag e205 e192 (show (3 : Nat) ≠ 1000 by decide)) (q_tag e205 e193 (show (3 : Nat) ≠ 1000 by decide)) (q_tag e205 e196 (show (3 : Nat) ≠ 1000 by decide)) (q_tag e205 e202 (show (3 : Nat) ≠ 1000 by decide))).trans e205
  have e245 : f210 r3 = .inl (E.1, M3, .inl g_r3) := (hF212 r3 (q_tag e206 e190 (show (1000 : Nat) ≠ 6 by decide)) ap_wd_r3.symm ap_bl_r3.symm ap_hst_r3.symm ap_mac_r3.symm ap_tu_r3.symm).trans e206
  have e246 : f210 q2 = .inl (E.1, 32, .inl (fun _ => 0)) := (hF212 q2 (q_tag e207 e190 (show (1000 : Nat) ≠ 6 by decide)) (ne_mem hqq2 m_wd).symm (ne_mem hqq2 m_bl).symm (ne_mem hqq2 m_hst).symm (ne_mem hqq2 m_mac).symm (ne_mem hqq2 m_tu).symm).trans e207
  have hF247 : ∀ x, x ∈ L → x ≠ ho → x ≠ wd → x ≠ bl → x ≠ hst → x ≠ mac → x ≠ inn → x ≠ out → x ≠ o → x ≠ ke → x ≠ sta → x ≠ mo → x ≠ tu → x ≠ b → x ≠ r → f210 x = f x := fun x hx h0 h1 h2 h3 h4 h5 h6 h7 h8 h9 h10 h11 h12 h13 => (hF212 x h0 h1 h2 h3 h4 h11).trans (hF208 x hx h0 h1 h2 h3 h4 h5 h6 h7 h8 h9 h10 h11 h12 h13)
  refine lv_aload_n X.1 X.2.1 d_Va_passwordKey_101 rfl (lv_at hl 3 rfl) ?_
  refine q_get X.1 X.2.1 X.2.2.1 i_Va X.2.2.2.1 X.2.2.2.2 Y m31 e232 rfl 11 (by decide) (X.2.2.1 _ lk_Va_55) (fun _ h9 => h9) rfl d_Va_passwordKey_102 ?_
  refine lv_iconst (v := (nI 0)) X.1 X.2.1 d_Va_passwordKey_105 (by decide) ?_
  refine lv_aload X.1 X.2.1 d_Va_passwordKey_106 (lv_at hl 2 rfl) ?_
  refine lv_iload X.1 X.2.1 d_Va_passwordKey_108 (lv_at hl 0 rfl) ?_
  refine lv_bipush (v := (nI 20)) X.1 X.2.1 d_Va_passwordKey_110 (by decide) ?_
  refine lv_aload X.1 X.2.1 d_Va_passwordKey_112 (lv_at hl 2 rfl) ?_
  refine q_alen X.1 X.2.1 X.2.2.2.2 Y 0 m6 e246 rfl (v := nI (32)) rfl d_Va_passwordKey_114 ?_
  refine lv_iload X.1 X.2.1 d_Va_passwordKey_115 (lv_at hl 0 rfl) ?_
  refine lv_isub X.1 X.2.1 d_Va_passwordKey_117 ?_
  refine t_eq (y := nI 32) (by decide) ?_
  refine va_mmin X.1 X.2.1 (hml.trans hl.1.symm) X.2.2.2.1 (X.2.2.1 _ kl_Va_mmin) (X.2.2.1 _ ks_mmin) (X.2.2.1 _ ini_Math) (X.2.2.1 _ ki_mmin) (Nat.le_of_ble_eq_true rfl) (Nat.le_of_ble_eq_true rfl) (show 1 ≤ 1 by omega) (show 32 ≤ (32) by omega) d_Va_passwordKey_118 ?_
  refine t_eq (y := nI 20) (by decide) ?_
  refine q_copy X.1 X.2.1 (hml.trans hl.1.symm) X.2.2.2.1 (X.2.2.1 _ kl_Va_copy) (X.2.2.1 _ kn_copy) (X.2.2.1 _ ks_copy) (X.2.2.1 _ ini_Sys) X.2.2.2.2 Y 0 m44 e231 m6 e246 rfl rfl (show 0 + 20 ≤ 20 by omega) (show 0 + 20 ≤ 32 by omega) (by omega) (by omega) hg224 (Nat.le_of_ble_eq_true rfl) (Nat.le_of_ble_eq_true rfl) d_Va_passwordKey_121 (fun H locs Y => ?_)
  have hg249 : fB (va_cpy g221 (fun _ => 0) (0) (0) (20)) := fB_cpy hg224 fB_0
  generalize (va_cpy g221 (fun _ => 0) (0) (0) (20)) = g248 at Y hg249
  have e251 : (va_up f210 q2 (.inl (E.1, 32, .inl g248))) q2 = .inl (E.1, 32, .inl g248) := q_up
  have e252 : (va_up f210 q2 (.inl (E.1, 32, .inl g248))) v = .inr (11, [.int now, .ref txo, .ref dro, .ref ho, .ref o, .ref se, .int ssz, .ref coo, .int cat, .int crw, .ref deo, .ref tu, .ref b]) := (q_ne (q_tag e232 e246 (show (11 : Nat) ≠ 1000 by decide))).trans e232
  have e253 : (va_up f210 q2 (.inl (E.1, 32, .inl g248))) ho = .inr (6, [.ref wd, .ref bl, .ref hst, .ref inn, .ref out, .int (nI n215), .int v216, .ref mac]) := (q_ne (q_tag e226 e246 (show (6 : Nat) ≠ 1000 by decide))).trans e226
  have e254 : (va_up f210 q2 (.inl (E.1, 32, .inl g248))) wd = .inl (E.2.1, 80, .inl g217) := (q_ne (ne_mem hqq2 m_wd)).trans e227
  have e255 : (va_up f210 q2 (.inl (E.1, 32, .inl g248))) bl = .inl (E.1, 64, .inl g218) := (q_ne (ne_mem hqq2 m_bl)).trans e228
  have e256 : (va_up f210 q2 (.inl (E.1, 32, .inl g248))) hst = .inl (E.2.1, 5, .inl g219) := (q_ne (ne_mem hqq2 m_hst)).trans e229
  have e257 : (va_up f210 q2 (.inl (E.1, 32, .inl g248))) inn = .inl (E.2.1, 5, .inl g126) := (q_ne (ne_mem hqq2 m_inn)).trans e233
  have e258 : (va_up f210 q2 (.inl (E.1, 32, .inl g248))) out = .inl (E.2.1, 5, .inl g127) := (q_ne (ne_mem hqq2 m_out)).trans e234
  have e259 : (va_up f210 q2 (.inl (E.1, 32, .inl g248))) mac = .inl (E.1, 20, .inl g220) := (q_ne (ne_mem hqq2 m_mac)).trans e230
  have e260 : (va_up f210 q2 (.inl (E.1, 32, .inl g248))) o = .inr (1, [.ref un, .ref tw, .ref ke, .int (nI rd), .ref sta, .ref mo, .ref kp]) := (q_ne (q_tag e235 e246 (show (1 : Nat) ≠ 1000 by decide))).trans e235
  have e261 : (va_up f210 q2 (.inl (E.1, 32, .inl g248))) tw = .inl (E.2.1, 256, .inl g_tw) := (q_ne (ne_mem hqq2 m_tw)).trans e236
  have e262 : (va_up f210 q2 (.inl (E.1, 32, .inl g248))) ke = .inl (E.2.1, 240, .inl g_ke) := (q_ne (ne_mem hqq2 m_ke)).trans e237
  have e263 : (va_up f210 q2 (.inl (E.1, 32, .inl g248))) sta = .inl (E.2.1, 16, .inl g_sta) := (q_ne (ne_mem hqq2 m_sta)).trans e238
  have e264 : (va_up f210 q2 (.inl (E.1, 32, .inl g248))) mo = .inl (E.2.1, 16, .inl g_mo) := (q_ne (ne_mem hqq2 m_mo)).trans e239
  have e265 : (va_up f210 q2 (.inl (E.1, 32, .inl g248))) tu = .inl (E.1, 20, .inl g221) := (q_ne (ne_mem hqq2 m_tu)).trans e231
  have e266 : (va_up f210 q2 (.inl (E.1, 32, .inl g248))) b = .inr (3, [.ref r, .int (nI n178)]) := (q_ne (q_tag e240 e246 (show (3 : Nat) ≠ 1000 by decide))).trans e240
  have e267 : (va_up f210 q2 (.inl (E.1, 32, .inl g248))) r = .inl (E.1, N, .inl g179) := (q_ne (ne_mem hqq2 m_r)).trans e241
  have e268 : (va_up f210 q2 (.inl (E.1, 32, .inl g248))) b2 = .inr (3, [.ref r2, .int (nI n3)]) := (q_ne (q_tag e242 e246 (show (3 : Nat) ≠ 1000 by decide))).trans e242
  have e269 : (va_up f210 q2 (.inl (E.1, 32, .inl g248))) r2 = .inl (E.1, M, .inl g_r2) := (q_ne (ne_mem hqq2 m_r2)).trans e243
  have e270 : (va_up f210 q2 (.inl (E.1, 32, .inl g248))) b3 = .inr (3, [.ref r3, .int (nI n5)]) := (q_ne (q_tag e244 e246 (show (3 : Nat) ≠ 1000 by decide))).trans e244
  have e271 : (va_up f210 q2 (.inl (E.1, 32, .inl g248))) r3 = .inl (E.1, M3, .inl g_r3) := (q_ne (ne_mem hqq2 m_r3)).trans e245
  have hF272 : ∀ x, x ∈ L → x ≠ ho → x ≠ wd → x ≠ bl → x ≠ hst → x ≠ mac → x ≠ inn → x ≠ out → x ≠ o → x ≠ ke → x ≠ sta → x ≠ mo → x ≠ tu → x ≠ b → x ≠ r → (va_up f210 q2 (.inl (E.1, 32, .inl g248))) x = f x := fun x hx h0 h1 h2 h3 h4 h5 h6 h7 h8 h9 h10 h11 h12 h13 => (q_ne (ne_mem nl7 hx)).trans (hF247 x hx h0 h1 h2 h3 h4 h5 h6 h7 h8 h9 h10 h11 h12 h13)
  have Y : pH D cCl (pA L sz) s.heap L3 (va_up f210 q2 (.inl (E.1, 32, .inl g248))) H locs := Y
  generalize (va_up f210 q2 (.inl (E.1, 32, .inl g248))) = f250 at Y e251 e252 e253 e254 e255 e256 e257 e258 e259 e260 e261 e262 e263 e264 e265 e266 e267 e268 e269 e270 e271 hF272
  refine lv_iinc (v := (nI 20)) (lv' := [(8, .int (nI 20)), (7, .int (nI n90)), (6, .ref q2), (0, .ref v), (1, .int (nI 18)), (2, .ref b2), (3, .ref b3), (4, .int (nI st0)), (5, .int a5)]) X.1 X.2.1 d_Va_passwordKey_124 hl (k := 0) rfl (by decide) (by decide) rfl (fun ls hl => ?_)
  refine lv_goto (tgt := 64) X.1 X.2.1 d_Va_passwordKey_127 (by decide) ?_
  refine lv_iload X.1 X.2.1 d_Va_passwordKey_64 (lv_at hl 0 rfl) ?_
  refine lv_aload X.1 X.2.1 d_Va_passwordKey_66 (lv_at hl 2 rfl) ?_
  refine q_alen X.1 X.2.1 X.2.2.2.2 Y 0 m6 e251 rfl (v := nI (32)) rfl d_Va_passwordKey_68 ?_
  refine lv_icmp_ge (tgt := 130) X.1 X.2.1 d_Va_passwordKey_69 (by decide) (fun c273 => absurd c273 ?_) (fun c273 => ?_)
  · (rw [nI_leI (by omega) (by omega)] <;> omega)
  rw [nI_leI (by omega) (by omega)] at c273
  refine lv_aload_n X.1 X.2.1 d_Va_passwordKey_72 rfl (lv_at hl 3 rfl) ?_
  refine q_get X.1 X.2.1 X.2.2.1 i_Va X.2.2.2.1 X.2.2.2.2 Y m31 e252 rfl 12 (by decide) (X.2.2.1 _ lk_Va_58) (fun _ h9 => h9) rfl d_Va_passwordKey_73 ?_
  refine lv_iload X.1 X.2.1 d_Va_passwordKey_76 (lv_at hl 1 rfl) ?_
  refine q_put X.1 X.2.1 X.2.2.1 i_By t_By t_By_ok n_By X.2.2.2.1 X.2.2.2.2 Y m45 e266 rfl 1 (by decide) (X.2.2.1 _ lk_Va_77) (fun _ h9 => h9) rfl (t_By_ok 1 (by decide)) rfl rfl (Nat.le_of_ble_eq_true rfl) d_Va_passwordKey_78 (fun H locs Y => ?_)
  have e275 : (va_up f250 b (.inr (3, [.ref r, .int (nI n90)]))) b = .inr (3, [.ref r, .int (nI n90)]) := q_up
  have e276 : (va_up f250 b (.inr (3, [.ref r, .int (nI n90)]))) v = .inr (11, [.int now, .ref txo, .ref dro, .ref ho, .ref o, .ref se, .int ssz, .ref coo, .int cat, .int crw, .ref deo, .ref tu, .ref b]) := (q_ne (q_tag e252 e266 (show (11 : Nat) ≠ 3 by decide))).trans e252
  have e277 : (va_up f250 b (.inr (3, [.ref r, .int (nI n90)]))) ho = .inr (6, [.ref wd, .ref bl, .ref hst, .ref inn, .ref out, .int (nI n215), .int v216, .ref mac]) := (q_ne (q_tag e253 e266 (show (6 : Nat) ≠ 3 by decide))).trans e253
  have e278 : (va_up f250 b (.inr (3, [.ref r, .int (nI n90)]))) wd = .inl (E.2.1, 80, .inl g217) := (q_ne (q_tag e254 e266 (show (1000 : Nat) ≠ 3 by decide))).trans e254
  have e279 : (va_up f250 b (.inr (3, [.ref r, .int (nI n90)]))) bl = .inl (E.1, 64, .inl g218) := (q_ne (q_tag e255 e266 (show (1000 : Nat) ≠ 3 by decide))).trans e255
  have e280 : (va_up f250 b (.inr (3, [.ref r, .int (nI n90)]))) hst = .inl (E.2.1, 5, .inl g219) := (q_ne (q_tag e256 e266 (show (1000 : Nat) ≠ 3 by decide))).trans e256
  have e281 : (va_up f250 b (.inr (3, [.ref r, .int (nI n90)]))) inn = .inl (E.2.1, 5, .inl g126) := (q_ne (q_tag e257 e266 (show (1000 : Nat) ≠ 3 by decide))).trans e257
  have e282 : (va_up f250 b (.inr (3, [.ref r, .int (nI n90)]))) out = .inl (E.2.1, 5, .inl g127) := (q_ne (q_tag e258 e266 (show (1000 : Nat) ≠ 3 by decide))).trans e258
  have e283 : (va_up f250 b (.inr (3, [.ref r, .int (nI n90)]))) mac = .inl (E.1, 20, .inl g220) := (q_ne (q_tag e259 e266 (show (1000 : Nat) ≠ 3 by decide))).trans e259
  have e284 : (va_up f250 b (.inr (3, [.ref r, .int (nI n90)]))) o = .inr (1, [.ref un, .ref tw, .ref ke, .int (nI rd), .ref sta, .ref mo, .ref kp]) := (q_ne (q_tag e260 e266 (show (1 : Nat) ≠ 3 by decide))).trans e260
  have e285 : (va_up f250 b (.inr (3, [.ref r, .int (nI n90)]))) tw = .inl (E.2.1, 256, .inl g_tw) := (q_ne (q_tag e261 e266 (show (1000 : Nat) ≠ 3 by decide))).trans e261
  have e286 : (va_up f250 b (.inr (3, [.ref r, .int (nI n90)]))) ke = .inl (E.2.1, 240, .inl g_ke) := (q_ne (q_tag e262 e266 (show (1000 : Nat) ≠ 3 by decide))).trans e262
  have e287 : (va_up f250 b (.inr (3, [.ref r, .int (nI n90)]))) sta = .inl (E.2.1, 16, .inl g_sta) := (q_ne (q_tag e263 e266 (show (1000 : Nat) ≠ 3 by decide))).trans e263
  have e288 : (va_up f250 b (.inr (3, [.ref r, .int (nI n90)]))) mo = .inl (E.2.1, 16, .inl g_mo) := (q_ne (q_tag e264 e266 (show (1000 : Nat) ≠ 3 by decide))).trans e264
  have e289 : (va_up f250 b (.inr (3, [.ref r, .int (nI n90)]))) tu = .inl (E.1, 20, .inl g221) := (q_ne (q_tag e265 e266 (show (1000 : Nat) ≠ 3 by decide))).trans e265
  have e290 : (va_up f250 b (.inr (3, [.ref r, .int (nI n90)]))) r = .inl (E.1, N, .inl g179) := (q_ne (q_tag e267 e266 (show (1000 : Nat) ≠ 3 by decide))).trans e267
  have e291 : (va_up f250 b (.inr (3, [.ref r, .int (nI n90)]))) b2 = .inr (3, [.ref r2, .int (nI n3)]) := (q_ne ap_b_b2.symm).trans e268
  have e292 : (va_up f250 b (.inr (3, [.ref r, .int (nI n90)]))) r2 = .inl (E.1, M, .inl g_r2) := (q_ne (q_tag e269 e266 (show (1000 : Nat) ≠ 3 by decide))).trans e269
  have e293 : (va_up f250 b (.inr (3, [.ref r, .int (nI n90)]))) b3 = .inr (3, [.ref r3, .int (nI n5)]) := (q_ne ap_b_b3.symm).trans e270
  have e294 : (va_up f250 b (.inr (3, [.ref r, .int (nI n90)]))) r3 = .inl (E.1, M3, .inl g_r3) := (q_ne (q_tag e271 e266 (show (1000 : Nat) ≠ 3 by decide))).trans e271
  have e295 : (va_up f250 b (.inr (3, [.ref r, .int (nI n90)]))) q2 = .inl (E.1, 32, .inl g248) := (q_ne (q_tag e251 e266 (show (1000 : Nat) ≠ 3 by decide))).trans e251
  have hF296 : ∀ x, x ∈ L → x ≠ ho → x ≠ wd → x ≠ bl → x ≠ hst → x ≠ mac → x ≠ inn → x ≠ out → x ≠ o → x ≠ ke → x ≠ sta → x ≠ mo → x ≠ tu → x ≠ b → x ≠ r → (va_up f250 b (.inr (3, [.ref r, .int (nI n90)]))) x = f x := fun x hx h0 h1 h2 h3 h4 h5 h6 h7 h8 h9 h10 h11 h12 h13 => (q_ne h12).trans (hF272 x hx h0 h1 h2 h3 h4 h5 h6 h7 h8 h9 h10 h11 h12 h13)
  have Y : pH D cCl (pA L sz) s.heap L3 (va_up f250 b (.inr (3, [.ref r, .int (nI n90)]))) H locs := Y
  generalize (va_up f250 b (.inr (3, [.ref r, .int (nI n90)]))) = f274 at Y e275 e276 e277 e278 e279 e280 e281 e282 e283 e284 e285 e286 e287 e288 e289 e290 e291 e292 e293 e294 e295 hF296
  refine lv_aload_n X.1 X.2.1 d_Va_passwordKey_81 rfl (lv_at hl 3 rfl) ?_
  refine q_get X.1 X.2.1 X.2.2.1 i_Va X.2.2.2.1 X.2.2.2.2 Y m31 e276 rfl 12 (by decide) (X.2.2.1 _ lk_Va_58) (fun _ h9 => h9) rfl d_Va_passwordKey_82 ?_
  refine lv_iload X.1 X.2.1 d_Va_passwordKey_85 (lv_at hl 0 rfl) ?_
  refine lv_bipush (v := (nI 20)) X.1 X.2.1 d_Va_passwordKey_87 (by decide) ?_
  refine lv_idiv X.1 X.2.1 d_Va_passwordKey_89 (nI_ne0 (by omega) (by omega)) ?_
  refine t_eq (y := nI 1) (by decide) ?_
  refine lv_iconst (v := (nI 1)) X.1 X.2.1 d_Va_passwordKey_90 (by decide) ?_
  refine lv_iadd X.1 X.2.1 d_Va_passwordKey_91 ?_
  refine t_eq (y := nI 2) (by decide) ?_
  refine x_v (x_runV (As := [.int (nI 2)]) (rest := []) (n := 1) X Y hml hl.1 (c_By_putWord l D E L3 f274 H.size ((nI 2)) b r (N) (n90) g179 m45 e275 m46 e290 (by omega) (by omega) h182) (ok_c X Y) m45 e275 rfl kl_Va_By_putWord ks_By_putWord kx_By_putWord ki_By_putWord ini_By ⟨rfl, rfl⟩ hd_By_putWord ⟨by decide, by decide⟩ rfl (Nat.le_of_ble_eq_true rfl) d_Va_passwordKey_92 ⟨(show 1 + 0 ≤ 1 by omega), (show 32 + (0) ≤ (32) by omega)⟩) X Y hA (fun u H locs hp Y => ?_)
  obtain ⟨L298, f297⟩ := u
  obtain ⟨eL309, hF299, n300, g301, h303, h304, h305, h306, e307, e308⟩ := hp
  dsimp only at eL309 hF299 e307 e308 Y
  rw [eL309] at Y
  have e311 : f297 v = .inr (11, [.int now, .ref txo, .ref dro, .ref ho, .ref o, .ref se, .int ssz, .ref coo, .int cat, .int crw, .ref deo, .ref tu, .ref b]) := (hF299 v (q_tag e276 e275 (show (11 : Nat) ≠ 3 by decide)) (q_tag e276 e290 (show (11 : Nat) ≠ 1000 by decide))).trans e276
  have e312 : f297 ho = .inr (6, [.ref wd, .ref bl, .ref hst, .ref inn, .ref out, .int (nI n215), .int v216, .ref mac]) := (hF299 ho (q_tag e277 e275 (show (6 : Nat) ≠ 3 by decide)) (q_tag e277 e290 (show (6 : Nat) ≠ 1000 by decide))).trans e277
  have e313 : f297 wd = .inl (E.2.1, 80, .inl g217) := (hF299 wd (q_tag e278 e275 (show (1000 : Nat) ≠ 3 by decide)) ap_wd_r).trans e278
  have e314 : f297 bl = .inl (E.1, 64, .inl g218) := (hF299 bl (q_tag e279 e275 (show (1000 : Nat) ≠ 3 by decide)) ap_bl_r).trans e279
  have e315 : f297 hst = .inl (E.2.1, 5, .inl g219) := (hF299 hst (q_tag e280 e275 (show (1000 : Nat) ≠ 3 by decide)) ap_hst_r).trans e280
  have e316 : f297 inn = .inl (E.2.1, 5, .inl g126) := (hF299 inn (q_tag e281 e275 (show (1000 : Nat) ≠ 3 by decide)) ap_inn_r).trans e281
  have e317 : f297 out = .inl (E.2.1, 5, .inl g127) := (hF299 out (q_tag e282 e275 (show (1000 : Nat) ≠ 3 by decide)) ap_out_r).trans e282
  have e318 : f297 mac = .inl (E.1, 20, .inl g220) := (hF299 mac (q_tag e283 e275 (show (1000 : Nat) ≠ 3 by decide)) ap_mac_r).trans e283
  have e319 : f297 o = .inr (1, [.ref un, .ref tw, .ref ke, .int (nI rd), .ref sta, .ref mo, .ref kp]) := (hF299 o (q_tag e284 e275 (show (1 : Nat) ≠ 3 by decide)) (q_tag e284 e290 (show (1 : Nat) ≠ 1000 by decide))).trans e284
  have e320 : f297 tw = .inl (E.2.1, 256, .inl g_tw) := (hF299 tw (q_tag e285 e275 (show (1000 : Nat) ≠ 3 by decide)) ap_tw_r).trans e285
  have e321 : f297 ke = .inl (E.2.1, 240, .inl g_ke) := (hF299 ke (q_tag e286 e275 (show (1000 : Nat) ≠ 3 by decide)) ap_ke_r).trans e286
  have e322 : f297 sta = .inl (E.2.1, 16, .inl g_sta) := (hF299 sta (q_tag e287 e275 (show (1000 : Nat) ≠ 3 by decide)) ap_sta_r).trans e287
  have e323 : f297 mo = .inl (E.2.1, 16, .inl g_mo) := (hF299 mo (q_tag e288 e275 (show (1000 : Nat) ≠ 3 by decide)) ap_mo_r).trans e288
  have e324 : f297 tu = .inl (E.1, 20, .inl g221) := (hF299 tu (q_tag e289 e275 (show (1000 : Nat) ≠ 3 by decide)) ap_tu_r).trans e289
  have e325 : f297 b2 = .inr (3, [.ref r2, .int (nI n3)]) := (hF299 b2 ap_b_b2.symm (q_tag e291 e290 (show (3 : Nat) ≠ 1000 by decide))).trans e291
  have e326 : f297 r2 = .inl (E.1, M, .inl g_r2) := (hF299 r2 (q_tag e292 e275 (show (1000 : Nat) ≠ 3 by decide)) ap_r_r2.symm).trans e292
  have e327 : f297 b3 = .inr (3, [.ref r3, .int (nI n5)]) := (hF299 b3 ap_b_b3.symm (q_tag e293 e290 (show (3 : Nat) ≠ 1000 by decide))).trans e293
  have e328 : f297 r3 = .inl (E.1, M3, .inl g_r3) := (hF299 r3 (q_tag e294 e275 (show (1000 : Nat) ≠ 3 by decide)) ap_r_r3.symm).trans e294
  have e329 : f297 q2 = .inl (E.1, 32, .inl g248) := (hF299 q2 (q_tag e295 e275 (show (1000 : Nat) ≠ 3 by decide)) (ne_mem hqq2 m_r).symm).trans e295
  have hF330 : ∀ x, x ∈ L → x ≠ ho → x ≠ wd → x ≠ bl → x ≠ hst → x ≠ mac → x ≠ inn → x ≠ out → x ≠ o → x ≠ ke → x ≠ sta → x ≠ mo → x ≠ tu → x ≠ b → x ≠ r → f297 x = f x := fun x hx h0 h1 h2 h3 h4 h5 h6 h7 h8 h9 h10 h11 h12 h13 => (hF299 x h12 h13).trans (hF296 x hx h0 h1 h2 h3 h4 h5 h6 h7 h8 h9 h10 h11 h12 h13)
  refine lv_aload_n X.1 X.2.1 d_Va_passwordKey_95 rfl (lv_at hl 3 rfl) ?_
  refine lv_iload X.1 X.2.1 d_Va_passwordKey_96 (lv_at hl 8 rfl) ?_
  refine x_v (x_runV (As := [.int a5]) (rest := []) (n := 1) X Y hml hl.1 (c_Va_stretch l D E T L3 f297 H.size (a5) (N) v ho wd bl hst inn out mac tu b r txo dro o se coo deo (n215) (n300) (now) (ssz) (cat) (crw) (v216) g217 g218 g219 g126 g127 g220 g221 g301 m31 m32 m33 m34 m35 m36 m37 m38 m44 m45 m46 e311 e312 e313 e314 e315 e316 e317 e318 e324 e307 e308 hg222 hg223 hg224 h304 ap_wd_bl ap_wd_hst ap_wd_inn ap_wd_out ap_wd_mac ap_wd_tu ap_wd_r ap_bl_hst ap_bl_inn ap_bl_out ap_bl_mac ap_bl_tu ap_bl_r ap_hst_inn ap_hst_out ap_hst_mac ap_hst_tu ap_hst_r ap_inn_out ap_inn_mac ap_inn_tu ap_inn_r ap_out_mac ap_out_tu ap_out_r ap_mac_tu ap_mac_r ap_tu_r (by omega) (by omega) (by omega)) (ok_k X Y hA KS KR) m31 e311 rfl kl_Va_Va_stretch ks_Va_stretch kx_Va_stretch ki_Va_stretch ini_Va ⟨rfl, rfl⟩ hd_Va_stretch ⟨by decide, by decide⟩ rfl (Nat.le_of_ble_eq_true rfl) d_Va_passwordKey_98 ⟨(show 1 + 0 ≤ 1 by omega), (show 32 + (0) ≤ (32) by omega)⟩) X Y hA (fun u H locs hp Y => ?_)
  obtain ⟨L333, f332⟩ := u
  obtain ⟨eL335, hF334, n337, v338, g339, g340, g341, g342, g343, hg344, hg345, hg346, h347, e348, e349, e350, e351, e352, e353⟩ := hp
  dsimp only at eL335 hF334 e348 e349 e350 e351 e352 e353 Y
  rw [eL335] at Y
  have e354 : f332 v = .inr (11, [.int now, .ref txo, .ref dro, .ref ho, .ref o, .ref se, .int ssz, .ref coo, .int cat, .int crw, .ref deo, .ref tu, .ref b]) := (hF334 v (q_tag e311 e312 (show (11 : Nat) ≠ 6 by decide)) (q_tag e311 e313 (show (11 : Nat) ≠ 1000 by decide)) (q_tag e311 e314 (show (11 : Nat) ≠ 1000 by decide)) (q_tag e311 e315 (show (11 : Nat) ≠ 1000 by decide)) (q_tag e311 e318 (show (11 : Nat) ≠ 1000 by decide)) (q_tag e311 e324 (show (11 : Nat) ≠ 1000 by decide))).trans e311
  have e355 : f332 inn = .inl (E.2.1, 5, .inl g126) := (hF334 inn (q_tag e316 e312 (show (1000 : Nat) ≠ 6 by decide)) ap_wd_inn.symm ap_bl_inn.symm ap_hst_inn.symm ap_inn_mac ap_inn_tu).trans e316
  have e356 : f332 out = .inl (E.2.1, 5, .inl g127) := (hF334 out (q_tag e317 e312 (show (1000 : Nat) ≠ 6 by decide)) ap_wd_out.symm ap_bl_out.symm ap_hst_out.symm ap_out_mac ap_out_tu).trans e317
  have e357 : f332 o = .inr (1, [.ref un, .ref tw, .ref ke, .int (nI rd), .ref sta, .ref mo, .ref kp]) := (hF334 o (q_tag e319 e312 (show (1 : Nat) ≠ 6 by decide)) (q_tag e319 e313 (show (1 : Nat) ≠ 1000 by decide)) (q_tag e319 e314 (show (1 : Nat) ≠ 1000 by decide)) (q_tag e319 e315 (show (1 : Nat) ≠ 1000 by decide)) (q_tag e319 e318 (show (1 : Nat) ≠ 1000 by decide)) (q_tag e319 e324 (show (1 : Nat) ≠ 1000 by decide))).trans e319
  have e358 : f332 tw = .inl (E.2.1, 256, .inl g_tw) := (hF334 tw (q_tag e320 e312 (show (1000 : Nat) ≠ 6 by decide)) ap_wd_tw.symm ap_bl_tw.symm ap_hst_tw.symm ap_mac_tw.symm ap_tw_tu).trans e320
  have e359 : f332 ke = .inl (E.2.1, 240, .inl g_ke) := (hF334 ke (q_tag e321 e312 (show (1000 : Nat) ≠ 6 by decide)) ap_wd_ke.symm ap_bl_ke.symm ap_hst_ke.symm ap_mac_ke.symm ap_ke_tu).trans e321
  have e360 : f332 sta = .inl (E.2.1, 16, .inl g_sta) := (hF334 sta (q_tag e322 e312 (show (1000 : Nat) ≠ 6 by decide)) ap_wd_sta.symm ap_bl_sta.symm ap_hst_sta.symm ap_mac_sta.symm ap_sta_tu).trans e322
  have e361 : f332 mo = .inl (E.2.1, 16, .inl g_mo) := (hF334 mo (q_tag e323 e312 (show (1000 : Nat) ≠ 6 by decide)) ap_wd_mo.symm ap_bl_mo.symm ap_hst_mo.symm ap_mac_mo.symm ap_mo_tu).trans e323
  have e362 : f332 b = .inr (3, [.ref r, .int (nI n300)]) := (hF334 b (q_tag e307 e312 (show (3 : Nat) ≠ 6 by decide)) (q_tag e307 e313 (show (3 : Nat) ≠ 1000 by decide)) (q_tag e307 e314 (show (3 : Nat) ≠ 1000 by decide)) (q_tag e307 e315 (show (3 : Nat) ≠ 1000 by decide)) (q_tag e307 e318 (show (3 : Nat) ≠ 1000 by decide)) (q_tag e307 e324 (show (3 : Nat) ≠ 1000 by decide))).trans e307
  have e363 : f332 r = .inl (E.1, N, .inl g301) := (hF334 r (q_tag e308 e312 (show (1000 : Nat) ≠ 6 by decide)) ap_wd_r.symm ap_bl_r.symm ap_hst_r.symm ap_mac_r.symm ap_tu_r.symm).trans e308
  have e364 : f332 b2 = .inr (3, [.ref r2, .int (nI n3)]) := (hF334 b2 (q_tag e325 e312 (show (3 : Nat) ≠ 6 by decide)) (q_tag e325 e313 (show (3 : Nat) ≠ 1000 by decide)) (q_tag e325 e314 (show (3 : Nat) ≠ 1000 by decide)) (q_tag e325 e315 (show (3 : Nat) ≠ 1000 by decide)) (q_tag e325 e318 (show (3 : Nat) ≠ 1000 by decide)) (q_tag e325 e324 (show (3 : Nat) ≠ 1000 by decide))).trans e325
  have e365 : f332 r2 = .inl (E.1, M, .inl g_r2) := (hF334 r2 (q_tag e326 e312 (show (1000 : Nat) ≠ 6 by decide)) ap_wd_r2.symm ap_bl_r2.symm ap_hst_r2.symm ap_mac_r2.symm ap_tu_r2.symm).trans e326
  have e366 : f332 b3 = .inr (3, [.ref r3, .int (nI n5)]) := (hF334 b3 (q_tag e327 e312 (show (3 : Nat) ≠ 6 by decide)) (q_tag e327 e313 (show (3 : Nat) ≠ 1000 by decide)) (q_tag e327 e314 (show (3 : Nat) ≠ 1000 by decide)) (q_tag e327 e315 (show (3 : Nat) ≠ 1000 by decide)) (q_tag e327 e318 (show (3 : Nat) ≠ 1000 by decide)) (q_tag e327 e324 (show (3 : Nat) ≠ 1000 by decide))).trans e327
  have e367 : f332 r3 = .inl (E.1, M3, .inl g_r3) := (hF334 r3 (q_tag e328 e312 (show (1000 : Nat) ≠ 6 by decide)) ap_wd_r3.symm ap_bl_r3.symm ap_hst_r3.symm ap_mac_r3.symm ap_tu_r3.symm).trans e328
  have e368 : f332 q2 = .inl (E.1, 32, .inl g248) := (hF334 q2 (q_tag e329 e312 (show (1000 : Nat) ≠ 6 by decide)) (ne_mem hqq2 m_wd).symm (ne_mem hqq2 m_bl).symm (ne_mem hqq2 m_hst).symm (ne_mem hqq2 m_mac).symm (ne_mem hqq2 m_tu).symm).trans e329
  have hF369 : ∀ x, x ∈ L → x ≠ ho → x ≠ wd → x ≠ bl → x ≠ hst → x ≠ mac → x ≠ inn → x ≠ out → x ≠ o → x ≠ ke → x ≠ sta → x ≠ mo → x ≠ tu → x ≠ b → x ≠ r → f332 x = f x := fun x hx h0 h1 h2 h3 h4 h5 h6 h7 h8 h9 h10 h11 h12 h13 => (hF334 x h0 h1 h2 h3 h4 h11).trans (hF330 x hx h0 h1 h2 h3 h4 h5 h6 h7 h8 h9 h10 h11 h12 h13)
  refine lv_aload_n X.1 X.2.1 d_Va_passwordKey_101 rfl (lv_at hl 3 rfl) ?_
  refine q_get X.1 X.2.1 X.2.2.1 i_Va X.2.2.2.1 X.2.2.2.2 Y m31 e354 rfl 11 (by decide) (X.2.2.1 _ lk_Va_55) (fun _ h9 => h9) rfl d_Va_passwordKey_102 ?_
  refine lv_iconst (v := (nI 0)) X.1 X.2.1 d_Va_passwordKey_105 (by decide) ?_
  refine lv_aload X.1 X.2.1 d_Va_passwordKey_106 (lv_at hl 2 rfl) ?_
  refine lv_iload X.1 X.2.1 d_Va_passwordKey_108 (lv_at hl 0 rfl) ?_
  refine lv_bipush (v := (nI 20)) X.1 X.2.1 d_Va_passwordKey_110 (by decide) ?_
  refine lv_aload X.1 X.2.1 d_Va_passwordKey_112 (lv_at hl 2 rfl) ?_
  refine q_alen X.1 X.2.1 X.2.2.2.2 Y 0 m6 e368 rfl (v := nI (32)) rfl d_Va_passwordKey_114 ?_
  refine lv_iload X.1 X.2.1 d_Va_passwordKey_115 (lv_at hl 0 rfl) ?_
  refine lv_isub X.1 X.2.1 d_Va_passwordKey_117 ?_
  refine t_eq (y := nI 12) (by decide) ?_
  refine va_mmin X.1 X.2.1 (hml.trans hl.1.symm) X.2.2.2.1 (X.2.2.1 _ kl_Va_mmin) (X.2.2.1 _ ks_mmin) (X.2.2.1 _ ini_Math) (X.2.2.1 _ ki_mmin) (Nat.le_of_ble_eq_true rfl) (Nat.le_of_ble_eq_true rfl) (show 1 ≤ 1 by omega) (show 32 ≤ (32) by omega) d_Va_passwordKey_118 ?_
  refine t_eq (y := nI 12) (by decide) ?_
  refine q_copy X.1 X.2.1 (hml.trans hl.1.symm) X.2.2.2.1 (X.2.2.1 _ kl_Va_copy) (X.2.2.1 _ kn_copy) (X.2.2.1 _ ks_copy) (X.2.2.1 _ ini_Sys) X.2.2.2.2 Y 0 m44 e353 m6 e368 rfl rfl (show 0 + 12 ≤ 20 by omega) (show 20 + 12 ≤ 32 by omega) (by omega) (by omega) hg346 (Nat.le_of_ble_eq_true rfl) (Nat.le_of_ble_eq_true rfl) d_Va_passwordKey_121 (fun H locs Y => ?_)
  have hg371 : fB (va_cpy g343 g248 (0) (20) (12)) := fB_cpy hg346 hg249
  generalize (va_cpy g343 g248 (0) (20) (12)) = g370 at Y hg371
  have e373 : (va_up f332 q2 (.inl (E.1, 32, .inl g370))) q2 = .inl (E.1, 32, .inl g370) := q_up
  have e374 : (va_up f332 q2 (.inl (E.1, 32, .inl g370))) v = .inr (11, [.int now, .ref txo, .ref dro, .ref ho, .ref o, .ref se, .int ssz, .ref coo, .int cat, .int crw, .ref deo, .ref tu, .ref b]) := (q_ne (q_tag e354 e368 (show (11 : Nat) ≠ 1000 by decide))).trans e354
  have e375 : (va_up f332 q2 (.inl (E.1, 32, .inl g370))) ho = .inr (6, [.ref wd, .ref bl, .ref hst, .ref inn, .ref out, .int (nI n337), .int v338, .ref mac]) := (q_ne (q_tag e348 e368 (show (6 : Nat) ≠ 1000 by decide))).trans e348
  have e376 : (va_up f332 q2 (.inl (E.1, 32, .inl g370))) wd = .inl (E.2.1, 80, .inl g339) := (q_ne (ne_mem hqq2 m_wd)).trans e349
  have e377 : (va_up f332 q2 (.inl (E.1, 32, .inl g370))) bl = .inl (E.1, 64, .inl g340) := (q_ne (ne_mem hqq2 m_bl)).trans e350
  have e378 : (va_up f332 q2 (.inl (E.1, 32, .inl g370))) hst = .inl (E.2.1, 5, .inl g341) := (q_ne (ne_mem hqq2 m_hst)).trans e351
  have e379 : (va_up f332 q2 (.inl (E.1, 32, .inl g370))) inn = .inl (E.2.1, 5, .inl g126) := (q_ne (ne_mem hqq2 m_inn)).trans e355
  have e380 : (va_up f332 q2 (.inl (E.1, 32, .inl g370))) out = .inl (E.2.1, 5, .inl g127) := (q_ne (ne_mem hqq2 m_out)).trans e356
  have e381 : (va_up f332 q2 (.inl (E.1, 32, .inl g370))) mac = .inl (E.1, 20, .inl g342) := (q_ne (ne_mem hqq2 m_mac)).trans e352
  have e382 : (va_up f332 q2 (.inl (E.1, 32, .inl g370))) o = .inr (1, [.ref un, .ref tw, .ref ke, .int (nI rd), .ref sta, .ref mo, .ref kp]) := (q_ne (q_tag e357 e368 (show (1 : Nat) ≠ 1000 by decide))).trans e357
  have e383 : (va_up f332 q2 (.inl (E.1, 32, .inl g370))) tw = .inl (E.2.1, 256, .inl g_tw) := (q_ne (ne_mem hqq2 m_tw)).trans e358
  have e384 : (va_up f332 q2 (.inl (E.1, 32, .inl g370))) ke = .inl (E.2.1, 240, .inl g_ke) := (q_ne (ne_mem hqq2 m_ke)).trans e359
  have e385 : (va_up f332 q2 (.inl (E.1, 32, .inl g370))) sta = .inl (E.2.1, 16, .inl g_sta) := (q_ne (ne_mem hqq2 m_sta)).trans e360
  have e386 : (va_up f332 q2 (.inl (E.1, 32, .inl g370))) mo = .inl (E.2.1, 16, .inl g_mo) := (q_ne (ne_mem hqq2 m_mo)).trans e361
  have e387 : (va_up f332 q2 (.inl (E.1, 32, .inl g370))) tu = .inl (E.1, 20, .inl g343) := (q_ne (ne_mem hqq2 m_tu)).trans e353
  have e388 : (va_up f332 q2 (.inl (E.1, 32, .inl g370))) b = .inr (3, [.ref r, .int (nI n300)]) := (q_ne (q_tag e362 e368 (show (3 : Nat) ≠ 1000 by decide))).trans e362
  have e389 : (va_up f332 q2 (.inl (E.1, 32, .inl g370))) r = .inl (E.1, N, .inl g301) := (q_ne (ne_mem hqq2 m_r)).trans e363
  have e390 : (va_up f332 q2 (.inl (E.1, 32, .inl g370))) b2 = .inr (3, [.ref r2, .int (nI n3)]) := (q_ne (q_tag e364 e368 (show (3 : Nat) ≠ 1000 by decide))).trans e364
  have e391 : (va_up f332 q2 (.inl (E.1, 32, .inl g370))) r2 = .inl (E.1, M, .inl g_r2) := (q_ne (ne_mem hqq2 m_r2)).trans e365
  have e392 : (va_up f332 q2 (.inl (E.1, 32, .inl g370))) b3 = .inr (3, [.ref r3, .int (nI n5)]) := (q_ne (q_tag e366 e368 (show (3 : Nat) ≠ 1000 by decide))).trans e366
  have e393 : (va_up f332 q2 (.inl (E.1, 32, .inl g370))) r3 = .inl (E.1, M3, .inl g_r3) := (q_ne (ne_mem hqq2 m_r3)).trans e367
  have hF394 : ∀ x, x ∈ L → x ≠ ho → x ≠ wd → x ≠ bl → x ≠ hst → x ≠ mac → x ≠ inn → x ≠ out → x ≠ o → x ≠ ke → x ≠ sta → x ≠ mo → x ≠ tu → x ≠ b → x ≠ r → (va_up f332 q2 (.inl (E.1, 32, .inl g370))) x = f x := fun x hx h0 h1 h2 h3 h4 h5 h6 h7 h8 h9 h10 h11 h12 h13 => (q_ne (ne_mem nl7 hx)).trans (hF369 x hx h0 h1 h2 h3 h4 h5 h6 h7 h8 h9 h10 h11 h12 h13)
  have Y : pH D cCl (pA L sz) s.heap L3 (va_up f332 q2 (.inl (E.1, 32, .inl g370))) H locs := Y
  generalize (va_up f332 q2 (.inl (E.1, 32, .inl g370))) = f372 at Y e373 e374 e375 e376 e377 e378 e379 e380 e381 e382 e383 e384 e385 e386 e387 e388 e389 e390 e391 e392 e393 hF394
  refine lv_iinc (v := (nI 40)) (lv' := [(8, .int (nI 40)), (7, .int (nI n90)), (6, .ref q2), (0, .ref v), (1, .int (nI 18)), (2, .ref b2), (3, .ref b3), (4, .int (nI st0)), (5, .int a5)]) X.1 X.2.1 d_Va_passwordKey_124 hl (k := 0) rfl (by decide) (by decide) rfl (fun ls hl => ?_)
  refine lv_goto (tgt := 64) X.1 X.2.1 d_Va_passwordKey_127 (by decide) ?_
  refine lv_iload X.1 X.2.1 d_Va_passwordKey_64 (lv_at hl 0 rfl) ?_
  refine lv_aload X.1 X.2.1 d_Va_passwordKey_66 (lv_at hl 2 rfl) ?_
  refine q_alen X.1 X.2.1 X.2.2.2.2 Y 0 m6 e373 rfl (v := nI (32)) rfl d_Va_passwordKey_68 ?_
  refine lv_icmp_ge (tgt := 130) X.1 X.2.1 d_Va_passwordKey_69 (by decide) (fun c395 => ?_) (fun c395 => absurd ?_ c395)
  rotate_left
  · (rw [nI_leI (by omega) (by omega)] <;> omega)
  rw [nI_leI (by omega) (by omega)] at c395
  refine lv_aload_n X.1 X.2.1 d_Va_passwordKey_130 rfl (lv_at hl 3 rfl) ?_
  refine q_get X.1 X.2.1 X.2.2.1 i_Va X.2.2.2.1 X.2.2.2.2 Y m31 e374 rfl 4 (by decide) (X.2.2.1 _ lk_Va_38) (fun _ h9 => h9) rfl d_Va_passwordKey_131 ?_
  refine lv_aload X.1 X.2.1 d_Va_passwordKey_134 (lv_at hl 2 rfl) ?_
  refine lv_aload X.1 X.2.1 d_Va_passwordKey_136 (lv_at hl 2 rfl) ?_
  refine q_alen X.1 X.2.1 X.2.2.2.2 Y 0 m6 e373 rfl (v := nI (32)) rfl d_Va_passwordKey_138 ?_
  refine x_v (x_runV (As := [.ref q2, .int (nI (32))]) (rest := []) (n := 2) X Y hml hl.1 (c_Ae_setKey32 l D E T L3 f372 H.size o tw ke sta mo q2 un kp (rd) g_tw g_ke g_sta g_mo g370 m39 m40 m41 m42 m43 m6 e382 e383 e384 e385 e386 e373 f_tw f_ke f_sta f_mo hg371 ap_tw_ke ap_tw_sta ap_tw_mo (ne_mem hqq2 m_tw) ap_ke_sta ap_ke_mo (ne_mem hqq2 m_ke) ap_sta_mo (ne_mem hqq2 m_sta) (ne_mem hqq2 m_mo)) (ok_k X Y hA KS KR) m39 e382 rfl kl_Va_Ae_setKey ks_Ae_setKey kx_Ae_setKey ki_Ae_setKey ini_Ae ⟨rfl, rfl⟩ hd_Ae_setKey ⟨by decide, by decide⟩ rfl (Nat.le_of_ble_eq_true rfl) d_Va_passwordKey_139 ⟨(show 1 + 0 ≤ 1 by omega), (show 32 + (0) ≤ (32) by omega)⟩) X Y hA (fun u H locs hp Y => ?_)
  obtain ⟨L398, f397⟩ := u
  obtain ⟨eL400, hF399, n402, g403, hg404, h405, e406, e407⟩ := hp
  dsimp only at eL400 hF399 e406 e407 Y
  rw [eL400] at Y
  have e408 : f397 v = .inr (11, [.int now, .ref txo, .ref dro, .ref ho, .ref o, .ref se, .int ssz, .ref coo, .int cat, .int crw, .ref deo, .ref tu, .ref b]) := (hF399 v (q_tag e374 e382 (show (11 : Nat) ≠ 1 by decide)) (q_tag e374 e384 (show (11 : Nat) ≠ 1000 by decide))).trans e374
  have e409 : f397 ho = .inr (6, [.ref wd, .ref bl, .ref hst, .ref inn, .ref out, .int (nI n337), .int v338, .ref mac]) := (hF399 ho (q_tag e375 e382 (show (6 : Nat) ≠ 1 by decide)) (q_tag e375 e384 (show (6 : Nat) ≠ 1000 by decide))).trans e375
  have e410 : f397 wd = .inl (E.2.1, 80, .inl g339) := (hF399 wd (q_tag e376 e382 (show (1000 : Nat) ≠ 1 by decide)) ap_wd_ke).trans e376
  have e411 : f397 bl = .inl (E.1, 64, .inl g340) := (hF399 bl (q_tag e377 e382 (show (1000 : Nat) ≠ 1 by decide)) ap_bl_ke).trans e377
  have e412 : f397 hst = .inl (E.2.1, 5, .inl g341) := (hF399 hst (q_tag e378 e382 (show (1000 : Nat) ≠ 1 by decide)) ap_hst_ke).trans e378
  have e413 : f397 inn = .inl (E.2.1, 5, .inl g126) := (hF399 inn (q_tag e379 e382 (show (1000 : Nat) ≠ 1 by decide)) ap_inn_ke).trans e379
  have e414 : f397 out = .inl (E.2.1, 5, .inl g127) := (hF399 out (q_tag e380 e382 (show (1000 : Nat) ≠ 1 by decide)) ap_out_ke).trans e380
  have e415 : f397 mac = .inl (E.1, 20, .inl g342) := (hF399 mac (q_tag e381 e382 (show (1000 : Nat) ≠ 1 by decide)) ap_mac_ke).trans e381
  have e416 : f397 tw = .inl (E.2.1, 256, .inl g_tw) := (hF399 tw (q_tag e383 e382 (show (1000 : Nat) ≠ 1 by decide)) ap_tw_ke).trans e383
  have e417 : f397 sta = .inl (E.2.1, 16, .inl g_sta) := (hF399 sta (q_tag e385 e382 (show (1000 : Nat) ≠ 1 by decide)) ap_ke_sta.symm).trans e385
  have e418 : f397 mo = .inl (E.2.1, 16, .inl g_mo) := (hF399 mo (q_tag e386 e382 (show (1000 : Nat) ≠ 1 by decide)) ap_ke_mo.symm).trans e386
  have e419 : f397 tu = .inl (E.1, 20, .inl g343) := (hF399 tu (q_tag e387 e382 (show (1000 : Nat) ≠ 1 by decide)) ap_ke_tu.symm).trans e387
  have e420 : f397 b = .inr (3, [.ref r, .int (nI n300)]) := (hF399 b (q_tag e388 e382 (show (3 : Nat) ≠ 1 by decide)) (q_tag e388 e384 (show (3 : Nat) ≠ 1000 by decide))).trans e388
  have e421 : f397 r = .inl (E.1, N, .inl g301) := (hF399 r (q_tag e389 e382 (show (1000 : Nat) ≠ 1 by decide)) ap_ke_r.symm).trans e389
  have e422 : f397 b2 = .inr (3, [.ref r2, .int (nI n3)]) := (hF399 b2 (q_tag e390 e382 (show (3 : Nat) ≠ 1 by decide)) (q_tag e390 e384 (show (3 : Nat) ≠ 1000 by decide))).trans e390
  have e423 : f397 r2 = .inl (E.1, M, .inl g_r2) := (hF399 r2 (q_tag e391 e382 (show (1000 : Nat) ≠ 1 by decide)) ap_ke_r2.symm).trans e391
  have e424 : f397 b3 = .inr (3, [.ref r3, .int (nI n5)]) := (hF399 b3 (q_tag e392 e382 (show (3 : Nat) ≠ 1 by decide)) (q_tag e392 e384 (show (3 : Nat) ≠ 1000 by decide))).trans e392
  have e425 : f397 r3 = .inl (E.1, M3, .inl g_r3) := (hF399 r3 (q_tag e393 e382 (show (1000 : Nat) ≠ 1 by decide)) ap_ke_r3.symm).trans e393
  have e426 : f397 q2 = .inl (E.1, 32, .inl g370) := (hF399 q2 (q_tag e373 e382 (show (1000 : Nat) ≠ 1 by decide)) (ne_mem hqq2 m_ke).symm).trans e373
  have hF427 : ∀ x, x ∈ L → x ≠ ho → x ≠ wd → x ≠ bl → x ≠ hst → x ≠ mac → x ≠ inn → x ≠ out → x ≠ o → x ≠ ke → x ≠ sta → x ≠ mo → x ≠ tu → x ≠ b → x ≠ r → f397 x = f x := fun x hx h0 h1 h2 h3 h4 h5 h6 h7 h8 h9 h10 h11 h12 h13 => (hF399 x h7 h8).trans (hF394 x hx h0 h1 h2 h3 h4 h5 h6 h7 h8 h9 h10 h11 h12 h13)
  refine k_gets 2 (by decide) X Y KS sk_Va_151 d_Va_passwordKey_142 ?_
  refine lv_iconst (v := (nI 0)) X.1 X.2.1 d_Va_passwordKey_145 (by decide) ?_
  refine lv_aload X.1 X.2.1 d_Va_passwordKey_146 (lv_at hl 2 rfl) ?_
  refine lv_iconst (v := (nI 0)) X.1 X.2.1 d_Va_passwordKey_148 (by decide) ?_
  refine lv_bipush (v := (nI 16)) X.1 X.2.1 d_Va_passwordKey_149 (by decide) ?_
  refine k_copy 2 (by decide) rfl X Y KS (hml.trans hl.1.symm) kl_Va_copy m6 e426 (show 0 + 16 ≤ sL 2 by decide) (show 0 + 16 ≤ 32 by omega) (by omega) sKER_fit (Nat.le_of_ble_eq_true rfl) (Nat.le_of_ble_eq_true rfl) d_Va_passwordKey_151 (by decide) (fun H locs Y => ?_)
  have hg429 : fB (va_cpy (sB 2) g370 (0) (0) (16)) := fB_ker (by decide) hg371
  generalize (va_cpy (sB 2) g370 (0) (0) (16)) = g428 at Y hg429
  have e431 : (va_up f397 q2 (.inl (E.1, 32, .inl g428))) q2 = .inl (E.1, 32, .inl g428) := q_up
  have e432 : (va_up f397 q2 (.inl (E.1, 32, .inl g428))) v = .inr (11, [.int now, .ref txo, .ref dro, .ref ho, .ref o, .ref se, .int ssz, .ref coo, .int cat, .int crw, .ref deo, .ref tu, .ref b]) := (q_ne (q_tag e408 e426 (show (11 : Nat) ≠ 1000 by decide))).trans e408
  have e433 : (va_up f397 q2 (.inl (E.1, 32, .inl g428))) ho = .inr (6, [.ref wd, .ref bl, .ref hst, .ref inn, .ref out, .int (nI n337), .int v338, .ref mac]) := (q_ne (q_tag e409 e426 (show (6 : Nat) ≠ 1000 by decide))).trans e409
  have e434 : (va_up f397 q2 (.inl (E.1, 32, .inl g428))) wd = .inl (E.2.1, 80, .inl g339) := (q_ne (ne_mem hqq2 m_wd)).trans e410
  have e435 : (va_up f397 q2 (.inl (E.1, 32, .inl g428))) bl = .inl (E.1, 64, .inl g340) := (q_ne (ne_mem hqq2 m_bl)).trans e411
  have e436 : (va_up f397 q2 (.inl (E.1, 32, .inl g428))) hst = .inl (E.2.1, 5, .inl g341) := (q_ne (ne_mem hqq2 m_hst)).trans e412
  have e437 : (va_up f397 q2 (.inl (E.1, 32, .inl g428))) inn = .inl (E.2.1, 5, .inl g126) := (q_ne (ne_mem hqq2 m_inn)).trans e413
  have e438 : (va_up f397 q2 (.inl (E.1, 32, .inl g428))) out = .inl (E.2.1, 5, .inl g127) := (q_ne (ne_mem hqq2 m_out)).trans e414
  have e439 : (va_up f397 q2 (.inl (E.1, 32, .inl g428))) mac = .inl (E.1, 20, .inl g342) := (q_ne (ne_mem hqq2 m_mac)).trans e415
  have e440 : (va_up f397 q2 (.inl (E.1, 32, .inl g428))) o = .inr (1, [.ref un, .ref tw, .ref ke, .int (nI n402), .ref sta, .ref mo, .ref kp]) := (q_ne (q_tag e406 e426 (show (1 : Nat) ≠ 1000 by decide))).trans e406
  have e441 : (va_up f397 q2 (.inl (E.1, 32, .inl g428))) tw = .inl (E.2.1, 256, .inl g_tw) := (q_ne (ne_mem hqq2 m_tw)).trans e416
  have e442 : (va_up f397 q2 (.inl (E.1, 32, .inl g428))) ke = .inl (E.2.1, 240, .inl g403) := (q_ne (ne_mem hqq2 m_ke)).trans e407
  have e443 : (va_up f397 q2 (.inl (E.1, 32, .inl g428))) sta = .inl (E.2.1, 16, .inl g_sta) := (q_ne (ne_mem hqq2 m_sta)).trans e417
  have e444 : (va_up f397 q2 (.inl (E.1, 32, .inl g428))) mo = .inl (E.2.1, 16, .inl g_mo) := (q_ne (ne_mem hqq2 m_mo)).trans e418
  have e445 : (va_up f397 q2 (.inl (E.1, 32, .inl g428))) tu = .inl (E.1, 20, .inl g343) := (q_ne (ne_mem hqq2 m_tu)).trans e419
  have e446 : (va_up f397 q2 (.inl (E.1, 32, .inl g428))) b = .inr (3, [.ref r, .int (nI n300)]) := (q_ne (q_tag e420 e426 (show (3 : Nat) ≠ 1000 by decide))).trans e420
  have e447 : (va_up f397 q2 (.inl (E.1, 32, .inl g428))) r = .inl (E.1, N, .inl g301) := (q_ne (ne_mem hqq2 m_r)).trans e421
  have e448 : (va_up f397 q2 (.inl (E.1, 32, .inl g428))) b2 = .inr (3, [.ref r2, .int (nI n3)]) := (q_ne (q_tag e422 e426 (show (3 : Nat) ≠ 1000 by decide))).trans e422
  have e449 : (va_up f397 q2 (.inl (E.1, 32, .inl g428))) r2 = .inl (E.1, M, .inl g_r2) := (q_ne (ne_mem hqq2 m_r2)).trans e423
  have e450 : (va_up f397 q2 (.inl (E.1, 32, .inl g428))) b3 = .inr (3, [.ref r3, .int (nI n5)]) := (q_ne (q_tag e424 e426 (show (3 : Nat) ≠ 1000 by decide))).trans e424
  have e451 : (va_up f397 q2 (.inl (E.1, 32, .inl g428))) r3 = .inl (E.1, M3, .inl g_r3) := (q_ne (ne_mem hqq2 m_r3)).trans e425
  have hF452 : ∀ x, x ∈ L → x ≠ ho → x ≠ wd → x ≠ bl → x ≠ hst → x ≠ mac → x ≠ inn → x ≠ out → x ≠ o → x ≠ ke → x ≠ sta → x ≠ mo → x ≠ tu → x ≠ b → x ≠ r → (va_up f397 q2 (.inl (E.1, 32, .inl g428))) x = f x := fun x hx h0 h1 h2 h3 h4 h5 h6 h7 h8 h9 h10 h11 h12 h13 => (q_ne (ne_mem nl7 hx)).trans (hF427 x hx h0 h1 h2 h3 h4 h5 h6 h7 h8 h9 h10 h11 h12 h13)
  have Y : pH D cCl (pA L sz) s.heap L3 (va_up f397 q2 (.inl (E.1, 32, .inl g428))) H locs := Y
  generalize (va_up f397 q2 (.inl (E.1, 32, .inl g428))) = f430 at Y e431 e432 e433 e434 e435 e436 e437 e438 e439 e440 e441 e442 e443 e444 e445 e446 e447 e448 e449 e450 e451 hF452
  refine lv_aload_n X.1 X.2.1 d_Va_passwordKey_154 rfl (lv_at hl 3 rfl) ?_
  refine lv_aload X.1 X.2.1 d_Va_passwordKey_155 (lv_at hl 2 rfl) ?_
  refine lv_aload X.1 X.2.1 d_Va_passwordKey_157 (lv_at hl 2 rfl) ?_
  refine q_alen X.1 X.2.1 X.2.2.2.2 Y 0 m6 e431 rfl (v := nI (32)) rfl d_Va_passwordKey_159 ?_
  refine x_v (x_runV (As := [.ref q2, .int (nI (32))]) (rest := []) (n := 2) X Y hml hl.1 (c_Va_chain32 l D E T L3 f430 H.size v o tw ke sta mo q2 txo dro ho se coo deo tu b un kp (n402) (now) (ssz) (cat) (crw) g_tw g403 g_sta g_mo g428 m31 m39 m40 m41 m42 m43 m6 e432 e440 e441 e442 e443 e444 e431 f_tw hg404 f_sta f_mo hg429 ap_tw_ke ap_tw_sta ap_tw_mo (ne_mem hqq2 m_tw) ap_ke_sta ap_ke_mo (ne_mem hqq2 m_ke) ap_sta_mo (ne_mem hqq2 m_sta) (ne_mem hqq2 m_mo) (by omega)) (ok_k X Y hA KS KR) m31 e432 rfl kl_Va_Va_chain ks_Va_chain kx_Va_chain ki_Va_chain ini_Va ⟨rfl, rfl⟩ hd_Va_chain ⟨by decide, by decide⟩ rfl (Nat.le_of_ble_eq_true rfl) d_Va_passwordKey_160 ⟨(show 1 + 0 ≤ 1 by omega), (show 32 + (0) ≤ (32) by omega)⟩) X Y hA (fun u H locs hp Y => ?_)
  obtain ⟨L455, f454⟩ := u
  obtain ⟨eL457, hF456, g459, g460, g461, hg462, hg463, hg464, e465, e466, e467⟩ := hp
  dsimp only at eL457 hF456 e465 e466 e467 Y
  rw [eL457] at Y
  have e468 : f454 v = .inr (11, [.int now, .ref txo, .ref dro, .ref ho, .ref o, .ref se, .int ssz, .ref coo, .int cat, .int crw, .ref deo, .ref tu, .ref b]) := (hF456 v (q_tag e432 e443 (show (11 : Nat) ≠ 1000 by decide)) (q_tag e432 e444 (show (11 : Nat) ≠ 1000 by decide)) (q_tag e432 e431 (show (11 : Nat) ≠ 1000 by decide))).trans e432
  have e469 : f454 ho = .inr (6, [.ref wd, .ref bl, .ref hst, .ref inn, .ref out, .int (nI n337), .int v338, .ref mac]) := (hF456 ho (q_tag e433 e443 (show (6 : Nat) ≠ 1000 by decide)) (q_tag e433 e444 (show (6 : Nat) ≠ 1000 by decide)) (q_tag e433 e431 (show (6 : Nat) ≠ 1000 by decide))).trans e433
  have e470 : f454 wd = .inl (E.2.1, 80, .inl g339) := (hF456 wd ap_wd_sta ap_wd_mo (ne_mem hqq2 m_wd)).trans e434
  have e471 : f454 bl = .inl (E.1, 64, .inl g340) := (hF456 bl ap_bl_sta ap_bl_mo (ne_mem hqq2 m_bl)).trans e435
  have e472 : f454 hst = .inl (E.2.1, 5, .inl g341) := (hF456 hst ap_hst_sta ap_hst_mo (ne_mem hqq2 m_hst)).trans e436
  have e473 : f454 inn = .inl (E.2.1, 5, .inl g126) := (hF456 inn ap_inn_sta ap_inn_mo (ne_mem hqq2 m_inn)).trans e437
  have e474 : f454 out = .inl (E.2.1, 5, .inl g127) := (hF456 out ap_out_sta ap_out_mo (ne_mem hqq2 m_out)).trans e438
  have e475 : f454 mac = .inl (E.1, 20, .inl g342) := (hF456 mac ap_mac_sta ap_mac_mo (ne_mem hqq2 m_mac)).trans e439
  have e476 : f454 o = .inr (1, [.ref un, .ref tw, .ref ke, .int (nI n402), .ref sta, .ref mo, .ref kp]) := (hF456 o (q_tag e440 e443 (show (1 : Nat) ≠ 1000 by decide)) (q_tag e440 e444 (show (1 : Nat) ≠ 1000 by decide)) (q_tag e440 e431 (show (1 : Nat) ≠ 1000 by decide))).trans e440
  have e477 : f454 tw = .inl (E.2.1, 256, .inl g_tw) := (hF456 tw ap_tw_sta ap_tw_mo (ne_mem hqq2 m_tw)).trans e441
  have e478 : f454 ke = .inl (E.2.1, 240, .inl g403) := (hF456 ke ap_ke_sta ap_ke_mo (ne_mem hqq2 m_ke)).trans e442
  have e479 : f454 tu = .inl (E.1, 20, .inl g343) := (hF456 tu ap_sta_tu.symm ap_mo_tu.symm (ne_mem hqq2 m_tu)).trans e445
  have e480 : f454 b = .inr (3, [.ref r, .int (nI n300)]) := (hF456 b (q_tag e446 e443 (show (3 : Nat) ≠ 1000 by decide)) (q_tag e446 e444 (show (3 : Nat) ≠ 1000 by decide)) (q_tag e446 e431 (show (3 : Nat) ≠ 1000 by decide))).trans e446
  have e481 : f454 r = .inl (E.1, N, .inl g301) := (hF456 r ap_sta_r.symm ap_mo_r.symm (ne_mem hqq2 m_r)).trans e447
  have e482 : f454 b2 = .inr (3, [.ref r2, .int (nI n3)]) := (hF456 b2 (q_tag e448 e443 (show (3 : Nat) ≠ 1000 by decide)) (q_tag e448 e444 (show (3 : Nat) ≠ 1000 by decide)) (q_tag e448 e431 (show (3 : Nat) ≠ 1000 by decide))).trans e448
  have e483 : f454 r2 = .inl (E.1, M, .inl g_r2) := (hF456 r2 ap_sta_r2.symm ap_mo_r2.symm (ne_mem hqq2 m_r2)).trans e449
  have e484 : f454 b3 = .inr (3, [.ref r3, .int (nI n5)]) := (hF456 b3 (q_tag e450 e443 (show (3 : Nat) ≠ 1000 by decide)) (q_tag e450 e444 (show (3 : Nat) ≠ 1000 by decide)) (q_tag e450 e431 (show (3 : Nat) ≠ 1000 by decide))).trans e450
  have e485 : f454 r3 = .inl (E.1, M3, .inl g_r3) := (hF456 r3 ap_sta_r3.symm ap_mo_r3.symm (ne_mem hqq2 m_r3)).trans e451
  have hF486 : ∀ x, x ∈ L → x ≠ ho → x ≠ wd → x ≠ bl → x ≠ hst → x ≠ mac → x ≠ inn → x ≠ out → x ≠ o → x ≠ ke → x ≠ sta → x ≠ mo → x ≠ tu → x ≠ b → x ≠ r → f454 x = f x := fun x hx h0 h1 h2 h3 h4 h5 h6 h7 h8 h9 h10 h11 h12 h13 => (hF456 x h9 h10 (ne_mem nl7 hx)).trans (hF452 x hx h0 h1 h2 h3 h4 h5 h6 h7 h8 h9 h10 h11 h12 h13)
  refine lv_aload X.1 X.2.1 d_Va_passwordKey_163 (lv_at hl 2 rfl) ?_
  refine W.cs (cells' := 1) (slots' := 32) (by omega) (by omega) ?_
  exact k_retr hQQ X Y hr (Or.inr ⟨_, rfl⟩) hlk ⟨s5, hF486, (n337), (n402), (n300), (v338), g339, g340, g341, g342, g126, g127, g403, g459, g460, g343, g301, g461, m6, nl7, hg344, hg345, hg404, hg462, hg463, hg346, h304, hg464, (by omega), (by omega), (by omega), e469, e470, e471, e472, e475, e473, e474, e476, e478, e465, e466, e479, e480, e481, e467⟩ d_Va_passwordKey_165
set_option maxHeartbeats 4000000 in
set_option maxRecDepth 100000 in
theorem c_Va_passwordKey17 (l : Launch) (D : va_G) (E : cE) (T : cT) (L : List Nat) (f : pF) (sz : Nat) (st0 : Nat) (a5 : Int32) (N M M3 v ho wd bl hst inn out mac o tw ke sta mo tu b r b2 r2 b3 r3 txo dro se coo deo un kp fl rd n n3 n5 : Nat) (now ssz cat crw tot : Int32) (g_wd g_bl g_hst g_inn g_out g_mac g_tw g_ke g_sta g_mo g_tu g_r g_r2 g_r3 : Nat → Int32) (m_v : v ∈ L) (m_ho : ho ∈ L) (m_wd : wd ∈ L) (m_bl : bl ∈ L) (m_hst : hst ∈ L) (m_inn : inn ∈ L) (m_out : out ∈ L) (m_mac : mac ∈ L) (m_o : o ∈ L) (m_tw : tw ∈ L) (m_ke : ke ∈ L) (m_sta : sta ∈ L) (m_mo : mo ∈ L) (m_tu : tu ∈ L) (m_b : b ∈ L) (m_r : r ∈ L) (m_b2 : b2 ∈ L) (m_r2 : r2 ∈ L) (m_b3 : b3 ∈ L) (m_r3 : r3 ∈ L) (e_v : f v = .inr (11, [.int now, .ref txo, .ref dro, .ref ho, .ref o, .ref se, .int ssz, .ref coo, .int cat, .int crw, .ref deo, .ref tu, .ref b])) (e_ho : f ho = .inr (6, [.ref wd, .ref bl, .ref hst, .ref inn, .ref out, .int (nI fl), .int tot, .ref mac])) (e_wd : f wd = .inl (E.2.1, 80, .inl g_wd)) (e_bl : f bl = .inl (E.1, 64, .inl g_bl)) (e_hst : f hst = .inl (E.2.1, 5, .inl g_hst)) (e_inn : f inn = .inl (E.2.1, 5, .inl g_inn)) (e_out : f out = .inl (E.2.1, 5, .inl g_out)) (e_mac : f mac = .inl (E.1, 20, .inl g_mac)) (e_o : f o = .inr (1, [.ref un, .ref tw, .ref ke, .int (nI rd), .ref sta, .ref mo, .ref kp])) (e_tw : f tw = .inl (E.2.1, 256, .inl g_tw)) (e_ke : f ke = .inl (E.2.1, 240, .inl g_ke)) (e_sta : f sta = .inl (E.2.1, 16, .inl g_sta)) (e_mo : f mo = .inl (E.2.1, 16, .inl g_mo)) (e_tu : f tu = .inl (E.1, 20, .inl g_tu)) (e_b : f b = .inr (3, [.ref r, .int (nI n)])) (e_r : f r = .inl (E.1, N, .inl g_r)) (e_b2 : f b2 = .inr (3, [.ref r2, .int (nI n3)])) (e_r2 : f r2 = .inl (E.1, M, .inl g_r2)) (e_b3 : f b3 = .inr (3, [.ref r3, .int (nI n5)])) (e_r3 : f r3 = .inl (E.1, M3, .inl g_r3)) (f_bl : fB g_bl) (f_mac : fB g_mac) (f_tw : by8 g_tw) (f_ke : by8 g_ke) (f_sta : by8 g_sta) (f_mo : by8 g_mo) (f_tu : fB g_tu) (f_r : fB g_r) (f_r2 : fB g_r2) (f_r3 : fB g_r3) (ap_wd_bl : wd ≠ bl) (ap_wd_hst : wd ≠ hst) (ap_wd_inn : wd ≠ inn) (ap_wd_out : wd ≠ out) (ap_wd_mac : wd ≠ mac) (ap_wd_tw : wd ≠ tw) (ap_wd_ke : wd ≠ ke) (ap_wd_sta : wd ≠ sta) (ap_wd_mo : wd ≠ mo) (ap_wd_tu : wd ≠ tu) (ap_wd_r : wd ≠ r) (ap_wd_r2 : wd ≠ r2) (ap_wd_r3 : wd ≠ r3) (ap_bl_hst : bl ≠ hst) (ap_bl_inn : bl ≠ inn) (ap_bl_out : bl ≠ out) (ap_bl_mac : bl ≠ mac) (ap_bl_tw : bl ≠ tw) (ap_bl_ke : bl ≠ ke) (ap_bl_sta : bl ≠ sta) (ap_bl_mo : bl ≠ mo) (ap_bl_tu : bl ≠ tu) (ap_bl_r : bl ≠ r) (ap_bl_r2 : bl ≠ r2) (ap_bl_r3 : bl ≠ r3) (ap_hst_inn : hst ≠ inn) (ap_hst_out : hst ≠ out) (ap_hst_mac : hst ≠ mac) (ap_hst_tw : hst ≠ tw) (ap_hst_ke : hst ≠ ke) (ap_hst_sta : hst ≠ sta) (ap_hst_mo : hst ≠ mo) (ap_hst_tu : hst ≠ tu) (ap_hst_r : hst ≠ r) (ap_hst_r2 : hst ≠ r2) (ap_hst_r3 : hst ≠ r3) (ap_inn_out : inn ≠ out) (ap_inn_mac : inn ≠ mac) (ap_inn_tw : inn ≠ tw) (ap_inn_ke : inn ≠ ke) (ap_inn_sta : inn ≠ sta) (ap_inn_mo : inn ≠ mo) (ap_inn_tu : inn ≠ tu) (ap_inn_r : inn ≠ r) (ap_inn_r2 : inn ≠ r2) (ap_inn_r3 : inn ≠ r3) (ap_out_mac : out ≠ mac) (ap_out_tw : out ≠ tw) (ap_out_ke : out ≠ ke) (ap_out_sta : out ≠ sta) (ap_out_mo : out ≠ mo) (ap_out_tu : out ≠ tu) (ap_out_r : out ≠ r) (ap_out_r2 : out ≠ r2) (ap_out_r3 : out ≠ r3) (ap_mac_tw : mac ≠ tw) (ap_mac_ke : mac ≠ ke) (ap_mac_sta : mac ≠ sta) (ap_mac_mo : mac ≠ mo) (ap_mac_tu : mac ≠ tu) (ap_mac_r : mac ≠ r) (ap_mac_r2 : mac ≠ r2) (ap_mac_r3 : mac ≠ r3) (ap_tw_ke : tw ≠ ke) (ap_tw_sta : tw ≠ sta) (ap_tw_mo : tw ≠ mo) (ap_tw_tu : tw ≠ tu) (ap_tw_r : tw ≠ r) (ap_tw_r2 : tw ≠ r2) (ap_tw_r3 : tw ≠ r3) (ap_ke_sta : ke ≠ sta) (ap_ke_mo : ke ≠ mo) (ap_ke_tu : ke ≠ tu) (ap_ke_r : ke ≠ r) (ap_ke_r2 : ke ≠ r2) (ap_ke_r3 : ke ≠ r3) (ap_sta_mo : sta ≠ mo) (ap_sta_tu : sta ≠ tu) (ap_sta_r : sta ≠ r) (ap_sta_r2 : sta ≠ r2) (ap_sta_r3 : sta ≠ r3) (ap_mo_tu : mo ≠ tu) (ap_mo_r : mo ≠ r) (ap_mo_r2 : mo ≠ r2) (ap_mo_r3 : mo ≠ r3) (ap_tu_r : tu ≠ r) (ap_tu_r2 : tu ≠ r2) (ap_tu_r3 : tu ≠ r3) (ap_b_b2 : b ≠ b2) (ap_b_b3 : b ≠ b3) (ap_r_r2 : r ≠ r2) (ap_r_r3 : r ≠ r3) (ap_b2_b3 : b2 ≠ b3) (ap_r2_r3 : r2 ≠ r3) (hh0 : n ≤ N) (hh1 : N < 100000) (hh2 : n3 ≤ M) (hh3 : M < 100000) (hh4 : n5 ≤ M3) (hh5 : M3 < 100000) (hh6 : st0 ≤ n5) (hh7 : fl < 64) (hh8 : rd ≤ 14) : Met l y_Va_passwordKey (k_Va_passwordKey :: lw_tg) (kRm 6 137 1 (16)) (va_Pc [.ref v, .int (nI 17), .ref b2, .ref b3, .int (nI st0), .int a5] (kPre D E T L f sz)) (va_Qr (fun _ : cU => True) (fun u ky t => (fun (ky : Nat) (u : cU) => (∀ x, x ∈ L → x ∈ u.1) ∧ (∀ x, x ∈ L → x ≠ ho → x ≠ wd → x ≠ bl → x ≠ hst → x ≠ mac → x ≠ inn → x ≠ out → x ≠ o → x ≠ ke → x ≠ sta → x ≠ mo → x ≠ tu → x ≠ b → x ≠ r → u.2 x = f x) ∧ ∃ (fl2 rd2 n2 : Nat) (tot2 : Int32) (k_wd k_bl k_hst k_mac k_inn k_out k_ke k_sta k_mo k_tu k_r k_ky : Nat → Int32), ky ∈ u.1 ∧ ky ∉ L ∧ fB k_bl ∧ fB k_mac ∧ by8 k_ke ∧ by8 k_sta ∧ by8 k_mo ∧ fB k_tu ∧ fB k_r ∧ fB k_ky ∧ (fl2 < 64) ∧ (rd2 ≤ 14) ∧ (n2 ≤ N) ∧ u.2 ho = .inr (6, [.ref wd, .ref bl, .ref hst, .ref inn, .ref out, .int (nI fl2), .int tot2, .ref mac]) ∧ u.2 wd = .inl (E.2.1, 80, .inl k_wd) ∧ u.2 bl = .inl (E.1, 64, .inl k_bl) ∧ u.2 hst = .inl (E.2.1, 5, .inl k_hst) ∧ u.2 mac = .inl (E.1, 20, .inl k_mac) ∧ u.2 inn = .inl (E.2.1, 5, .inl k_inn) ∧ u.2 out = .inl (E.2.1, 5, .inl k_out) ∧ u.2 o = .inr (1, [.ref un, .ref tw, .ref ke, .int (nI rd2), .ref sta, .ref mo, .ref kp]) ∧ u.2 ke = .inl (E.2.1, 240, .inl k_ke) ∧ u.2 sta = .inl (E.2.1, 16, .inl k_sta) ∧ u.2 mo = .inl (E.2.1, 16, .inl k_mo) ∧ u.2 tu = .inl (E.1, 20, .inl k_tu) ∧ u.2 b = .inr (3, [.ref r, .int (nI n2)]) ∧ u.2 r = .inl (E.1, N, .inl k_r) ∧ u.2 ky = .inl (E.1, 16, .inl k_ky)) ky u ∧ cPost D E (pA L sz) u t) (pA L sz)) 1 (16) (pA L sz) := by
  refine k_enter (own := R_Va) (by decide) rfl (Nat.le_of_ble_eq_true rfl) (fun p e s m below meth c ls AV QQ H locs hQQ X Y hA hin hr hlk hml hl KS KR => ?_)
  have hl : lv_has ls 9 [(0, .ref v), (1, .int (nI 17)), (2, .ref b2), (3, .ref b3), (4, .int (nI st0)), (5, .int a5)] := hl
  refine lv_iload_n X.1 X.2.1 d_Va_passwordKey_0 rfl (lv_at hl 1 rfl) ?_
  refine lv_bipush (v := (nI 18)) X.1 X.2.1 d_Va_passwordKey_1 (by decide) ?_
  refine lv_icmp_ne (tgt := 11) X.1 X.2.1 d_Va_passwordKey_3 (by decide) (fun c1 => ?_) (fun c1 => absurd c1 ?_)
  rotate_left
  · (rw [nI_eq (by omega) (by omega)] <;> omega)
  rw [nI_eq (by omega) (by omega)] at c1
  refine lv_bipush (v := (nI 16)) X.1 X.2.1 d_Va_passwordKey_11 (by decide) ?_
  refine q_newa X.1 X.2.1 (atype := .byte) (ty := .byte) rfl ra_byte (X.2.2.1 _ ar_byte) X.2.2.2.2 0 (cE := E.1) rfl Y hA (N := (16)) (a0 := (16, .inl (fun _ => 0))) (fun cA => vz_byte cA (16)) (nI_pos (by omega)) (nI_clamp (by omega)) (by decide) (show 0 + 1 ≤ 1 by omega) (show 0 + (16) ≤ (16) by omega) d_Va_passwordKey_13 (fun q2 H hqq2 Y => ?_)
  have Y : pH D cCl (pA L sz) s.heap (L ++ [q2]) (va_up f q2 (.inl (E.1, 16, .inl (fun _ => 0)))) H locs := Y
  have e9 : (va_up f q2 (.inl (E.1, 16, .inl (fun _ => 0)))) q2 = .inl (E.1, 16, .inl (fun _ => 0)) := q_up
  have e10 : (va_up f q2 (.inl (E.1, 16, .inl (fun _ => 0)))) v = .inr (11, [.int now, .ref txo, .ref dro, .ref ho, .ref o, .ref se, .int ssz, .ref coo, .int cat, .int crw, .ref deo, .ref tu, .ref b]) := (q_ne (ne_mem hqq2 m_v)).trans e_v
  have e11 : (va_up f q2 (.inl (E.1, 16, .inl (fun _ => 0)))) ho = .inr (6, [.ref wd, .ref bl, .ref hst, .ref inn, .ref out, .int (nI fl), .int tot, .ref mac]) := (q_ne (ne_mem hqq2 m_ho)).trans e_ho
  have e12 : (va_up f q2 (.inl (E.1, 16, .inl (fun _ => 0)))) wd = .inl (E.2.1, 80, .inl g_wd) := (q_ne (ne_mem hqq2 m_wd)).trans e_wd
  have e13 : (va_up f q2 (.inl (E.1, 16, .inl (fun _ => 0)))) bl = .inl (E.1, 64, .inl g_bl) := (q_ne (ne_mem hqq2 m_bl)).trans e_bl
  have e14 : (va_up f q2 (.inl (E.1, 16, .inl (fun _ => 0)))) hst = .inl (E.2.1, 5, .inl g_hst) := (q_ne (ne_mem hqq2 m_hst)).trans e_hst
  have e15 : (va_up f q2 (.inl (E.1, 16, .inl (fun _ => 0)))) inn = .inl (E.2.1, 5, .inl g_inn) := (q_ne (ne_mem hqq2 m_inn)).trans e_inn
  have e16 : (va_up f q2 (.inl (E.1, 16, .inl (fun _ => 0)))) out = .inl (E.2.1, 5, .inl g_out) := (q_ne (ne_mem hqq2 m_out)).trans e_out
  have e17 : (va_up f q2 (.inl (E.1, 16, .inl (fun _ => 0)))) mac = .inl (E.1, 20, .inl g_mac) := (q_ne (ne_mem hqq2 m_mac)).trans e_mac
  have e18 : (va_up f q2 (.inl (E.1, 16, .inl (fun _ => 0)))) o = .inr (1, [.ref un, .ref tw, .ref ke, .int (nI rd), .ref sta, .ref mo, .ref kp]) := (q_ne (ne_mem hqq2 m_o)).trans e_o
  have e19 : (va_up f q2 (.inl (E.1, 16, .inl (fun _ => 0)))) tw = .inl (E.2.1, 256, .inl g_tw) := (q_ne (ne_mem hqq2 m_tw)).trans e_tw
  have e20 : (va_up f q2 (.inl (E.1, 16, .inl (fun _ => 0)))) ke = .inl (E.2.1, 240, .inl g_ke) := (q_ne (ne_mem hqq2 m_ke)).trans e_ke
  have e21 : (va_up f q2 (.inl (E.1, 16, .inl (fun _ => 0)))) sta = .inl (E.2.1, 16, .inl g_sta) := (q_ne (ne_mem hqq2 m_sta)).trans e_sta
  have e22 : (va_up f q2 (.inl (E.1, 16, .inl (fun _ => 0)))) mo = .inl (E.2.1, 16, .inl g_mo) := (q_ne (ne_mem hqq2 m_mo)).trans e_mo
  have e23 : (va_up f q2 (.inl (E.1, 16, .inl (fun _ => 0)))) tu = .inl (E.1, 20, .inl g_tu) := (q_ne (ne_mem hqq2 m_tu)).trans e_tu
  have e24 : (va_up f q2 (.inl (E.1, 16, .inl (fun _ => 0)))) b = .inr (3, [.ref r, .int (nI n)]) := (q_ne (ne_mem hqq2 m_b)).trans e_b
  have e25 : (va_up f q2 (.inl (E.1, 16, .inl (fun _ => 0)))) r = .inl (E.1, N, .inl g_r) := (q_ne (ne_mem hqq2 m_r)).trans e_r
  have e26 : (va_up f q2 (.inl (E.1, 16, .inl (fun _ => 0)))) b2 = .inr (3, [.ref r2, .int (nI n3)]) := (q_ne (ne_mem hqq2 m_b2)).trans e_b2
  have e27 : (va_up f q2 (.inl (E.1, 16, .inl (fun _ => 0)))) r2 = .inl (E.1, M, .inl g_r2) := (q_ne (ne_mem hqq2 m_r2)).trans e_r2
  have e28 : (va_up f q2 (.inl (E.1, 16, .inl (fun _ => 0)))) b3 = .inr (3, [.ref r3, .int (nI n5)]) := (q_ne (ne_mem hqq2 m_b3)).trans e_b3
  have e29 : (va_up f q2 (.inl (E.1, 16, .inl (fun _ => 0)))) r3 = .inl (E.1, M3, .inl g_r3) := (q_ne (ne_mem hqq2 m_r3)).trans e_r3
  have nl7 : q2 ∉ L := fun h9 => hqq2 h9
  have hF30 : ∀ x, x ∈ L → x ≠ ho → x ≠ wd → x ≠ bl → x ≠ hst → x ≠ mac → x ≠ inn → x ≠ out → x ≠ o → x ≠ ke → x ≠ sta → x ≠ mo → x ≠ tu → x ≠ b → x ≠ r → (va_up f q2 (.inl (E.1, 16, .inl (fun _ => 0)))) x = f x := fun x hx h0 h1 h2 h3 h4 h5 h6 h7 h8 h9 h10 h11 h12 h13 => (q_ne (ne_mem nl7 hx)).trans rfl
  generalize (va_up f q2 (.inl (E.1, 16, .inl (fun _ => 0)))) = f8 at Y e9 e10 e11 e12 e13 e14 e15 e16 e17 e18 e19 e20 e21 e22 e23 e24 e25 e26 e27 e28 e29 hF30
  have s5 : ∀ x, x ∈ L → x ∈ L ++ [q2] := fun x hx => List.mem_append_left _ hx
  have m31 : v ∈ L ++ [q2] := List.mem_append_left _ m_v
  have m32 : ho ∈ L ++ [q2] := List.mem_append_left _ m_ho
  have m33 : wd ∈ L ++ [q2] := List.mem_append_left _ m_wd
  have m34 : bl ∈ L ++ [q2] := List.mem_append_left _ m_bl
  have m35 : hst ∈ L ++ [q2] := List.mem_append_left _ m_hst
  have m36 : inn ∈ L ++ [q2] := List.mem_append_left _ m_inn
  have m37 : out ∈ L ++ [q2] := List.mem_append_left _ m_out
  have m38 : mac ∈ L ++ [q2] := List.mem_append_left _ m_mac
  have m39 : o ∈ L ++ [q2] := List.mem_append_left _ m_o
  have m40 : tw ∈ L ++ [q2] := List.mem_append_left _ m_tw
  have m41 : ke ∈ L ++ [q2] := List.mem_append_left _ m_ke
  have m42 : sta ∈ L ++ [q2] := List.mem_append_left _ m_sta
  have m43 : mo ∈ L ++ [q2] := List.mem_append_left _ m_mo
  have m44 : tu ∈ L ++ [q2] := List.mem_append_left _ m_tu
  have m45 : b ∈ L ++ [q2] := List.mem_append_left _ m_b
  have m46 : r ∈ L ++ [q2] := List.mem_append_left _ m_r
  have m47 : b2 ∈ L ++ [q2] := List.mem_append_left _ m_b2
  have m48 : r2 ∈ L ++ [q2] := List.mem_append_left _ m_r2
  have m49 : b3 ∈ L ++ [q2] := List.mem_append_left _ m_b3
  have m50 : r3 ∈ L ++ [q2] := List.mem_append_left _ m_r3
  have m6 : q2 ∈ L ++ [q2] := List.mem_append_right _ (List.mem_singleton.mpr rfl)
  generalize L ++ [q2] = L3 at Y s5 m31 m32 m33 m34 m35 m36 m37 m38 m39 m40 m41 m42 m43 m44 m45 m46 m47 m48 m49 m50 m6
  refine lv_astore (lv' := [(6, .ref q2), (0, .ref v), (1, .int (nI 17)), (2, .ref b2), (3, .ref b3), (4, .int (nI st0)), (5, .int a5)]) X.1 X.2.1 d_Va_passwordKey_15 hl (by decide) rfl (fun ls hl => ?_)
  refine lv_aload_n X.1 X.2.1 d_Va_passwordKey_17 rfl (lv_at hl 1 rfl) ?_
  refine q_get X.1 X.2.1 X.2.2.1 i_Va X.2.2.2.1 X.2.2.2.2 Y m31 e10 rfl 12 (by decide) (X.2.2.1 _ lk_Va_58) (fun _ h9 => h9) rfl d_Va_passwordKey_18 ?_
  refine x_v (x_runV (As := []) (rest := []) (n := 0) X Y hml hl.1 (c_By_clear l D E L3 f8 H.size  b r (N) (n) g_r m45 e24 m46 e25 (by omega) (by omega) f_r) (ok_c X Y) m45 e24 rfl kl_Va_By_clear ks_By_clear kx_By_clear ki_By_clear ini_By ⟨rfl, rfl⟩ hd_By_clear ⟨by decide, by decide⟩ rfl (Nat.le_of_ble_eq_true rfl) d_Va_passwordKey_21 ⟨(show 1 + 0 ≤ 1 by omega), (show 16 + (0) ≤ (16) by omega)⟩) X Y hA (fun u H locs hp Y => ?_)
  obtain ⟨L52, f51⟩ := u
  obtain ⟨eL62, hF53, n54, g55, h57, h58, h59, e60, e61⟩ := hp
  dsimp only at eL62 hF53 e60 e61 Y
  rw [eL62] at Y
  have e64 : f51 v = .inr (11, [.int now, .ref txo, .ref dro, .ref ho, .ref o, .ref se, .int ssz, .ref coo, .int cat, .int crw, .ref deo, .ref tu, .ref b]) := (hF53 v (q_tag e10 e24 (show (11 : Nat) ≠ 3 by decide)) (q_tag e10 e25 (show (11 : Nat) ≠ 1000 by decide))).trans e10
  have e65 : f51 ho = .inr (6, [.ref wd, .ref bl, .ref hst, .ref inn, .ref out, .int (nI fl), .int tot, .ref mac]) := (hF53 ho (q_tag e11 e24 (show (6 : Nat) ≠ 3 by decide)) (q_tag e11 e25 (show (6 : Nat) ≠ 1000 by decide))).trans e11
  have e66 : f51 wd = .inl (E.2.1, 80, .inl g_wd) := (hF53 wd (q_tag e12 e24 (show (1000 : Nat) ≠ 3 by decide)) ap_wd_r).trans e12
  have e67 : f51 bl = .inl (E.1, 64, .inl g_bl) := (hF53 bl (q_tag e13 e24 (show (1000 : Nat) ≠ 3 by decide)) ap_bl_r).trans e13
  have e68 : f51 hst = .inl (E.2.1, 5, .inl g_hst) := (hF53 hst (q_tag e14 e24 (show (1000 : Nat) ≠ 3 by decide)) ap_hst_r).trans e14
  have e69 : f51 inn = .inl (E.2.1, 5, .inl g_inn) := (hF53 inn (q_tag e15 e24 (show (1000 : Nat) ≠ 3 by decide)) ap_inn_r).trans e15
  have e70 : f51 out = .inl (E.2.1, 5, .inl g_out) := (hF53 out (q_tag e16 e24 (show (1000 : Nat) ≠ 3 by decide)) ap_out_r).trans e16
  have e71 : f51 mac = .inl (E.1, 20, .inl g_mac) := (hF53 mac (q_tag e17 e24 (show (1000 : Nat) ≠ 3 by decide)) ap_mac_r).trans e17
  have e72 : f51 o = .inr (1, [.ref un, .ref tw, .ref ke, .int (nI rd), .ref sta, .ref mo, .ref kp]) := (hF53 o (q_tag e18 e24 (show (1 : Nat) ≠ 3 by decide)) (q_tag e18 e25 (show (1 : Nat) ≠ 1000 by decide))).trans e18
  have e73 : f51 tw = .inl (E.2.1, 256, .inl g_tw) := (hF53 tw (q_tag e19 e24 (show (1000 : Nat) ≠ 3 by decide)) ap_tw_r).trans e19
  have e74 : f51 ke = .inl (E.2.1, 240, .inl g_ke) := (hF53 ke (q_tag e20 e24 (show (1000 : Nat) ≠ 3 by decide)) ap_ke_r).trans e20
  have e75 : f51 sta = .inl (E.2.1, 16, .inl g_sta) := (hF53 sta (q_tag e21 e24 (show (1000 : Nat) ≠ 3 by decide)) ap_sta_r).trans e21
  have e76 : f51 mo = .inl (E.2.1, 16, .inl g_mo) := (hF53 mo (q_tag e22 e24 (show (1000 : Nat) ≠ 3 by decide)) ap_mo_r).trans e22
  have e77 : f51 tu = .inl (E.1, 20, .inl g_tu) := (hF53 tu (q_tag e23 e24 (show (1000 : Nat) ≠ 3 by decide)) ap_tu_r).trans e23
  have e78 : f51 b2 = .inr (3, [.ref r2, .int (nI n3)]) := (hF53 b2 ap_b_b2.symm (q_tag e26 e25 (show (3 : Nat) ≠ 1000 by decide))).trans e26
  have e79 : f51 r2 = .inl (E.1, M, .inl g_r2) := (hF53 r2 (q_tag e27 e24 (show (1000 : Nat) ≠ 3 by decide)) ap_r_r2.symm).trans e27
  have e80 : f51 b3 = .inr (3, [.ref r3, .int (nI n5)]) := (hF53 b3 ap_b_b3.symm (q_tag e28 e25 (show (3 : Nat) ≠ 1000 by decide))).trans e28
  have e81 : f51 r3 = .inl (E.1, M3, .inl g_r3) := (hF53 r3 (q_tag e29 e24 (show (1000 : Nat) ≠ 3 by decide)) ap_r_r3.symm).trans e29
  have e82 : f51 q2 = .inl (E.1, 16, .inl (fun _ => 0)) := (hF53 q2 (q_tag e9 e24 (show (1000 : Nat) ≠ 3 by decide)) (ne_mem hqq2 m_r).symm).trans e9
  have hF83 : ∀ x, x ∈ L → x ≠ ho → x ≠ wd → x ≠ bl → x ≠ hst → x ≠ mac → x ≠ inn → x ≠ out → x ≠ o → x ≠ ke → x ≠ sta → x ≠ mo → x ≠ tu → x ≠ b → x ≠ r → f51 x = f x := fun x hx h0 h1 h2 h3 h4 h5 h6 h7 h8 h9 h10 h11 h12 h13 => (hF53 x h12 h13).trans (hF30 x hx h0 h1 h2 h3 h4 h5 h6 h7 h8 h9 h10 h11 h12 h13)
  refine lv_aload_n X.1 X.2.1 d_Va_passwordKey_24 rfl (lv_at hl 1 rfl) ?_
  refine q_get X.1 X.2.1 X.2.2.1 i_Va X.2.2.2.1 X.2.2.2.2 Y m31 e64 rfl 12 (by decide) (X.2.2.1 _ lk_Va_58) (fun _ h9 => h9) rfl d_Va_passwordKey_25 ?_
  refine lv_aload_n X.1 X.2.1 d_Va_passwordKey_28 rfl (lv_at hl 3 rfl) ?_
  refine x_v (x_runS (As := [.ref b, .ref b2]) (rest := []) (n := 2) X hml hl.1 (c_Va_putSalt l D E T L3 f51 H.size (N) (M) b r b2 r2 (n54) (n3) g55 g_r2 m45 m46 m47 m48 e60 e61 e78 e79 h58 f_r2 ap_b_b2 ap_r_r2 (by omega) (by omega) (by omega) (by omega)) (ok_k X Y hA KS KR) kl_Va_Va_putSalt ks_Va_putSalt ki_Va_putSalt ini_Va ⟨rfl, rfl⟩ hd_Va_putSalt.2 ⟨by decide, by decide⟩ rfl (Nat.le_of_ble_eq_true rfl) d_Va_passwordKey_29 ⟨(show 1 + 0 ≤ 1 by omega), (show 16 + (0) ≤ (16) by omega)⟩) X Y hA (fun u H locs hp Y => ?_)
  obtain ⟨L86, f85⟩ := u
  obtain ⟨eL88, hF87, n90, g91, hg92, h93, h94, e95, e96⟩ := hp
  dsimp only at eL88 hF87 e95 e96 Y
  rw [eL88] at Y
  have e97 : f85 v = .inr (11, [.int now, .ref txo, .ref dro, .ref ho, .ref o, .ref se, .int ssz, .ref coo, .int cat, .int crw, .ref deo, .ref tu, .ref b]) := (hF87 v (q_tag e64 e60 (show (11 : Nat) ≠ 3 by decide)) (q_tag e64 e61 (show (11 : Nat) ≠ 1000 by decide))).trans e64
  have e98 : f85 ho = .inr (6, [.ref wd, .ref bl, .ref hst, .ref inn, .ref out, .int (nI fl), .int tot, .ref mac]) := (hF87 ho (q_tag e65 e60 (show (6 : Nat) ≠ 3 by decide)) (q_tag e65 e61 (show (6 : Nat) ≠ 1000 by decide))).trans e65
  have e99 : f85 wd = .inl (E.2.1, 80, .inl g_wd) := (hF87 wd (q_tag e66 e60 (show (1000 : Nat) ≠ 3 by decide)) ap_wd_r).trans e66
  have e100 : f85 bl = .inl (E.1, 64, .inl g_bl) := (hF87 bl (q_tag e67 e60 (show (1000 : Nat) ≠ 3 by decide)) ap_bl_r).trans e67
  have e101 : f85 hst = .inl (E.2.1, 5, .inl g_hst) := (hF87 hst (q_tag e68 e60 (show (1000 : Nat) ≠ 3 by decide)) ap_hst_r).trans e68
  have e102 : f85 inn = .inl (E.2.1, 5, .inl g_inn) := (hF87 inn (q_tag e69 e60 (show (1000 : Nat) ≠ 3 by decide)) ap_inn_r).trans e69
  have e103 : f85 out = .inl (E.2.1, 5, .inl g_out) := (hF87 out (q_tag e70 e60 (show (1000 : Nat) ≠ 3 by decide)) ap_out_r).trans e70
  have e104 : f85 mac = .inl (E.1, 20, .inl g_mac) := (hF87 mac (q_tag e71 e60 (show (1000 : Nat) ≠ 3 by decide)) ap_mac_r).trans e71
  have e105 : f85 o = .inr (1, [.ref un, .ref tw, .ref ke, .int (nI rd), .ref sta, .ref mo, .ref kp]) := (hF87 o (q_tag e72 e60 (show (1 : Nat) ≠ 3 by decide)) (q_tag e72 e61 (show (1 : Nat) ≠ 1000 by decide))).trans e72
  have e106 : f85 tw = .inl (E.2.1, 256, .inl g_tw) := (hF87 tw (q_tag e73 e60 (show (1000 : Nat) ≠ 3 by decide)) ap_tw_r).trans e73
  have e107 : f85 ke = .inl (E.2.1, 240, .inl g_ke) := (hF87 ke (q_tag e74 e60 (show (1000 : Nat) ≠ 3 by decide)) ap_ke_r).trans e74
  have e108 : f85 sta = .inl (E.2.1, 16, .inl g_sta) := (hF87 sta (q_tag e75 e60 (show (1000 : Nat) ≠ 3 by decide)) ap_sta_r).trans e75
  have e109 : f85 mo = .inl (E.2.1, 16, .inl g_mo) := (hF87 mo (q_tag e76 e60 (show (1000 : Nat) ≠ 3 by decide)) ap_mo_r).trans e76
  have e110 : f85 tu = .inl (E.1, 20, .inl g_tu) := (hF87 tu (q_tag e77 e60 (show (1000 : Nat) ≠ 3 by decide)) ap_tu_r).trans e77
  have e111 : f85 b2 = .inr (3, [.ref r2, .int (nI n3)]) := (hF87 b2 ap_b_b2.symm (q_tag e78 e61 (show (3 : Nat) ≠ 1000 by decide))).trans e78
  have e112 : f85 r2 = .inl (E.1, M, .inl g_r2) := (hF87 r2 (q_tag e79 e60 (show (1000 : Nat) ≠ 3 by decide)) ap_r_r2.symm).trans e79
  have e113 : f85 b3 = .inr (3, [.ref r3, .int (nI n5)]) := (hF87 b3 ap_b_b3.symm (q_tag e80 e61 (show (3 : Nat) ≠ 1000 by decide))).trans e80
  have e114 : f85 r3 = .inl (E.1, M3, .inl g_r3) := (hF87 r3 (q_tag e81 e60 (show (1000 : Nat) ≠ 3 by decide)) ap_r_r3.symm).trans e81
  have e115 : f85 q2 = .inl (E.1, 16, .inl (fun _ => 0)) := (hF87 q2 (q_tag e82 e60 (show (1000 : Nat) ≠ 3 by decide)) (ne_mem hqq2 m_r).symm).trans e82
  have hF116 : ∀ x, x ∈ L → x ≠ ho → x ≠ wd → x ≠ bl → x ≠ hst → x ≠ mac → x ≠ inn → x ≠ out → x ≠ o → x ≠ ke → x ≠ sta → x ≠ mo → x ≠ tu → x ≠ b → x ≠ r → f85 x = f x := fun x hx h0 h1 h2 h3 h4 h5 h6 h7 h8 h9 h10 h11 h12 h13 => (hF87 x h12 h13).trans (hF83 x hx h0 h1 h2 h3 h4 h5 h6 h7 h8 h9 h10 h11 h12 h13)
  refine lv_aload_n X.1 X.2.1 d_Va_passwordKey_32 rfl (lv_at hl 1 rfl) ?_
  refine q_get X.1 X.2.1 X.2.2.1 i_Va X.2.2.2.1 X.2.2.2.2 Y m31 e97 rfl 12 (by decide) (X.2.2.1 _ lk_Va_58) (fun _ h9 => h9) rfl d_Va_passwordKey_33 ?_
  refine q_get X.1 X.2.1 X.2.2.1 i_By X.2.2.2.1 X.2.2.2.2 Y m45 e95 rfl 1 (by decide) (X.2.2.1 _ lk_Va_77) (fun _ h9 => h9) rfl d_Va_passwordKey_36 ?_
  refine lv_istore (lv' := [(7, .int (nI n90)), (6, .ref q2), (0, .ref v), (1, .int (nI 17)), (2, .ref b2), (3, .ref b3), (4, .int (nI st0)), (5, .int a5)]) X.1 X.2.1 d_Va_passwordKey_39 hl (by decide) rfl (fun ls hl => ?_)
  refine lv_aload_n X.1 X.2.1 d_Va_passwordKey_41 rfl (lv_at hl 2 rfl) ?_
  refine q_get X.1 X.2.1 X.2.2.1 i_Va X.2.2.2.1 X.2.2.2.2 Y m31 e97 rfl 3 (by decide) (X.2.2.1 _ lk_Va_31) (fun _ h9 => h9) rfl d_Va_passwordKey_42 ?_
  refine lv_aload_n X.1 X.2.1 d_Va_passwordKey_45 rfl (lv_at hl 5 rfl) ?_
  refine q_get X.1 X.2.1 X.2.2.1 i_By X.2.2.2.1 X.2.2.2.2 Y m49 e113 rfl 0 (by decide) (X.2.2.1 _ lk_Va_86) (fun _ h9 => h9) rfl d_Va_passwordKey_46 ?_
  refine lv_iload X.1 X.2.1 d_Va_passwordKey_49 (lv_at hl 6 rfl) ?_
  refine lv_aload_n X.1 X.2.1 d_Va_passwordKey_51 rfl (lv_at hl 5 rfl) ?_
  refine q_get X.1 X.2.1 X.2.2.1 i_By X.2.2.2.1 X.2.2.2.2 Y m49 e113 rfl 1 (by decide) (X.2.2.1 _ lk_Va_77) (fun _ h9 => h9) rfl d_Va_passwordKey_52 ?_
  refine lv_iload X.1 X.2.1 d_Va_passwordKey_55 (lv_at hl 6 rfl) ?_
  refine lv_isub X.1 X.2.1 d_Va_passwordKey_57 ?_
  refine t_eq (y := nI (n5 - (st0))) (pk_sub (by omega)) ?_
  refine x_v (x_runV (As := [.ref r3, .int (nI st0), .int (nI (n5 - (st0)))]) (rest := []) (n := 3) X Y hml hl.1 (c_Ha_setKey l D E L3 f85 H.size (M3) (st0) (nI (n5 - (st0))) ho wd bl hst inn out mac r3 (fl) (tot) g_wd g_bl g_hst g_inn g_out g_mac g_r3 m32 m33 m34 m35 m36 m37 m38 m50 e98 e99 e100 e101 e102 e103 e104 e114 f_bl f_mac f_r3 ap_wd_bl ap_wd_hst ap_wd_inn ap_wd_out ap_wd_mac ap_wd_r3 ap_bl_hst ap_bl_inn ap_bl_out ap_bl_mac ap_bl_r3 ap_hst_inn ap_hst_out ap_hst_mac ap_hst_r3 ap_inn_out ap_inn_mac ap_inn_r3 ap_out_mac ap_out_r3 ap_mac_r3 (by omega) (by omega)) (ok_c X Y) m32 e98 rfl kl_Va_Ha_setKey ks_Ha_setKey kx_Ha_setKey ki_Ha_setKey ini_Ha ⟨rfl, rfl⟩ hd_Ha_setKey ⟨by decide, by decide⟩ rfl (Nat.le_of_ble_eq_true rfl) d_Va_passwordKey_58 ⟨(show 1 + 0 ≤ 1 by omega), (show 16 + (0) ≤ (16) by omega)⟩) X Y hA (fun u H locs hp Y => ?_)
  obtain ⟨L118, f117⟩ := u
  obtain ⟨eL121, hF119, g123, g124, g125, g126, g127, hg128, e129, e130, e131, e132, e133⟩ := hp
  dsimp only at eL121 hF119 e129 e130 e131 e132 e133 Y
  rw [eL121] at Y
  have e134 : f117 v = .inr (11, [.int now, .ref txo, .ref dro, .ref ho, .ref o, .ref se, .int ssz, .ref coo, .int cat, .int crw, .ref deo, .ref tu, .ref b]) := (hF119 v (q_tag e97 e99 (show (11 : Nat) ≠ 1000 by decide)) (q_tag e97 e100 (show (11 : Nat) ≠ 1000 by decide)) (q_tag e97 e101 (show (11 : Nat) ≠ 1000 by decide)) (q_tag e97 e102 (show (11 : Nat) ≠ 1000 by decide)) (q_tag e97 e103 (show (11 : Nat) ≠ 1000 by decide))).trans e97
  have e135 : f117 ho = .inr (6, [.ref wd, .ref bl, .ref hst, .ref inn, .ref out, .int (nI fl), .int tot, .ref mac]) := (hF119 ho (q_tag e98 e99 (show (6 : Nat) ≠ 1000 by decide)) (q_tag e98 e100 (show (6 : Nat) ≠ 1000 by decide)) (q_tag e98 e101 (show (6 : Nat) ≠ 1000 by decide)) (q_tag e98 e102 (show (6 : Nat) ≠ 1000 by decide)) (q_tag e98 e103 (show (6 : Nat) ≠ 1000 by decide))).trans e98
  have e136 : f117 mac = .inl (E.1, 20, .inl g_mac) := (hF119 mac ap_wd_mac.symm ap_bl_mac.symm ap_hst_mac.symm ap_inn_mac.symm ap_out_mac.symm).trans e104
  have e137 : f117 o = .inr (1, [.ref un, .ref tw, .ref ke, .int (nI rd), .ref sta, .ref mo, .ref kp]) := (hF119 o (q_tag e105 e99 (show (1 : Nat) ≠ 1000 by decide)) (q_tag e105 e100 (show (1 : Nat) ≠ 1000 by decide)) (q_tag e105 e101 (show (1 : Nat) ≠ 1000 by decide)) (q_tag e105 e102 (show (1 : Nat) ≠ 1000 by decide)) (q_tag e105 e103 (show (1 : Nat) ≠ 1000 by decide))).trans e105
  have e138 : f117 tw = .inl (E.2.1, 256, .inl g_tw) := (hF119 tw ap_wd_tw.symm ap_bl_tw.symm ap_hst_tw.symm ap_inn_tw.symm ap_out_tw.symm).trans e106
  have e139 : f117 ke = .inl (E.2.1, 240, .inl g_ke) := (hF119 ke ap_wd_ke.symm ap_bl_ke.symm ap_hst_ke.symm ap_inn_ke.symm ap_out_ke.symm).trans e107
  have e140 : f117 sta = .inl (E.2.1, 16, .inl g_sta) := (hF119 sta ap_wd_sta.symm ap_bl_sta.symm ap_hst_sta.symm ap_inn_sta.symm ap_out_sta.symm).trans e108
  have e141 : f117 mo = .inl (E.2.1, 16, .inl g_mo) := (hF119 mo ap_wd_mo.symm ap_bl_mo.symm ap_hst_mo.symm ap_inn_mo.symm ap_out_mo.symm).trans e109
  have e142 : f117 tu = .inl (E.1, 20, .inl g_tu) := (hF119 tu ap_wd_tu.symm ap_bl_tu.symm ap_hst_tu.symm ap_inn_tu.symm ap_out_tu.symm).trans e110
  have e143 : f117 b = .inr (3, [.ref r, .int (nI n90)]) := (hF119 b (q_tag e95 e99 (show (3 : Nat) ≠ 1000 by decide)) (q_tag e95 e100 (show (3 : Nat) ≠ 1000 by decide)) (q_tag e95 e101 (show (3 : Nat) ≠ 1000 by decide)) (q_tag e95 e102 (show (3 : Nat) ≠ 1000 by decide)) (q_tag e95 e103 (show (3 : Nat) ≠ 1000 by decide))).trans e95
  have e144 : f117 r = .inl (E.1, N, .inl g91) := (hF119 r ap_wd_r.symm ap_bl_r.symm ap_hst_r.symm ap_inn_r.symm ap_out_r.symm).trans e96
  have e145 : f117 b2 = .inr (3, [.ref r2, .int (nI n3)]) := (hF119 b2 (q_tag e111 e99 (show (3 : Nat) ≠ 1000 by decide)) (q_tag e111 e100 (show (3 : Nat) ≠ 1000 by decide)) (q_tag e111 e101 (show (3 : Nat) ≠ 1000 by decide)) (q_tag e111 e102 (show (3 : Nat) ≠ 1000 by decide)) (q_tag e111 e103 (show (3 : Nat) ≠ 1000 by decide))).trans e111
  have e146 : f117 r2 = .inl (E.1, M, .inl g_r2) := (hF119 r2 ap_wd_r2.symm ap_bl_r2.symm ap_hst_r2.symm ap_inn_r2.symm ap_out_r2.symm).trans e112
  have e147 : f117 b3 = .inr (3, [.ref r3, .int (nI n5)]) := (hF119 b3 (q_tag e113 e99 (show (3 : Nat) ≠ 1000 by decide)) (q_tag e113 e100 (show (3 : Nat) ≠ 1000 by decide)) (q_tag e113 e101 (show (3 : Nat) ≠ 1000 by decide)) (q_tag e113 e102 (show (3 : Nat) ≠ 1000 by decide)) (q_tag e113 e103 (show (3 : Nat) ≠ 1000 by decide))).trans e113
  have e148 : f117 r3 = .inl (E.1, M3, .inl g_r3) := (hF119 r3 ap_wd_r3.symm ap_bl_r3.symm ap_hst_r3.symm ap_inn_r3.symm ap_out_r3.symm).trans e114
  have e149 : f117 q2 = .inl (E.1, 16, .inl (fun _ => 0)) := (hF119 q2 (ne_mem hqq2 m_wd).symm (ne_mem hqq2 m_bl).symm (ne_mem hqq2 m_hst).symm (ne_mem hqq2 m_inn).symm (ne_mem hqq2 m_out).symm).trans e115
  have hF150 : ∀ x, x ∈ L → x ≠ ho → x ≠ wd → x ≠ bl → x ≠ hst → x ≠ mac → x ≠ inn → x ≠ out → x ≠ o → x ≠ ke → x ≠ sta → x ≠ mo → x ≠ tu → x ≠ b → x ≠ r → f117 x = f x := fun x hx h0 h1 h2 h3 h4 h5 h6 h7 h8 h9 h10 h11 h12 h13 => (hF119 x h1 h2 h3 h5 h6).trans (hF116 x hx h0 h1 h2 h3 h4 h5 h6 h7 h8 h9 h10 h11 h12 h13)
  refine lv_iconst (v := (nI 0)) X.1 X.2.1 d_Va_passwordKey_61 (by decide) ?_
  refine lv_istore (lv' := [(8, .int (nI 0)), (7, .int (nI n90)), (6, .ref q2), (0, .ref v), (1, .int (nI 17)), (2, .ref b2), (3, .ref b3), (4, .int (nI st0)), (5, .int a5)]) X.1 X.2.1 d_Va_passwordKey_62 hl (by decide) rfl (fun ls hl => ?_)
  refine lv_iload X.1 X.2.1 d_Va_passwordKey_64 (lv_at hl 0 rfl) ?_
  refine lv_aload X.1 X.2.1 d_Va_passwordKey_66 (lv_at hl 2 rfl) ?_
  refine q_alen X.1 X.2.1 X.2.2.2.2 Y 0 m6 e149 rfl (v := nI (16)) rfl d_Va_passwordKey_68 ?_
  refine lv_icmp_ge (tgt := 130) X.1 X.2.1 d_Va_passwordKey_69 (by decide) (fun c151 => absurd c151 ?_) (fun c151 => ?_)
  · (rw [nI_leI (by omega) (by omega)] <;> omega)
  rw [nI_leI (by omega) (by omega)] at c151
  refine lv_aload_n X.1 X.2.1 d_Va_passwordKey_72 rfl (lv_at hl 3 rfl) ?_
  refine q_get X.1 X.2.1 X.2.2.1 i_Va X.2.2.2.1 X.2.2.2.2 Y m31 e134 rfl 12 (by decide) (X.2.2.1 _ lk_Va_58) (fun _ h9 => h9) rfl d_Va_passwordKey_73 ?_
  refine lv_iload X.1 X.2.1 d_Va_passwordKey_76 (lv_at hl 1 rfl) ?_
  refine q_put X.1 X.2.1 X.2.2.1 i_By t_By t_By_ok n_By X.2.2.2.1 X.2.2.2.2 Y m45 e143 rfl 1 (by decide) (X.2.2.1 _ lk_Va_77) (fun _ h9 => h9) rfl (t_By_ok 1 (by decide)) rfl rfl (Nat.le_of_ble_eq_true rfl) d_Va_passwordKey_78 (fun H locs Y => ?_)
  have e153 : (va_up f117 b (.inr (3, [.ref r, .int (nI n90)]))) b = .inr (3, [.ref r, .int (nI n90)]) := q_up
  have e154 : (va_up f117 b (.inr (3, [.ref r, .int (nI n90)]))) v = .inr (11, [.int now, .ref txo, .ref dro, .ref ho, .ref o, .ref se, .int ssz, .ref coo, .int cat, .int crw, .ref deo, .ref tu, .ref b]) := (q_ne (q_tag e134 e143 (show (11 : Nat) ≠ 3 by decide))).trans e134
  have e155 : (va_up f117 b (.inr (3, [.ref r, .int (nI n90)]))) ho = .inr (6, [.ref wd, .ref bl, .ref hst, .ref inn, .ref out, .int (nI fl), .int tot, .ref mac]) := (q_ne (q_tag e135 e143 (show (6 : Nat) ≠ 3 by decide))).trans e135
  have e156 : (va_up f117 b (.inr (3, [.ref r, .int (nI n90)]))) wd = .inl (E.2.1, 80, .inl g123) := (q_ne (q_tag e129 e143 (show (1000 : Nat) ≠ 3 by decide))).trans e129
  have e157 : (va_up f117 b (.inr (3, [.ref r, .int (nI n90)]))) bl = .inl (E.1, 64, .inl g124) := (q_ne (q_tag e130 e143 (show (1000 : Nat) ≠ 3 by decide))).trans e130
  have e158 : (va_up f117 b (.inr (3, [.ref r, .int (nI n90)]))) hst = .inl (E.2.1, 5, .inl g125) := (q_ne (q_tag e131 e143 (show (1000 : Nat) ≠ 3 by decide))).trans e131
  have e159 : (va_up f117 b (.inr (3, [.ref r, .int (nI n90)]))) inn = .inl (E.2.1, 5, .inl g126) := (q_ne (q_tag e132 e143 (show (1000 : Nat) ≠ 3 by decide))).trans e132
  have e160 : (va_up f117 b (.inr (3, [.ref r, .int (nI n90)]))) out = .inl (E.2.1, 5, .inl g127) := (q_ne (q_tag e133 e143 (show (1000 : Nat) ≠ 3 by decide))).trans e133
  have e161 : (va_up f117 b (.inr (3, [.ref r, .int (nI n90)]))) mac = .inl (E.1, 20, .inl g_mac) := (q_ne (q_tag e136 e143 (show (1000 : Nat) ≠ 3 by decide))).trans e136
  have e162 : (va_up f117 b (.inr (3, [.ref r, .int (nI n90)]))) o = .inr (1, [.ref un, .ref tw, .ref ke, .int (nI rd), .ref sta, .ref mo, .ref kp]) := (q_ne (q_tag e137 e143 (show (1 : Nat) ≠ 3 by decide))).trans e137
  have e163 : (va_up f117 b (.inr (3, [.ref r, .int (nI n90)]))) tw = .inl (E.2.1, 256, .inl g_tw) := (q_ne (q_tag e138 e143 (show (1000 : Nat) ≠ 3 by decide))).trans e138
  have e164 : (va_up f117 b (.inr (3, [.ref r, .int (nI n90)]))) ke = .inl (E.2.1, 240, .inl g_ke) := (q_ne (q_tag e139 e143 (show (1000 : Nat) ≠ 3 by decide))).trans e139
  have e165 : (va_up f117 b (.inr (3, [.ref r, .int (nI n90)]))) sta = .inl (E.2.1, 16, .inl g_sta) := (q_ne (q_tag e140 e143 (show (1000 : Nat) ≠ 3 by decide))).trans e140
  have e166 : (va_up f117 b (.inr (3, [.ref r, .int (nI n90)]))) mo = .inl (E.2.1, 16, .inl g_mo) := (q_ne (q_tag e141 e143 (show (1000 : Nat) ≠ 3 by decide))).trans e141
  have e167 : (va_up f117 b (.inr (3, [.ref r, .int (nI n90)]))) tu = .inl (E.1, 20, .inl g_tu) := (q_ne (q_tag e142 e143 (show (1000 : Nat) ≠ 3 by decide))).trans e142
  have e168 : (va_up f117 b (.inr (3, [.ref r, .int (nI n90)]))) r = .inl (E.1, N, .inl g91) := (q_ne (q_tag e144 e143 (show (1000 : Nat) ≠ 3 by decide))).trans e144
  have e169 : (va_up f117 b (.inr (3, [.ref r, .int (nI n90)]))) b2 = .inr (3, [.ref r2, .int (nI n3)]) := (q_ne ap_b_b2.symm).trans e145
  have e170 : (va_up f117 b (.inr (3, [.ref r, .int (nI n90)]))) r2 = .inl (E.1, M, .inl g_r2) := (q_ne (q_tag e146 e143 (show (1000 : Nat) ≠ 3 by decide))).trans e146
  have e171 : (va_up f117 b (.inr (3, [.ref r, .int (nI n90)]))) b3 = .inr (3, [.ref r3, .int (nI n5)]) := (q_ne ap_b_b3.symm).trans e147
  have e172 : (va_up f117 b (.inr (3, [.ref r, .int (nI n90)]))) r3 = .inl (E.1, M3, .inl g_r3) := (q_ne (q_tag e148 e143 (show (1000 : Nat) ≠ 3 by decide))).trans e148
  have e173 : (va_up f117 b (.inr (3, [.ref r, .int (nI n90)]))) q2 = .inl (E.1, 16, .inl (fun _ => 0)) := (q_ne (q_tag e149 e143 (show (1000 : Nat) ≠ 3 by decide))).trans e149
  have hF174 : ∀ x, x ∈ L → x ≠ ho → x ≠ wd → x ≠ bl → x ≠ hst → x ≠ mac → x ≠ inn → x ≠ out → x ≠ o → x ≠ ke → x ≠ sta → x ≠ mo → x ≠ tu → x ≠ b → x ≠ r → (va_up f117 b (.inr (3, [.ref r, .int (nI n90)]))) x = f x := fun x hx h0 h1 h2 h3 h4 h5 h6 h7 h8 h9 h10 h11 h12 h13 => (q_ne h12).trans (hF150 x hx h0 h1 h2 h3 h4 h5 h6 h7 h8 h9 h10 h11 h12 h13)
  have Y : pH D cCl (pA L sz) s.heap L3 (va_up f117 b (.inr (3, [.ref r, .int (nI n90)]))) H locs := Y
  generalize (va_up f117 b (.inr (3, [.ref r, .int (nI n90)]))) = f152 at Y e153 e154 e155 e156 e157 e158 e159 e160 e161 e162 e163 e164 e165 e166 e167 e168 e169 e170 e171 e172 e173 hF174
  refine lv_aload_n X.1 X.2.1 d_Va_passwordKey_81 rfl (lv_at hl 3 rfl) ?_
  refine q_get X.1 X.2.1 X.2.2.1 i_Va X.2.2.2.1 X.2.2.2.2 Y m31 e154 rfl 12 (by decide) (X.2.2.1 _ lk_Va_58) (fun _ h9 => h9) rfl d_Va_passwordKey_82 ?_
  refine lv_iload X.1 X.2.1 d_Va_passwordKey_85 (lv_at hl 0 rfl) ?_
  refine lv_bipush (v := (nI 20)) X.1 X.2.1 d_Va_passwordKey_87 (by decide) ?_
  refine lv_idiv X.1 X.2.1 d_Va_passwordKey_89 (nI_ne0 (by omega) (by omega)) ?_
  refine t_eq (y := nI 0) (by decide) ?_
  refine lv_iconst (v := (nI 1)) X.1 X.2.1 d_Va_passwordKey_90 (by decide) ?_
  refine lv_iadd X.1 X.2.1 d_Va_passwordKey_91 ?_
  refine t_eq (y := nI 1) (by decide) ?_
  refine x_v (x_runV (As := [.int (nI 1)]) (rest := []) (n := 1) X Y hml hl.1 (c_By_putWord l D E L3 f152 H.size ((nI 1)) b r (N) (n90) g91 m45 e153 m46 e168 (by omega) (by omega) hg92) (ok_c X Y) m45 e153 rfl kl_Va_By_putWord ks_By_putWord kx_By_putWord ki_By_putWord ini_By ⟨rfl, rfl⟩ hd_By_putWord ⟨by decide, by decide⟩ rfl (Nat.le_of_ble_eq_true rfl) d_Va_passwordKey_92 ⟨(show 1 + 0 ≤ 1 by omega), (show 16 + (0) ≤ (16) by omega)⟩) X Y hA (fun u H locs hp Y => ?_)
  obtain ⟨L176, f175⟩ := u
  obtain ⟨eL187, hF177, n178, g179, h181, h182, h183, h184, e185, e186⟩ := hp
  dsimp only at eL187 hF177 e185 e186 Y
  rw [eL187] at Y
  have e189 : f175 v = .inr (11, [.int now, .ref txo, .ref dro, .ref ho, .ref o, .ref se, .int ssz, .ref coo, .int cat, .int crw, .ref deo, .ref tu, .ref b]) := (hF177 v (q_tag e154 e153 (show (11 : Nat) ≠ 3 by decide)) (q_tag e154 e168 (show (11 : Nat) ≠ 1000 by decide))).trans e154
  have e190 : f175 ho = .inr (6, [.ref wd, .ref bl, .ref hst, .ref inn, .ref out, .int (nI fl), .int tot, .ref mac]) := (hF177 ho (q_tag e155 e153 (show (6 : Nat) ≠ 3 by decide)) (q_tag e155 e168 (show (6 : Nat) ≠ 1000 by decide))).trans e155
  have e191 : f175 wd = .inl (E.2.1, 80, .inl g123) := (hF177 wd (q_tag e156 e153 (show (1000 : Nat) ≠ 3 by decide)) ap_wd_r).trans e156
  have e192 : f175 bl = .inl (E.1, 64, .inl g124) := (hF177 bl (q_tag e157 e153 (show (1000 : Nat) ≠ 3 by decide)) ap_bl_r).trans e157
  have e193 : f175 hst = .inl (E.2.1, 5, .inl g125) := (hF177 hst (q_tag e158 e153 (show (1000 : Nat) ≠ 3 by decide)) ap_hst_r).trans e158
  have e194 : f175 inn = .inl (E.2.1, 5, .inl g126) := (hF177 inn (q_tag e159 e153 (show (1000 : Nat) ≠ 3 by decide)) ap_inn_r).trans e159
  have e195 : f175 out = .inl (E.2.1, 5, .inl g127) := (hF177 out (q_tag e160 e153 (show (1000 : Nat) ≠ 3 by decide)) ap_out_r).trans e160
  have e196 : f175 mac = .inl (E.1, 20, .inl g_mac) := (hF177 mac (q_tag e161 e153 (show (1000 : Nat) ≠ 3 by decide)) ap_mac_r).trans e161
  have e197 : f175 o = .inr (1, [.ref un, .ref tw, .ref ke, .int (nI rd), .ref sta, .ref mo, .ref kp]) := (hF177 o (q_tag e162 e153 (show (1 : Nat) ≠ 3 by decide)) (q_tag e162 e168 (show (1 : Nat) ≠ 1000 by decide))).trans e162
  have e198 : f175 tw = .inl (E.2.1, 256, .inl g_tw) := (hF177 tw (q_tag e163 e153 (show (1000 : Nat) ≠ 3 by decide)) ap_tw_r).trans e163
  have e199 : f175 ke = .inl (E.2.1, 240, .inl g_ke) := (hF177 ke (q_tag e164 e153 (show (1000 : Nat) ≠ 3 by decide)) ap_ke_r).trans e164
  have e200 : f175 sta = .inl (E.2.1, 16, .inl g_sta) := (hF177 sta (q_tag e165 e153 (show (1000 : Nat) ≠ 3 by decide)) ap_sta_r).trans e165
  have e201 : f175 mo = .inl (E.2.1, 16, .inl g_mo) := (hF177 mo (q_tag e166 e153 (show (1000 : Nat) ≠ 3 by decide)) ap_mo_r).trans e166
  have e202 : f175 tu = .inl (E.1, 20, .inl g_tu) := (hF177 tu (q_tag e167 e153 (show (1000 : Nat) ≠ 3 by decide)) ap_tu_r).trans e167
  have e203 : f175 b2 = .inr (3, [.ref r2, .int (nI n3)]) := (hF177 b2 ap_b_b2.symm (q_tag e169 e168 (show (3 : Nat) ≠ 1000 by decide))).trans e169
  have e204 : f175 r2 = .inl (E.1, M, .inl g_r2) := (hF177 r2 (q_tag e170 e153 (show (1000 : Nat) ≠ 3 by decide)) ap_r_r2.symm).trans e170
  have e205 : f175 b3 = .inr (3, [.ref r3, .int (nI n5)]) := (hF177 b3 ap_b_b3.symm (q_tag e171 e168 (show (3 : Nat) ≠ 1000 by decide))).trans e171
  have e206 : f175 r3 = .inl (E.1, M3, .inl g_r3) := (hF177 r3 (q_tag e172 e153 (show (1000 : Nat) ≠ 3 by decide)) ap_r_r3.symm).trans e172
  have e207 : f175 q2 = .inl (E.1, 16, .inl (fun _ => 0)) := (hF177 q2 (q_tag e173 e153 (show (1000 : Nat) ≠ 3 by decide)) (ne_mem hqq2 m_r).symm).trans e173
  have hF208 : ∀ x, x ∈ L → x ≠ ho → x ≠ wd → x ≠ bl → x ≠ hst → x ≠ mac → x ≠ inn → x ≠ out → x ≠ o → x ≠ ke → x ≠ sta → x ≠ mo → x ≠ tu → x ≠ b → x ≠ r → f175 x = f x := fun x hx h0 h1 h2 h3 h4 h5 h6 h7 h8 h9 h10 h11 h12 h13 => (hF177 x h12 h13).trans (hF174 x hx h0 h1 h2 h3 h4 h5 h6 h7 h8 h9 h10 h11 h12 h13)
  refine lv_aload_n X.1 X.2.1 d_Va_passwordKey_95 rfl (lv_at hl 3 rfl) ?_
  refine lv_iload X.1 X.2.1 d_Va_passwordKey_96 (lv_at hl 8 rfl) ?_
  refine x_v (x_runV (As := [.int a5]) (rest := []) (n := 1) X Y hml hl.1 (c_Va_stretch l D E T L3 f175 H.size (a5) (N) v ho wd bl hst inn out mac tu b r txo dro o se coo deo (fl) (n178) (now) (ssz) (cat) (crw) (tot) g123 g124 g125 g126 g127 g_mac g_tu g179 m31 m32 m33 m34 m35 m36 m37 m38 m44 m45 m46 e189 e190 e191 e192 e193 e194 e195 e196 e202 e185 e186 hg128 f_mac f_tu h182 ap_wd_bl ap_wd_hst ap_wd_inn ap_wd_out ap_wd_mac ap_wd_tu ap_wd_r ap_bl_hst ap_bl_inn ap_bl_out ap_bl_mac ap_bl_tu ap_bl_r ap_hst_inn ap_hst_out ap_hst_mac ap_hst_tu ap_hst_r ap_inn_out ap_inn_mac ap_inn_tu ap_inn_r ap_out_mac ap_out_tu ap_out_r ap_mac_tu ap_mac_r ap_tu_r (by omega) (by omega) (by omega)) (ok_k X Y hA KS KR) m31 e189 rfl kl_Va_Va_stretch ks_Va_stretch kx_Va_stretch ki_Va_stretch ini_Va ⟨rfl, rfl⟩ hd_Va_stretch ⟨by decide, by decide⟩ rfl (Nat.le_of_ble_eq_true rfl) d_Va_passwordKey_98 ⟨(show 1 + 0 ≤ 1 by omega), (show 16 + (0) ≤ (16) by omega)⟩) X Y hA (fun u H locs hp Y => ?_)
  obtain ⟨L211, f210⟩ := u
  obtain ⟨eL213, hF212, n215, v216, g217, g218, g219, g220, g221, hg222, hg223, hg224, h225, e226, e227, e228, e229, e230, e231⟩ := hp
  dsimp only at eL213 hF212 e226 e227 e228 e229 e230 e231 Y
  rw [eL213] at Y
  have e232 : f210 v = .inr (11, [.int now, .ref txo, .ref dro, .ref ho, .ref o, .ref se, .int ssz, .ref coo, .int cat, .int crw, .ref deo, .ref tu, .ref b]) := (hF212 v (q_tag e189 e190 (show (11 : Nat) ≠ 6 by decide)) (q_tag e189 e191 (show (11 : Nat) ≠ 1000 by decide)) (q_tag e189 e192 (show (11 : Nat) ≠ 1000 by decide)) (q_tag e189 e193 (show (11 : Nat) ≠ 1000 by decide)) (q_tag e189 e196 (show (11 : Nat) ≠ 1000 by decide)) (q_tag e189 e202 (show (11 : Nat) ≠ 1000 by decide))).trans e189
  have e233 : f210 inn = .inl (E.2.1, 5, .inl g126) := (hF212 inn (q_tag e194 e190 (show (1000 : Nat) ≠ 6 by decide)) ap_wd_inn.symm ap_bl_inn.symm ap_hst_inn.symm ap_inn_mac ap_inn_tu).trans e194
  have e234 : f210 out = .inl (E.2.1, 5, .inl g127) := (hF212 out (q_tag e195 e190 (show (1000 : Nat) ≠ 6 by decide)) ap_wd_out.symm ap_bl_out.symm ap_hst_out.symm ap_out_mac ap_out_tu).trans e195
  have e235 : f210 o = .inr (1, [.ref un, .ref tw, .ref ke, .int (nI rd), .ref sta, .ref mo, .ref kp]) := (hF212 o (q_tag e197 e190 (show (1 : Nat) ≠ 6 by decide)) (q_tag e197 e191 (show (1 : Nat) ≠ 1000 by decide)) (q_tag e197 e192 (show (1 : Nat) ≠ 1000 by decide)) (q_tag e197 e193 (show (1 : Nat) ≠ 1000 by decide)) (q_tag e197 e196 (show (1 : Nat) ≠ 1000 by decide)) (q_tag e197 e202 (show (1 : Nat) ≠ 1000 by decide))).trans e197
  have e236 : f210 tw = .inl (E.2.1, 256, .inl g_tw) := (hF212 tw (q_tag e198 e190 (show (1000 : Nat) ≠ 6 by decide)) ap_wd_tw.symm ap_bl_tw.symm ap_hst_tw.symm ap_mac_tw.symm ap_tw_tu).trans e198
  have e237 : f210 ke = .inl (E.2.1, 240, .inl g_ke) := (hF212 ke (q_tag e199 e190 (show (1000 : Nat) ≠ 6 by decide)) ap_wd_ke.symm ap_bl_ke.symm ap_hst_ke.symm ap_mac_ke.symm ap_ke_tu).trans e199
  have e238 : f210 sta = .inl (E.2.1, 16, .inl g_sta) := (hF212 sta (q_tag e200 e190 (show (1000 : Nat) ≠ 6 by decide)) ap_wd_sta.symm ap_bl_sta.symm ap_hst_sta.symm ap_mac_sta.symm ap_sta_tu).trans e200
  have e239 : f210 mo = .inl (E.2.1, 16, .inl g_mo) := (hF212 mo (q_tag e201 e190 (show (1000 : Nat) ≠ 6 by decide)) ap_wd_mo.symm ap_bl_mo.symm ap_hst_mo.symm ap_mac_mo.symm ap_mo_tu).trans e201
  have e240 : f210 b = .inr (3, [.ref r, .int (nI n178)]) := (hF212 b (q_tag e185 e190 (show (3 : Nat) ≠ 6 by decide)) (q_tag e185 e191 (show (3 : Nat) ≠ 1000 by decide)) (q_tag e185 e192 (show (3 : Nat) ≠ 1000 by decide)) (q_tag e185 e193 (show (3 : Nat) ≠ 1000 by decide)) (q_tag e185 e196 (show (3 : Nat) ≠ 1000 by decide)) (q_tag e185 e202 (show (3 : Nat) ≠ 1000 by decide))).trans e185
  have e241 : f210 r = .inl (E.1, N, .inl g179) := (hF212 r (q_tag e186 e190 (show (1000 : Nat) ≠ 6 by decide)) ap_wd_r.symm ap_bl_r.symm ap_hst_r.symm ap_mac_r.symm ap_tu_r.symm).trans e186
  have e242 : f210 b2 = .inr (3, [.ref r2, .int (nI n3)]) := (hF212 b2 (q_tag e203 e190 (show (3 : Nat) ≠ 6 by decide)) (q_tag e203 e191 (show (3 : Nat) ≠ 1000 by decide)) (q_tag e203 e192 (show (3 : Nat) ≠ 1000 by decide)) (q_tag e203 e193 (show (3 : Nat) ≠ 1000 by decide)) (q_tag e203 e196 (show (3 : Nat) ≠ 1000 by decide)) (q_tag e203 e202 (show (3 : Nat) ≠ 1000 by decide))).trans e203
  have e243 : f210 r2 = .inl (E.1, M, .inl g_r2) := (hF212 r2 (q_tag e204 e190 (show (1000 : Nat) ≠ 6 by decide)) ap_wd_r2.symm ap_bl_r2.symm ap_hst_r2.symm ap_mac_r2.symm ap_tu_r2.symm).trans e204
  have e244 : f210 b3 = .inr (3, [.ref r3, .int (nI n5)]) := (hF212 b3 (q_tag e205 e190 (show (3 : Nat) ≠ 6 by decide)) (q_tag e205 e191 (show (3 : Nat) ≠ 1000 by decide)) (q_tag e205 e192 (show (3 : Nat) ≠ 1000 by decide)) (q_tag e205 e193 (show (3 : Nat) ≠ 1000 by decide)) (q_tag e205 e196 (show (3 : Nat) ≠ 1000 by decide)) (q_tag e205 e202 (show (3 : Nat) ≠ 1000 by decide))).trans e205
  have e245 : f210 r3 = .inl (E.1, M3, .inl g_r3) := (hF212 r3 (q_tag e206 e190 (show (1000 : Nat) ≠ 6 by decide)) ap_wd_r3.symm ap_bl_r3.symm ap_hst_r3.symm ap_mac_r3.symm ap_tu_r3.symm).trans e206
  have e246 : f210 q2 = .inl (E.1, 16, .inl (fun _ => 0)) := (hF212 q2 (q_tag e207 e190 (show (1000 : Nat) ≠ 6 by decide)) (ne_mem hqq2 m_wd).symm (ne_mem hqq2 m_bl).symm (ne_mem hqq2 m_hst).symm (ne_mem hqq2 m_mac).symm (ne_mem hqq2 m_tu).symm).trans e207
  have hF247 : ∀ x, x ∈ L → x ≠ ho → x ≠ wd → x ≠ bl → x ≠ hst → x ≠ mac → x ≠ inn → x ≠ out → x ≠ o → x ≠ ke → x ≠ sta → x ≠ mo → x ≠ tu → x ≠ b → x ≠ r → f210 x = f x := fun x hx h0 h1 h2 h3 h4 h5 h6 h7 h8 h9 h10 h11 h12 h13 => (hF212 x h0 h1 h2 h3 h4 h11).trans (hF208 x hx h0 h1 h2 h3 h4 h5 h6 h7 h8 h9 h10 h11 h12 h13)
  refine lv_aload_n X.1 X.2.1 d_Va_passwordKey_101 rfl (lv_at hl 3 rfl) ?_
  refine q_get X.1 X.2.1 X.2.2.1 i_Va X.2.2.2.1 X.2.2.2.2 Y m31 e232 rfl 11 (by decide) (X.2.2.1 _ lk_Va_55) (fun _ h9 => h9) rfl d_Va_passwordKey_102 ?_
  refine lv_iconst (v := (nI 0)) X.1 X.2.1 d_Va_passwordKey_105 (by decide) ?_
  refine lv_aload X.1 X.2.1 d_Va_passwordKey_106 (lv_at hl 2 rfl) ?_
  refine lv_iload X.1 X.2.1 d_Va_passwordKey_108 (lv_at hl 0 rfl) ?_
  refine lv_bipush (v := (nI 20)) X.1 X.2.1 d_Va_passwordKey_110 (by decide) ?_
  refine lv_aload X.1 X.2.1 d_Va_passwordKey_112 (lv_at hl 2 rfl) ?_
  refine q_alen X.1 X.2.1 X.2.2.2.2 Y 0 m6 e246 rfl (v := nI (16)) rfl d_Va_passwordKey_114 ?_
  refine lv_iload X.1 X.2.1 d_Va_passwordKey_115 (lv_at hl 0 rfl) ?_
  refine lv_isub X.1 X.2.1 d_Va_passwordKey_117 ?_
  refine t_eq (y := nI 16) (by decide) ?_
  refine va_mmin X.1 X.2.1 (hml.trans hl.1.symm) X.2.2.2.1 (X.2.2.1 _ kl_Va_mmin) (X.2.2.1 _ ks_mmin) (X.2.2.1 _ ini_Math) (X.2.2.1 _ ki_mmin) (Nat.le_of_ble_eq_true rfl) (Nat.le_of_ble_eq_true rfl) (show 1 ≤ 1 by omega) (show 16 ≤ (16) by omega) d_Va_passwordKey_118 ?_
  refine t_eq (y := nI 16) (by decide) ?_
  refine q_copy X.1 X.2.1 (hml.trans hl.1.symm) X.2.2.2.1 (X.2.2.1 _ kl_Va_copy) (X.2.2.1 _ kn_copy) (X.2.2.1 _ ks_copy) (X.2.2.1 _ ini_Sys) X.2.2.2.2 Y 0 m44 e231 m6 e246 rfl rfl (show 0 + 16 ≤ 20 by omega) (show 0 + 16 ≤ 16 by omega) (by omega) (by omega) hg224 (Nat.le_of_ble_eq_true rfl) (Nat.le_of_ble_eq_true rfl) d_Va_passwordKey_121 (fun H locs Y => ?_)
  have hg249 : fB (va_cpy g221 (fun _ => 0) (0) (0) (16)) := fB_cpy hg224 fB_0
  generalize (va_cpy g221 (fun _ => 0) (0) (0) (16)) = g248 at Y hg249
  have e251 : (va_up f210 q2 (.inl (E.1, 16, .inl g248))) q2 = .inl (E.1, 16, .inl g248) := q_up
  have e252 : (va_up f210 q2 (.inl (E.1, 16, .inl g248))) v = .inr (11, [.int now, .ref txo, .ref dro, .ref ho, .ref o, .ref se, .int ssz, .ref coo, .int cat, .int crw, .ref deo, .ref tu, .ref b]) := (q_ne (q_tag e232 e246 (show (11 : Nat) ≠ 1000 by decide))).trans e232
  have e253 : (va_up f210 q2 (.inl (E.1, 16, .inl g248))) ho = .inr (6, [.ref wd, .ref bl, .ref hst, .ref inn, .ref out, .int (nI n215), .int v216, .ref mac]) := (q_ne (q_tag e226 e246 (show (6 : Nat) ≠ 1000 by decide))).trans e226
  have e254 : (va_up f210 q2 (.inl (E.1, 16, .inl g248))) wd = .inl (E.2.1, 80, .inl g217) := (q_ne (ne_mem hqq2 m_wd)).trans e227
  have e255 : (va_up f210 q2 (.inl (E.1, 16, .inl g248))) bl = .inl (E.1, 64, .inl g218) := (q_ne (ne_mem hqq2 m_bl)).trans e228
  have e256 : (va_up f210 q2 (.inl (E.1, 16, .inl g248))) hst = .inl (E.2.1, 5, .inl g219) := (q_ne (ne_mem hqq2 m_hst)).trans e229
  have e257 : (va_up f210 q2 (.inl (E.1, 16, .inl g248))) inn = .inl (E.2.1, 5, .inl g126) := (q_ne (ne_mem hqq2 m_inn)).trans e233
  have e258 : (va_up f210 q2 (.inl (E.1, 16, .inl g248))) out = .inl (E.2.1, 5, .inl g127) := (q_ne (ne_mem hqq2 m_out)).trans e234
  have e259 : (va_up f210 q2 (.inl (E.1, 16, .inl g248))) mac = .inl (E.1, 20, .inl g220) := (q_ne (ne_mem hqq2 m_mac)).trans e230
  have e260 : (va_up f210 q2 (.inl (E.1, 16, .inl g248))) o = .inr (1, [.ref un, .ref tw, .ref ke, .int (nI rd), .ref sta, .ref mo, .ref kp]) := (q_ne (q_tag e235 e246 (show (1 : Nat) ≠ 1000 by decide))).trans e235
  have e261 : (va_up f210 q2 (.inl (E.1, 16, .inl g248))) tw = .inl (E.2.1, 256, .inl g_tw) := (q_ne (ne_mem hqq2 m_tw)).trans e236
  have e262 : (va_up f210 q2 (.inl (E.1, 16, .inl g248))) ke = .inl (E.2.1, 240, .inl g_ke) := (q_ne (ne_mem hqq2 m_ke)).trans e237
  have e263 : (va_up f210 q2 (.inl (E.1, 16, .inl g248))) sta = .inl (E.2.1, 16, .inl g_sta) := (q_ne (ne_mem hqq2 m_sta)).trans e238
  have e264 : (va_up f210 q2 (.inl (E.1, 16, .inl g248))) mo = .inl (E.2.1, 16, .inl g_mo) := (q_ne (ne_mem hqq2 m_mo)).trans e239
  have e265 : (va_up f210 q2 (.inl (E.1, 16, .inl g248))) tu = .inl (E.1, 20, .inl g221) := (q_ne (ne_mem hqq2 m_tu)).trans e231
  have e266 : (va_up f210 q2 (.inl (E.1, 16, .inl g248))) b = .inr (3, [.ref r, .int (nI n178)]) := (q_ne (q_tag e240 e246 (show (3 : Nat) ≠ 1000 by decide))).trans e240
  have e267 : (va_up f210 q2 (.inl (E.1, 16, .inl g248))) r = .inl (E.1, N, .inl g179) := (q_ne (ne_mem hqq2 m_r)).trans e241
  have e268 : (va_up f210 q2 (.inl (E.1, 16, .inl g248))) b2 = .inr (3, [.ref r2, .int (nI n3)]) := (q_ne (q_tag e242 e246 (show (3 : Nat) ≠ 1000 by decide))).trans e242
  have e269 : (va_up f210 q2 (.inl (E.1, 16, .inl g248))) r2 = .inl (E.1, M, .inl g_r2) := (q_ne (ne_mem hqq2 m_r2)).trans e243
  have e270 : (va_up f210 q2 (.inl (E.1, 16, .inl g248))) b3 = .inr (3, [.ref r3, .int (nI n5)]) := (q_ne (q_tag e244 e246 (show (3 : Nat) ≠ 1000 by decide))).trans e244
  have e271 : (va_up f210 q2 (.inl (E.1, 16, .inl g248))) r3 = .inl (E.1, M3, .inl g_r3) := (q_ne (ne_mem hqq2 m_r3)).trans e245
  have hF272 : ∀ x, x ∈ L → x ≠ ho → x ≠ wd → x ≠ bl → x ≠ hst → x ≠ mac → x ≠ inn → x ≠ out → x ≠ o → x ≠ ke → x ≠ sta → x ≠ mo → x ≠ tu → x ≠ b → x ≠ r → (va_up f210 q2 (.inl (E.1, 16, .inl g248))) x = f x := fun x hx h0 h1 h2 h3 h4 h5 h6 h7 h8 h9 h10 h11 h12 h13 => (q_ne (ne_mem nl7 hx)).trans (hF247 x hx h0 h1 h2 h3 h4 h5 h6 h7 h8 h9 h10 h11 h12 h13)
  have Y : pH D cCl (pA L sz) s.heap L3 (va_up f210 q2 (.inl (E.1, 16, .inl g248))) H locs := Y
  generalize (va_up f210 q2 (.inl (E.1, 16, .inl g248))) = f250 at Y e251 e252 e253 e254 e255 e256 e257 e258 e259 e260 e261 e262 e263 e264 e265 e266 e267 e268 e269 e270 e271 hF272
  refine lv_iinc (v := (nI 20)) (lv' := [(8, .int (nI 20)), (7, .int (nI n90)), (6, .ref q2), (0, .ref v), (1, .int (nI 17)), (2, .ref b2), (3, .ref b3), (4, .int (nI st0)), (5, .int a5)]) X.1 X.2.1 d_Va_passwordKey_124 hl (k := 0) rfl (by decide) (by decide) rfl (fun ls hl => ?_)
  refine lv_goto (tgt := 64) X.1 X.2.1 d_Va_passwordKey_127 (by decide) ?_
  refine lv_iload X.1 X.2.1 d_Va_passwordKey_64 (lv_at hl 0 rfl) ?_
  refine lv_aload X.1 X.2.1 d_Va_passwordKey_66 (lv_at hl 2 rfl) ?_
  refine q_alen X.1 X.2.1 X.2.2.2.2 Y 0 m6 e251 rfl (v := nI (16)) rfl d_Va_passwordKey_68 ?_
  refine lv_icmp_ge (tgt := 130) X.1 X.2.1 d_Va_passwordKey_69 (by decide) (fun c273 => ?_) (fun c273 => absurd ?_ c273)
  rotate_left
  · (rw [nI_leI (by omega) (by omega)] <;> omega)
  rw [nI_leI (by omega) (by omega)] at c273
  refine lv_aload_n X.1 X.2.1 d_Va_passwordKey_130 rfl (lv_at hl 3 rfl) ?_
  refine q_get X.1 X.2.1 X.2.2.1 i_Va X.2.2.2.1 X.2.2.2.2 Y m31 e252 rfl 4 (by decide) (X.2.2.1 _ lk_Va_38) (fun _ h9 => h9) rfl d_Va_passwordKey_131 ?_
  refine lv_aload X.1 X.2.1 d_Va_passwordKey_134 (lv_at hl 2 rfl) ?_
  refine lv_aload X.1 X.2.1 d_Va_passwordKey_136 (lv_at hl 2 rfl) ?_
  refine q_alen X.1 X.2.1 X.2.2.2.2 Y 0 m6 e251 rfl (v := nI (16)) rfl d_Va_passwordKey_138 ?_
  refine x_v (x_runV (As := [.ref q2, .int (nI (16))]) (rest := []) (n := 2) X Y hml hl.1 (c_Ae_setKey16 l D E T L3 f250 H.size o tw ke sta mo q2 un kp (rd) g_tw g_ke g_sta g_mo g248 m39 m40 m41 m42 m43 m6 e260 e261 e262 e263 e264 e251 f_tw f_ke f_sta f_mo hg249 ap_tw_ke ap_tw_sta ap_tw_mo (ne_mem hqq2 m_tw) ap_ke_sta ap_ke_mo (ne_mem hqq2 m_ke) ap_sta_mo (ne_mem hqq2 m_sta) (ne_mem hqq2 m_mo)) (ok_k X Y hA KS KR) m39 e260 rfl kl_Va_Ae_setKey ks_Ae_setKey kx_Ae_setKey ki_Ae_setKey ini_Ae ⟨rfl, rfl⟩ hd_Ae_setKey ⟨by decide, by decide⟩ rfl (Nat.le_of_ble_eq_true rfl) d_Va_passwordKey_139 ⟨(show 1 + 0 ≤ 1 by omega), (show 16 + (0) ≤ (16) by omega)⟩) X Y hA (fun u H locs hp Y => ?_)
  obtain ⟨L276, f275⟩ := u
  obtain ⟨eL278, hF277, n280, g281, hg282, h283, e284, e285⟩ := hp
  dsimp only at eL278 hF277 e284 e285 Y
  rw [eL278] at Y
  have e286 : f275 v = .inr (11, [.int now, .ref txo, .ref dro, .ref ho, .ref o, .ref se, .int ssz, .ref coo, .int cat, .int crw, .ref deo, .ref tu, .ref b]) := (hF277 v (q_tag e252 e260 (show (11 : Nat) ≠ 1 by decide)) (q_tag e252 e262 (show (11 : Nat) ≠ 1000 by decide))).trans e252
  have e287 : f275 ho = .inr (6, [.ref wd, .ref bl, .ref hst, .ref inn, .ref out, .int (nI n215), .int v216, .ref mac]) := (hF277 ho (q_tag e253 e260 (show (6 : Nat) ≠ 1 by decide)) (q_tag e253 e262 (show (6 : Nat) ≠ 1000 by decide))).trans e253
  have e288 : f275 wd = .inl (E.2.1, 80, .inl g217) := (hF277 wd (q_tag e254 e260 (show (1000 : Nat) ≠ 1 by decide)) ap_wd_ke).trans e254
  have e289 : f275 bl = .inl (E.1, 64, .inl g218) := (hF277 bl (q_tag e255 e260 (show (1000 : Nat) ≠ 1 by decide)) ap_bl_ke).trans e255
  have e290 : f275 hst = .inl (E.2.1, 5, .inl g219) := (hF277 hst (q_tag e256 e260 (show (1000 : Nat) ≠ 1 by decide)) ap_hst_ke).trans e256
  have e291 : f275 inn = .inl (E.2.1, 5, .inl g126) := (hF277 inn (q_tag e257 e260 (show (1000 : Nat) ≠ 1 by decide)) ap_inn_ke).trans e257
  have e292 : f275 out = .inl (E.2.1, 5, .inl g127) := (hF277 out (q_tag e258 e260 (show (1000 : Nat) ≠ 1 by decide)) ap_out_ke).trans e258
  have e293 : f275 mac = .inl (E.1, 20, .inl g220) := (hF277 mac (q_tag e259 e260 (show (1000 : Nat) ≠ 1 by decide)) ap_mac_ke).trans e259
  have e294 : f275 tw = .inl (E.2.1, 256, .inl g_tw) := (hF277 tw (q_tag e261 e260 (show (1000 : Nat) ≠ 1 by decide)) ap_tw_ke).trans e261
  have e295 : f275 sta = .inl (E.2.1, 16, .inl g_sta) := (hF277 sta (q_tag e263 e260 (show (1000 : Nat) ≠ 1 by decide)) ap_ke_sta.symm).trans e263
  have e296 : f275 mo = .inl (E.2.1, 16, .inl g_mo) := (hF277 mo (q_tag e264 e260 (show (1000 : Nat) ≠ 1 by decide)) ap_ke_mo.symm).trans e264
  have e297 : f275 tu = .inl (E.1, 20, .inl g221) := (hF277 tu (q_tag e265 e260 (show (1000 : Nat) ≠ 1 by decide)) ap_ke_tu.symm).trans e265
  have e298 : f275 b = .inr (3, [.ref r, .int (nI n178)]) := (hF277 b (q_tag e266 e260 (show (3 : Nat) ≠ 1 by decide)) (q_tag e266 e262 (show (3 : Nat) ≠ 1000 by decide))).trans e266
  have e299 : f275 r = .inl (E.1, N, .inl g179) := (hF277 r (q_tag e267 e260 (show (1000 : Nat) ≠ 1 by decide)) ap_ke_r.symm).trans e267
  have e300 : f275 b2 = .inr (3, [.ref r2, .int (nI n3)]) := (hF277 b2 (q_tag e268 e260 (show (3 : Nat) ≠ 1 by decide)) (q_tag e268 e262 (show (3 : Nat) ≠ 1000 by decide))).trans e268
  have e301 : f275 r2 = .inl (E.1, M, .inl g_r2) := (hF277 r2 (q_tag e269 e260 (show (1000 : Nat) ≠ 1 by decide)) ap_ke_r2.symm).trans e269
  have e302 : f275 b3 = .inr (3, [.ref r3, .int (nI n5)]) := (hF277 b3 (q_tag e270 e260 (show (3 : Nat) ≠ 1 by decide)) (q_tag e270 e262 (show (3 : Nat) ≠ 1000 by decide))).trans e270
  have e303 : f275 r3 = .inl (E.1, M3, .inl g_r3) := (hF277 r3 (q_tag e271 e260 (show (1000 : Nat) ≠ 1 by decide)) ap_ke_r3.symm).trans e271
  have e304 : f275 q2 = .inl (E.1, 16, .inl g248) := (hF277 q2 (q_tag e251 e260 (show (1000 : Nat) ≠ 1 by decide)) (ne_mem hqq2 m_ke).symm).trans e251
  have hF305 : ∀ x, x ∈ L → x ≠ ho → x ≠ wd → x ≠ bl → x ≠ hst → x ≠ mac → x ≠ inn → x ≠ out → x ≠ o → x ≠ ke → x ≠ sta → x ≠ mo → x ≠ tu → x ≠ b → x ≠ r → f275 x = f x := fun x hx h0 h1 h2 h3 h4 h5 h6 h7 h8 h9 h10 h11 h12 h13 => (hF277 x h7 h8).trans (hF272 x hx h0 h1 h2 h3 h4 h5 h6 h7 h8 h9 h10 h11 h12 h13)
  refine k_gets 2 (by decide) X Y KS sk_Va_151 d_Va_passwordKey_142 ?_
  refine lv_iconst (v := (nI 0)) X.1 X.2.1 d_Va_passwordKey_145 (by decide) ?_
  refine lv_aload X.1 X.2.1 d_Va_passwordKey_146 (lv_at hl 2 rfl) ?_
  refine lv_iconst (v := (nI 0)) X.1 X.2.1 d_Va_passwordKey_148 (by decide) ?_
  refine lv_bipush (v := (nI 16)) X.1 X.2.1 d_Va_passwordKey_149 (by decide) ?_
  refine k_copy 2 (by decide) rfl X Y KS (hml.trans hl.1.symm) kl_Va_copy m6 e304 (show 0 + 16 ≤ sL 2 by decide) (show 0 + 16 ≤ 16 by omega) (by omega) sKER_fit (Nat.le_of_ble_eq_true rfl) (Nat.le_of_ble_eq_true rfl) d_Va_passwordKey_151 (by decide) (fun H locs Y => ?_)
  have hg307 : fB (va_cpy (sB 2) g248 (0) (0) (16)) := fB_ker (by decide) hg249
  generalize (va_cpy (sB 2) g248 (0) (0) (16)) = g306 at Y hg307
  have e309 : (va_up f275 q2 (.inl (E.1, 16, .inl g306))) q2 = .inl (E.1, 16, .inl g306) := q_up
  have e310 : (va_up f275 q2 (.inl (E.1, 16, .inl g306))) v = .inr (11, [.int now, .ref txo, .ref dro, .ref ho, .ref o, .ref se, .int ssz, .ref coo, .int cat, .int crw, .ref deo, .ref tu, .ref b]) := (q_ne (q_tag e286 e304 (show (11 : Nat) ≠ 1000 by decide))).trans e286
  have e311 : (va_up f275 q2 (.inl (E.1, 16, .inl g306))) ho = .inr (6, [.ref wd, .ref bl, .ref hst, .ref inn, .ref out, .int (nI n215), .int v216, .ref mac]) := (q_ne (q_tag e287 e304 (show (6 : Nat) ≠ 1000 by decide))).trans e287
  have e312 : (va_up f275 q2 (.inl (E.1, 16, .inl g306))) wd = .inl (E.2.1, 80, .inl g217) := (q_ne (ne_mem hqq2 m_wd)).trans e288
  have e313 : (va_up f275 q2 (.inl (E.1, 16, .inl g306))) bl = .inl (E.1, 64, .inl g218) := (q_ne (ne_mem hqq2 m_bl)).trans e289
  have e314 : (va_up f275 q2 (.inl (E.1, 16, .inl g306))) hst = .inl (E.2.1, 5, .inl g219) := (q_ne (ne_mem hqq2 m_hst)).trans e290
  have e315 : (va_up f275 q2 (.inl (E.1, 16, .inl g306))) inn = .inl (E.2.1, 5, .inl g126) := (q_ne (ne_mem hqq2 m_inn)).trans e291
  have e316 : (va_up f275 q2 (.inl (E.1, 16, .inl g306))) out = .inl (E.2.1, 5, .inl g127) := (q_ne (ne_mem hqq2 m_out)).trans e292
  have e317 : (va_up f275 q2 (.inl (E.1, 16, .inl g306))) mac = .inl (E.1, 20, .inl g220) := (q_ne (ne_mem hqq2 m_mac)).trans e293
  have e318 : (va_up f275 q2 (.inl (E.1, 16, .inl g306))) o = .inr (1, [.ref un, .ref tw, .ref ke, .int (nI n280), .ref sta, .ref mo, .ref kp]) := (q_ne (q_tag e284 e304 (show (1 : Nat) ≠ 1000 by decide))).trans e284
  have e319 : (va_up f275 q2 (.inl (E.1, 16, .inl g306))) tw = .inl (E.2.1, 256, .inl g_tw) := (q_ne (ne_mem hqq2 m_tw)).trans e294
  have e320 : (va_up f275 q2 (.inl (E.1, 16, .inl g306))) ke = .inl (E.2.1, 240, .inl g281) := (q_ne (ne_mem hqq2 m_ke)).trans e285
  have e321 : (va_up f275 q2 (.inl (E.1, 16, .inl g306))) sta = .inl (E.2.1, 16, .inl g_sta) := (q_ne (ne_mem hqq2 m_sta)).trans e295
  have e322 : (va_up f275 q2 (.inl (E.1, 16, .inl g306))) mo = .inl (E.2.1, 16, .inl g_mo) := (q_ne (ne_mem hqq2 m_mo)).trans e296
  have e323 : (va_up f275 q2 (.inl (E.1, 16, .inl g306))) tu = .inl (E.1, 20, .inl g221) := (q_ne (ne_mem hqq2 m_tu)).trans e297
  have e324 : (va_up f275 q2 (.inl (E.1, 16, .inl g306))) b = .inr (3, [.ref r, .int (nI n178)]) := (q_ne (q_tag e298 e304 (show (3 : Nat) ≠ 1000 by decide))).trans e298
  have e325 : (va_up f275 q2 (.inl (E.1, 16, .inl g306))) r = .inl (E.1, N, .inl g179) := (q_ne (ne_mem hqq2 m_r)).trans e299
  have e326 : (va_up f275 q2 (.inl (E.1, 16, .inl g306))) b2 = .inr (3, [.ref r2, .int (nI n3)]) := (q_ne (q_tag e300 e304 (show (3 : Nat) ≠ 1000 by decide))).trans e300
  have e327 : (va_up f275 q2 (.inl (E.1, 16, .inl g306))) r2 = .inl (E.1, M, .inl g_r2) := (q_ne (ne_mem hqq2 m_r2)).trans e301
  have e328 : (va_up f275 q2 (.inl (E.1, 16, .inl g306))) b3 = .inr (3, [.ref r3, .int (nI n5)]) := (q_ne (q_tag e302 e304 (show (3 : Nat) ≠ 1000 by decide))).trans e302
  have e329 : (va_up f275 q2 (.inl (E.1, 16, .inl g306))) r3 = .inl (E.1, M3, .inl g_r3) := (q_ne (ne_mem hqq2 m_r3)).trans e303
  have hF330 : ∀ x, x ∈ L → x ≠ ho → x ≠ wd → x ≠ bl → x ≠ hst → x ≠ mac → x ≠ inn → x ≠ out → x ≠ o → x ≠ ke → x ≠ sta → x ≠ mo → x ≠ tu → x ≠ b → x ≠ r → (va_up f275 q2 (.inl (E.1, 16, .inl g306))) x = f x := fun x hx h0 h1 h2 h3 h4 h5 h6 h7 h8 h9 h10 h11 h12 h13 => (q_ne (ne_mem nl7 hx)).trans (hF305 x hx h0 h1 h2 h3 h4 h5 h6 h7 h8 h9 h10 h11 h12 h13)
  have Y : pH D cCl (pA L sz) s.heap L3 (va_up f275 q2 (.inl (E.1, 16, .inl g306))) H locs := Y
  generalize (va_up f275 q2 (.inl (E.1, 16, .inl g306))) = f308 at Y e309 e310 e311 e312 e313 e314 e315 e316 e317 e318 e319 e320 e321 e322 e323 e324 e325 e326 e327 e328 e329 hF330
  refine lv_aload_n X.1 X.2.1 d_Va_passwordKey_154 rfl (lv_at hl 3 rfl) ?_
  refine lv_aload X.1 X.2.1 d_Va_passwordKey_155 (lv_at hl 2 rfl) ?_
  refine lv_aload X.1 X.2.1 d_Va_passwordKey_157 (lv_at hl 2 rfl) ?_
  refine q_alen X.1 X.2.1 X.2.2.2.2 Y 0 m6 e309 rfl (v := nI (16)) rfl d_Va_passwordKey_159 ?_
  refine x_v (x_runV (As := [.ref q2, .int (nI (16))]) (rest := []) (n := 2) X Y hml hl.1 (c_Va_chain16 l D E T L3 f308 H.size v o tw ke sta mo q2 txo dro ho se coo deo tu b un kp (n280) (now) (ssz) (cat) (crw) g_tw g281 g_sta g_mo g306 m31 m39 m40 m41 m42 m43 m6 e310 e318 e319 e320 e321 e322 e309 f_tw hg282 f_sta f_mo hg307 ap_tw_ke ap_tw_sta ap_tw_mo (ne_mem hqq2 m_tw) ap_ke_sta ap_ke_mo (ne_mem hqq2 m_ke) ap_sta_mo (ne_mem hqq2 m_sta) (ne_mem hqq2 m_mo) (by omega)) (ok_k X Y hA KS KR) m31 e310 rfl kl_Va_Va_chain ks_Va_chain kx_Va_chain ki_Va_chain ini_Va ⟨rfl, rfl⟩ hd_Va_chain ⟨by decide, by decide⟩ rfl (Nat.le_of_ble_eq_true rfl) d_Va_passwordKey_160 ⟨(show 1 + 0 ≤ 1 by omega), (show 16 + (0) ≤ (16) by omega)⟩) X Y hA (fun u H locs hp Y => ?_)
  obtain ⟨L333, f332⟩ := u
  obtain ⟨eL335, hF334, g337, g338, g339, hg340, hg341, hg342, e343, e344, e345⟩ := hp
  dsimp only at eL335 hF334 e343 e344 e345 Y
  rw [eL335] at Y
  have e346 : f332 v = .inr (11, [.int now, .ref txo, .ref dro, .ref ho, .ref o, .ref se, .int ssz, .ref coo, .int cat, .int crw, .ref deo, .ref tu, .ref b]) := (hF334 v (q_tag e310 e321 (show (11 : Nat) ≠ 1000 by decide)) (q_tag e310 e322 (show (11 : Nat) ≠ 1000 by decide)) (q_tag e310 e309 (show (11 : Nat) ≠ 1000 by decide))).trans e310
  have e347 : f332 ho = .inr (6, [.ref wd, .ref bl, .ref hst, .ref inn, .ref out, .int (nI n215), .int v216, .ref mac]) := (hF334 ho (q_tag e311 e321 (show (6 : Nat) ≠ 1000 by decide)) (q_tag e311 e322 (show (6 : Nat) ≠ 1000 by decide)) (q_tag e311 e309 (show (6 : Nat) ≠ 1000 by decide))).trans e311
  have e348 : f332 wd = .inl (E.2.1, 80, .inl g217) := (hF334 wd ap_wd_sta ap_wd_mo (ne_mem hqq2 m_wd)).trans e312
  have e349 : f332 bl = .inl (E.1, 64, .inl g218) := (hF334 bl ap_bl_sta ap_bl_mo (ne_mem hqq2 m_bl)).trans e313
  have e350 : f332 hst = .inl (E.2.1, 5, .inl g219) := (hF334 hst ap_hst_sta ap_hst_mo (ne_mem hqq2 m_hst)).trans e314
  have e351 : f332 inn = .inl (E.2.1, 5, .inl g126) := (hF334 inn ap_inn_sta ap_inn_mo (ne_mem hqq2 m_inn)).trans e315
  have e352 : f332 out = .inl (E.2.1, 5, .inl g127) := (hF334 out ap_out_sta ap_out_mo (ne_mem hqq2 m_out)).trans e316
  have e353 : f332 mac = .inl (E.1, 20, .inl g220) := (hF334 mac ap_mac_sta ap_mac_mo (ne_mem hqq2 m_mac)).trans e317
  have e354 : f332 o = .inr (1, [.ref un, .ref tw, .ref ke, .int (nI n280), .ref sta, .ref mo, .ref kp]) := (hF334 o (q_tag e318 e321 (show (1 : Nat) ≠ 1000 by decide)) (q_tag e318 e322 (show (1 : Nat) ≠ 1000 by decide)) (q_tag e318 e309 (show (1 : Nat) ≠ 1000 by decide))).trans e318
  have e355 : f332 tw = .inl (E.2.1, 256, .inl g_tw) := (hF334 tw ap_tw_sta ap_tw_mo (ne_mem hqq2 m_tw)).trans e319
  have e356 : f332 ke = .inl (E.2.1, 240, .inl g281) := (hF334 ke ap_ke_sta ap_ke_mo (ne_mem hqq2 m_ke)).trans e320
  have e357 : f332 tu = .inl (E.1, 20, .inl g221) := (hF334 tu ap_sta_tu.symm ap_mo_tu.symm (ne_mem hqq2 m_tu)).trans e323
  have e358 : f332 b = .inr (3, [.ref r, .int (nI n178)]) := (hF334 b (q_tag e324 e321 (show (3 : Nat) ≠ 1000 by decide)) (q_tag e324 e322 (show (3 : Nat) ≠ 1000 by decide)) (q_tag e324 e309 (show (3 : Nat) ≠ 1000 by decide))).trans e324
  have e359 : f332 r = .inl (E.1, N, .inl g179) := (hF334 r ap_sta_r.symm ap_mo_r.symm (ne_mem hqq2 m_r)).trans e325
  have e360 : f332 b2 = .inr (3, [.ref r2, .int (nI n3)]) := (hF334 b2 (q_tag e326 e321 (show (3 : Nat) ≠ 1000 by decide)) (q_tag e326 e322 (show (3 : Nat) ≠ 1000 by decide)) (q_tag e326 e309 (show (3 : Nat) ≠ 1000 by decide))).trans e326
  have e361 : f332 r2 = .inl (E.1, M, .inl g_r2) := (hF334 r2 ap_sta_r2.symm ap_mo_r2.symm (ne_mem hqq2 m_r2)).trans e327
  have e362 : f332 b3 = .inr (3, [.ref r3, .int (nI n5)]) := (hF334 b3 (q_tag e328 e321 (show (3 : Nat) ≠ 1000 by decide)) (q_tag e328 e322 (show (3 : Nat) ≠ 1000 by decide)) (q_tag e328 e309 (show (3 : Nat) ≠ 1000 by decide))).trans e328
  have e363 : f332 r3 = .inl (E.1, M3, .inl g_r3) := (hF334 r3 ap_sta_r3.symm ap_mo_r3.symm (ne_mem hqq2 m_r3)).trans e329
  have hF364 : ∀ x, x ∈ L → x ≠ ho → x ≠ wd → x ≠ bl → x ≠ hst → x ≠ mac → x ≠ inn → x ≠ out → x ≠ o → x ≠ ke → x ≠ sta → x ≠ mo → x ≠ tu → x ≠ b → x ≠ r → f332 x = f x := fun x hx h0 h1 h2 h3 h4 h5 h6 h7 h8 h9 h10 h11 h12 h13 => (hF334 x h9 h10 (ne_mem nl7 hx)).trans (hF330 x hx h0 h1 h2 h3 h4 h5 h6 h7 h8 h9 h10 h11 h12 h13)
  refine lv_aload X.1 X.2.1 d_Va_passwordKey_163 (lv_at hl 2 rfl) ?_
  refine W.cs (cells' := 1) (slots' := 16) (by omega) (by omega) ?_
  exact k_retr hQQ X Y hr (Or.inr ⟨_, rfl⟩) hlk ⟨s5, hF364, (n215), (n280), (n178), (v216), g217, g218, g219, g220, g126, g127, g281, g337, g338, g221, g179, g339, m6, nl7, hg222, hg223, hg282, hg340, hg341, hg224, h182, hg342, (by omega), (by omega), (by omega), e347, e348, e349, e350, e353, e351, e352, e354, e356, e343, e344, e357, e358, e359, e345⟩ d_Va_passwordKey_165
set_option maxHeartbeats 4000000 in
set_option maxRecDepth 100000 in
theorem c_Va_sow (l : Launch) (D : va_G) (E : cE) (T : cT) (L : List Nat) (f : pF) (sz : Nat) (M v se b2 r2 txo dro ho o coo deo tu b n3 : Nat) (now ssz cat crw : Int32) (g_se g_r2 : Nat → Int32) (m_v : v ∈ L) (m_se : se ∈ L) (m_b2 : b2 ∈ L) (m_r2 : r2 ∈ L) (e_v : f v = .inr (11, [.int now, .ref txo, .ref dro, .ref ho, .ref o, .ref se, .int ssz, .ref coo, .int cat, .int crw, .ref deo, .ref tu, .ref b])) (e_se : f se = .inl (E.1, 64, .inl g_se)) (e_b2 : f b2 = .inr (3, [.ref r2, .int (nI n3)])) (e_r2 : f r2 = .inl (E.1, M, .inl g_r2)) (f_se : fB g_se) (f_r2 : fB g_r2) (ap_se_r2 : se ≠ r2) (hh0 : n3 ≤ M) (hh1 : M < 100000) : Met l y_Va_sow (k_Va_sow :: lw_tg) (kRm 1 60 0 (0)) (va_Pc [.ref v, .ref b2] (kPre D E T L f sz)) (va_Qv (fun (u : cU) => u.1 = L ∧ (∀ x, x ≠ v → x ≠ se → u.2 x = f x) ∧ ∃ (now2 ssz2 cat2 crw2 : Int32) (k_se : Nat → Int32), fB k_se ∧ u.2 v = .inr (11, [.int now2, .ref txo, .ref dro, .ref ho, .ref o, .ref se, .int ssz2, .ref coo, .int cat2, .int crw2, .ref deo, .ref tu, .ref b]) ∧ u.2 se = .inl (E.1, 64, .inl k_se)) (cPost D E (pA L sz)) (pA L sz)) 0 (0) (pA L sz) := by
  refine k_enter (own := R_Va) (by decide) rfl (Nat.le_of_ble_eq_true rfl) (fun p e s m below meth c ls AV QQ H locs hQQ X Y hA hin hr hlk hml hl KS KR => ?_)
  have hl : lv_has ls 2 [(0, .ref v), (1, .ref b2)] := hl
  refine lv_aload_n X.1 X.2.1 d_Va_sow_0 rfl (lv_at hl 0 rfl) ?_
  refine lv_bipush (v := (nI 64)) X.1 X.2.1 d_Va_sow_1 (by decide) ?_
  refine lv_aload_n X.1 X.2.1 d_Va_sow_3 rfl (lv_at hl 1 rfl) ?_
  refine q_get X.1 X.2.1 X.2.2.1 i_By X.2.2.2.1 X.2.2.2.2 Y m_b2 e_b2 rfl 1 (by decide) (X.2.2.1 _ lk_Va_77) (fun _ h9 => h9) rfl d_Va_sow_4 ?_
  refine va_mmin X.1 X.2.1 (hml.trans hl.1.symm) X.2.2.2.1 (X.2.2.1 _ kl_Va_mmin) (X.2.2.1 _ ks_mmin) (X.2.2.1 _ ini_Math) (X.2.2.1 _ ki_mmin) (Nat.le_of_ble_eq_true rfl) (Nat.le_of_ble_eq_true rfl) (show 0 ≤ 0 by omega) (show 0 ≤ (0) by omega) d_Va_sow_7 ?_
  refine t_eq (y := nI (min (64) (n3))) (mmin_nI (by omega) (by omega)) ?_
  refine q_put X.1 X.2.1 X.2.2.1 i_Va t_Va t_Va_ok n_Va X.2.2.2.1 X.2.2.2.2 Y m_v e_v rfl 6 (by decide) (X.2.2.1 _ lk_Va_100) (fun _ h9 => h9) rfl (t_Va_ok 6 (by decide)) rfl rfl (Nat.le_of_ble_eq_true rfl) d_Va_sow_10 (fun H locs Y => ?_)
  have e2 : (va_up f v (.inr (11, [.int now, .ref txo, .ref dro, .ref ho, .ref o, .ref se, .int (nI (min (64) (n3))), .ref coo, .int cat, .int crw, .ref deo, .ref tu, .ref b]))) v = .inr (11, [.int now, .ref txo, .ref dro, .ref ho, .ref o, .ref se, .int (nI (min (64) (n3))), .ref coo, .int cat, .int crw, .ref deo, .ref tu, .ref b]) := q_up
  have e3 : (va_up f v (.inr (11, [.int now, .ref txo, .ref dro, .ref ho, .ref o, .ref se, .int (nI (min (64) (n3))), .ref coo, .int cat, .int crw, .ref deo, .ref tu, .ref b]))) se = .inl (E.1, 64, .inl g_se) := (q_ne (q_tag e_se e_v (show (1000 : Nat) ≠ 11 by decide))).trans e_se
  have e4 : (va_up f v (.inr (11, [.int now, .ref txo, .ref dro, .ref ho, .ref o, .ref se, .int (nI (min (64) (n3))), .ref coo, .int cat, .int crw, .ref deo, .ref tu, .ref b]))) b2 = .inr (3, [.ref r2, .int (nI n3)]) := (q_ne (q_tag e_b2 e_v (show (3 : Nat) ≠ 11 by decide))).trans e_b2
  have e5 : (va_up f v (.inr (11, [.int now, .ref txo, .ref dro, .ref ho, .ref o, .ref se, .int (nI (min (64) (n3))), .ref coo, .int cat, .int crw, .ref deo, .ref tu, .ref b]))) r2 = .inl (E.1, M, .inl g_r2) := (q_ne (q_tag e_r2 e_v (show (1000 : Nat) ≠ 11 by decide))).trans e_r2
  have hF6 : ∀ x, x ≠ v → x ≠ se → (va_up f v (.inr (11, [.int now, .ref txo, .ref dro, .ref ho, .ref o, .ref se, .int (nI (min (64) (n3))), .ref coo, .int cat, .int crw, .ref deo, .ref tu, .ref b]))) x = f x := fun x h0 h1 => (q_ne h0).trans rfl
  have Y : pH D cCl (pA L sz) s.heap L (va_up f v (.inr (11, [.int now, .ref txo, .ref dro, .ref ho, .ref o, .ref se, .int (nI (min (64) (n3))), .ref coo, .int cat, .int crw, .ref deo, .ref tu, .ref b]))) H locs := Y
  generalize (va_up f v (.inr (11, [.int now, .ref txo, .ref dro, .ref ho, .ref o, .ref se, .int (nI (min (64) (n3))), .ref coo, .int cat, .int crw, .ref deo, .ref tu, .ref b]))) = f1 at Y e2 e3 e4 e5 hF6
  refine lv_aload_n X.1 X.2.1 d_Va_sow_13 rfl (lv_at hl 1 rfl) ?_
  refine q_get X.1 X.2.1 X.2.2.1 i_By X.2.2.2.1 X.2.2.2.2 Y m_b2 e4 rfl 0 (by decide) (X.2.2.1 _ lk_Va_86) (fun _ h9 => h9) rfl d_Va_sow_14 ?_
  refine lv_iconst (v := (nI 0)) X.1 X.2.1 d_Va_sow_17 (by decide) ?_
  refine lv_aload_n X.1 X.2.1 d_Va_sow_18 rfl (lv_at hl 0 rfl) ?_
  refine q_get X.1 X.2.1 X.2.2.1 i_Va X.2.2.2.1 X.2.2.2.2 Y m_v e2 rfl 5 (by decide) (X.2.2.1 _ lk_Va_42) (fun _ h9 => h9) rfl d_Va_sow_19 ?_
  refine lv_iconst (v := (nI 0)) X.1 X.2.1 d_Va_sow_22 (by decide) ?_
  refine lv_aload_n X.1 X.2.1 d_Va_sow_23 rfl (lv_at hl 0 rfl) ?_
  refine q_get X.1 X.2.1 X.2.2.1 i_Va X.2.2.2.1 X.2.2.2.2 Y m_v e2 rfl 6 (by decide) (X.2.2.1 _ lk_Va_100) (fun _ h9 => h9) rfl d_Va_sow_24 ?_
  refine q_copy X.1 X.2.1 (hml.trans hl.1.symm) X.2.2.2.1 (X.2.2.1 _ kl_Va_copy) (X.2.2.1 _ kn_copy) (X.2.2.1 _ ks_copy) (X.2.2.1 _ ini_Sys) X.2.2.2.2 Y 0 m_r2 e5 m_se e3 rfl rfl (show 0 + min (64) (n3) ≤ M by omega) (show 0 + min (64) (n3) ≤ 64 by omega) (by omega) (by omega) f_r2 (Nat.le_of_ble_eq_true rfl) (Nat.le_of_ble_eq_true rfl) d_Va_sow_27 (fun H locs Y => ?_)
  have hg8 : fB (va_cpy g_r2 g_se (0) (0) (min (64) (n3))) := fB_cpy f_r2 f_se
  generalize (va_cpy g_r2 g_se (0) (0) (min (64) (n3))) = g7 at Y hg8
  have e10 : (va_up f1 se (.inl (E.1, 64, .inl g7))) se = .inl (E.1, 64, .inl g7) := q_up
  have e11 : (va_up f1 se (.inl (E.1, 64, .inl g7))) v = .inr (11, [.int now, .ref txo, .ref dro, .ref ho, .ref o, .ref se, .int (nI (min (64) (n3))), .ref coo, .int cat, .int crw, .ref deo, .ref tu, .ref b]) := (q_ne (q_tag e2 e3 (show (11 : Nat) ≠ 1000 by decide))).trans e2
  have e12 : (va_up f1 se (.inl (E.1, 64, .inl g7))) b2 = .inr (3, [.ref r2, .int (nI n3)]) := (q_ne (q_tag e4 e3 (show (3 : Nat) ≠ 1000 by decide))).trans e4
  have e13 : (va_up f1 se (.inl (E.1, 64, .inl g7))) r2 = .inl (E.1, M, .inl g_r2) := (q_ne ap_se_r2.symm).trans e5
  have hF14 : ∀ x, x ≠ v → x ≠ se → (va_up f1 se (.inl (E.1, 64, .inl g7))) x = f x := fun x h0 h1 => (q_ne h1).trans (hF6 x h0 h1)
  have Y : pH D cCl (pA L sz) s.heap L (va_up f1 se (.inl (E.1, 64, .inl g7))) H locs := Y
  generalize (va_up f1 se (.inl (E.1, 64, .inl g7))) = f9 at Y e10 e11 e12 e13 hF14
  refine lv_aload_n X.1 X.2.1 d_Va_sow_30 rfl (lv_at hl 0 rfl) ?_
  refine lv_bipush (v := (nI 20)) X.1 X.2.1 d_Va_sow_31 (by decide) ?_
  refine q_put X.1 X.2.1 X.2.2.1 i_Va t_Va t_Va_ok n_Va X.2.2.2.1 X.2.2.2.2 Y m_v e11 rfl 8 (by decide) (X.2.2.1 _ lk_Va_49) (fun _ h9 => h9) rfl (t_Va_ok 8 (by decide)) rfl rfl (Nat.le_of_ble_eq_true rfl) d_Va_sow_33 (fun H locs Y => ?_)
  have e16 : (va_up f9 v (.inr (11, [.int now, .ref txo, .ref dro, .ref ho, .ref o, .ref se, .int (nI (min (64) (n3))), .ref coo, .int (nI 20), .int crw, .ref deo, .ref tu, .ref b]))) v = .inr (11, [.int now, .ref txo, .ref dro, .ref ho, .ref o, .ref se, .int (nI (min (64) (n3))), .ref coo, .int (nI 20), .int crw, .ref deo, .ref tu, .ref b]) := q_up
  have e17 : (va_up f9 v (.inr (11, [.int now, .ref txo, .ref dro, .ref ho, .ref o, .ref se, .int (nI (min (64) (n3))), .ref coo, .int (nI 20), .int crw, .ref deo, .ref tu, .ref b]))) se = .inl (E.1, 64, .inl g7) := (q_ne (q_tag e10 e11 (show (1000 : Nat) ≠ 11 by decide))).trans e10
  have e18 : (va_up f9 v (.inr (11, [.int now, .ref txo, .ref dro, .ref ho, .ref o, .ref se, .int (nI (min (64) (n3))), .ref coo, .int (nI 20), .int crw, .ref deo, .ref tu, .ref b]))) b2 = .inr (3, [.ref r2, .int (nI n3)]) := (q_ne (q_tag e12 e11 (show (3 : Nat) ≠ 11 by decide))).trans e12
  have e19 : (va_up f9 v (.inr (11, [.int now, .ref txo, .ref dro, .ref ho, .ref o, .ref se, .int (nI (min (64) (n3))), .ref coo, .int (nI 20), .int crw, .ref deo, .ref tu, .ref b]))) r2 = .inl (E.1, M, .inl g_r2) := (q_ne (q_tag e13 e11 (show (1000 : Nat) ≠ 11 by decide))).trans e13
  have hF20 : ∀ x, x ≠ v → x ≠ se → (va_up f9 v (.inr (11, [.int now, .ref txo, .ref dro, .ref ho, .ref o, .ref se, .int (nI (min (64) (n3))), .ref coo, .int (nI 20), .int crw, .ref deo, .ref tu, .ref b]))) x = f x := fun x h0 h1 => (q_ne h0).trans (hF14 x h0 h1)
  have Y : pH D cCl (pA L sz) s.heap L (va_up f9 v (.inr (11, [.int now, .ref txo, .ref dro, .ref ho, .ref o, .ref se, .int (nI (min (64) (n3))), .ref coo, .int (nI 20), .int crw, .ref deo, .ref tu, .ref b]))) H locs := Y
  generalize (va_up f9 v (.inr (11, [.int now, .ref txo, .ref dro, .ref ho, .ref o, .ref se, .int (nI (min (64) (n3))), .ref coo, .int (nI 20), .int crw, .ref deo, .ref tu, .ref b]))) = f15 at Y e16 e17 e18 e19 hF20
  refine lv_aload_n X.1 X.2.1 d_Va_sow_36 rfl (lv_at hl 0 rfl) ?_
  refine lv_iconst (v := (nI 0)) X.1 X.2.1 d_Va_sow_37 (by decide) ?_
  refine q_put X.1 X.2.1 X.2.2.1 i_Va t_Va t_Va_ok n_Va X.2.2.2.1 X.2.2.2.2 Y m_v e16 rfl 9 (by decide) (X.2.2.1 _ lk_Va_103) (fun _ h9 => h9) rfl (t_Va_ok 9 (by decide)) rfl rfl (Nat.le_of_ble_eq_true rfl) d_Va_sow_38 (fun H locs Y => ?_)
  have e22 : (va_up f15 v (.inr (11, [.int now, .ref txo, .ref dro, .ref ho, .ref o, .ref se, .int (nI (min (64) (n3))), .ref coo, .int (nI 20), .int (nI 0), .ref deo, .ref tu, .ref b]))) v = .inr (11, [.int now, .ref txo, .ref dro, .ref ho, .ref o, .ref se, .int (nI (min (64) (n3))), .ref coo, .int (nI 20), .int (nI 0), .ref deo, .ref tu, .ref b]) := q_up
  have e23 : (va_up f15 v (.inr (11, [.int now, .ref txo, .ref dro, .ref ho, .ref o, .ref se, .int (nI (min (64) (n3))), .ref coo, .int (nI 20), .int (nI 0), .ref deo, .ref tu, .ref b]))) se = .inl (E.1, 64, .inl g7) := (q_ne (q_tag e17 e16 (show (1000 : Nat) ≠ 11 by decide))).trans e17
  have e24 : (va_up f15 v (.inr (11, [.int now, .ref txo, .ref dro, .ref ho, .ref o, .ref se, .int (nI (min (64) (n3))), .ref coo, .int (nI 20), .int (nI 0), .ref deo, .ref tu, .ref b]))) b2 = .inr (3, [.ref r2, .int (nI n3)]) := (q_ne (q_tag e18 e16 (show (3 : Nat) ≠ 11 by decide))).trans e18
  have e25 : (va_up f15 v (.inr (11, [.int now, .ref txo, .ref dro, .ref ho, .ref o, .ref se, .int (nI (min (64) (n3))), .ref coo, .int (nI 20), .int (nI 0), .ref deo, .ref tu, .ref b]))) r2 = .inl (E.1, M, .inl g_r2) := (q_ne (q_tag e19 e16 (show (1000 : Nat) ≠ 11 by decide))).trans e19
  have hF26 : ∀ x, x ≠ v → x ≠ se → (va_up f15 v (.inr (11, [.int now, .ref txo, .ref dro, .ref ho, .ref o, .ref se, .int (nI (min (64) (n3))), .ref coo, .int (nI 20), .int (nI 0), .ref deo, .ref tu, .ref b]))) x = f x := fun x h0 h1 => (q_ne h0).trans (hF20 x h0 h1)
  have Y : pH D cCl (pA L sz) s.heap L (va_up f15 v (.inr (11, [.int now, .ref txo, .ref dro, .ref ho, .ref o, .ref se, .int (nI (min (64) (n3))), .ref coo, .int (nI 20), .int (nI 0), .ref deo, .ref tu, .ref b]))) H locs := Y
  generalize (va_up f15 v (.inr (11, [.int now, .ref txo, .ref dro, .ref ho, .ref o, .ref se, .int (nI (min (64) (n3))), .ref coo, .int (nI 20), .int (nI 0), .ref deo, .ref tu, .ref b]))) = f21 at Y e22 e23 e24 e25 hF26
  exact c_retv hQQ X Y hr hlk ⟨rfl, hF26, (now), ((nI (min (64) (n3)))), ((nI 20)), ((nI 0)), g7, hg8, e22, e23⟩ d_Va_sow_41
set_option maxHeartbeats 4000000 in
set_option maxRecDepth 100000 in
theorem c_Va_init (l : Launch) (D : va_G) (E : cE) (T : cT) (L : List Nat) (f : pF) (sz : Nat) (v : Nat) (m_v : v ∈ L) (e_v : f v = .inr (11, [.int (nI 0), .null, .null, .null, .null, .null, .int (nI 0), .null, .int (nI 0), .int (nI 0), .null, .null, .null])) : Met l y_Va_init (k_Va_init :: lw_tg) (kRm 2 41 24 (7856)) (va_Pc [.ref v] (kPre D E T L f sz)) (va_Qv (fun (u : cU) => (∀ x, x ∈ L → x ∈ u.1) ∧ (∀ x, x ∈ L → x ≠ v → u.2 x = f x) ∧ ∃ (ho wd bl hst inn out mac o tw ke sta mo se tu b r txo dro coo deo un kp : Nat) (k_wd k_bl k_hst k_inn k_out k_mac k_tw k_ke k_sta k_mo k_se k_tu k_r : Nat → Int32), ho ∈ u.1 ∧ ho ∉ L ∧ wd ∈ u.1 ∧ wd ∉ L ∧ bl ∈ u.1 ∧ bl ∉ L ∧ hst ∈ u.1 ∧ hst ∉ L ∧ inn ∈ u.1 ∧ inn ∉ L ∧ out ∈ u.1 ∧ out ∉ L ∧ mac ∈ u.1 ∧ mac ∉ L ∧ o ∈ u.1 ∧ o ∉ L ∧ tw ∈ u.1 ∧ tw ∉ L ∧ ke ∈ u.1 ∧ ke ∉ L ∧ sta ∈ u.1 ∧ sta ∉ L ∧ mo ∈ u.1 ∧ mo ∉ L ∧ se ∈ u.1 ∧ se ∉ L ∧ tu ∈ u.1 ∧ tu ∉ L ∧ b ∈ u.1 ∧ b ∉ L ∧ r ∈ u.1 ∧ r ∉ L ∧ wd ≠ bl ∧ wd ≠ hst ∧ wd ≠ inn ∧ wd ≠ out ∧ wd ≠ mac ∧ wd ≠ tw ∧ wd ≠ ke ∧ wd ≠ sta ∧ wd ≠ mo ∧ wd ≠ se ∧ wd ≠ tu ∧ wd ≠ r ∧ bl ≠ hst ∧ bl ≠ inn ∧ bl ≠ out ∧ bl ≠ mac ∧ bl ≠ tw ∧ bl ≠ ke ∧ bl ≠ sta ∧ bl ≠ mo ∧ bl ≠ se ∧ bl ≠ tu ∧ bl ≠ r ∧ hst ≠ inn ∧ hst ≠ out ∧ hst ≠ mac ∧ hst ≠ tw ∧ hst ≠ ke ∧ hst ≠ sta ∧ hst ≠ mo ∧ hst ≠ se ∧ hst ≠ tu ∧ hst ≠ r ∧ inn ≠ out ∧ inn ≠ mac ∧ inn ≠ tw ∧ inn ≠ ke ∧ inn ≠ sta ∧ inn ≠ mo ∧ inn ≠ se ∧ inn ≠ tu ∧ inn ≠ r ∧ out ≠ mac ∧ out ≠ tw ∧ out ≠ ke ∧ out ≠ sta ∧ out ≠ mo ∧ out ≠ se ∧ out ≠ tu ∧ out ≠ r ∧ mac ≠ tw ∧ mac ≠ ke ∧ mac ≠ sta ∧ mac ≠ mo ∧ mac ≠ se ∧ mac ≠ tu ∧ mac ≠ r ∧ tw ≠ ke ∧ tw ≠ sta ∧ tw ≠ mo ∧ tw ≠ se ∧ tw ≠ tu ∧ tw ≠ r ∧ ke ≠ sta ∧ ke ≠ mo ∧ ke ≠ se ∧ ke ≠ tu ∧ ke ≠ r ∧ sta ≠ mo ∧ sta ≠ se ∧ sta ≠ tu ∧ sta ≠ r ∧ mo ≠ se ∧ mo ≠ tu ∧ mo ≠ r ∧ se ≠ tu ∧ se ≠ r ∧ tu ≠ r ∧ fB k_bl ∧ fB k_mac ∧ by8 k_tw ∧ by8 k_ke ∧ by8 k_sta ∧ by8 k_mo ∧ fB k_se ∧ fB k_tu ∧ fB k_r ∧ u.2 v = .inr (11, [.int (nI 1000000000), .ref txo, .ref dro, .ref ho, .ref o, .ref se, .int (nI 0), .ref coo, .int (nI 20), .int (nI 0), .ref deo, .ref tu, .ref b]) ∧ u.2 ho = .inr (6, [.ref wd, .ref bl, .ref hst, .ref inn, .ref out, .int (nI 0), .int (nI 0), .ref mac]) ∧ u.2 wd = .inl (E.2.1, 80, .inl k_wd) ∧ u.2 bl = .inl (E.1, 64, .inl k_bl) ∧ u.2 hst = .inl (E.2.1, 5, .inl k_hst) ∧ u.2 inn = .inl (E.2.1, 5, .inl k_inn) ∧ u.2 out = .inl (E.2.1, 5, .inl k_out) ∧ u.2 mac = .inl (E.1, 20, .inl k_mac) ∧ u.2 o = .inr (1, [.ref un, .ref tw, .ref ke, .int (nI 0), .ref sta, .ref mo, .ref kp]) ∧ u.2 tw = .inl (E.2.1, 256, .inl k_tw) ∧ u.2 ke = .inl (E.2.1, 240, .inl k_ke) ∧ u.2 sta = .inl (E.2.1, 16, .inl k_sta) ∧ u.2 mo = .inl (E.2.1, 16, .inl k_mo) ∧ u.2 se = .inl (E.1, 64, .inl k_se) ∧ u.2 tu = .inl (E.1, 20, .inl k_tu) ∧ u.2 b = .inr (3, [.ref r, .int (nI 0)]) ∧ u.2 r = .inl (E.1, 64, .inl k_r)) (cPost D E (pA L sz)) (pA L sz)) 24 (7856) (pA L sz) := by
  refine k_enter (own := R_Va) (by decide) rfl (Nat.le_of_ble_eq_true rfl) (fun p e s m below meth c ls AV QQ H locs hQQ X Y hA hin hr hlk hml hl KS KR => ?_)
  have hl : lv_has ls 1 [(0, .ref v)] := hl
  refine lv_aload_n X.1 X.2.1 d_Va_init_0 rfl (lv_at hl 0 rfl) ?_
  refine W.objInit X.1 X.2.1 X.2.2.2.1 (X.2.2.1 _ ol_Va) (X.2.2.1 _ o_inst) (X.2.2.1 _ o_code) rfl (by rw [hml]; exact hl.1) rfl d_Va_init_1 (Nat.le_of_ble_eq_true rfl) (Nat.le_of_ble_eq_true rfl) ?_
  refine W.eq (g2 := F0 m 4 ls []) rfl ?_
  refine lv_aload_n X.1 X.2.1 d_Va_init_4 rfl (lv_at hl 0 rfl) ?_
  refine lv_ldc (v := (1000000000)) X.1 X.2.1 X.2.2.2.1 (X.2.2.1 _ cn_Va_9) d_Va_init_5 ?_
  refine t_eq (y := nI 1000000000) (by decide) ?_
  refine q_put X.1 X.2.1 X.2.2.1 i_Va t_Va t_Va_ok n_Va X.2.2.2.1 X.2.2.2.2 Y m_v e_v rfl 0 (by decide) (X.2.2.1 _ lk_Va_10) (fun _ h9 => h9) rfl (t_Va_ok 0 (by decide)) rfl rfl (Nat.le_of_ble_eq_true rfl) d_Va_init_7 (fun H locs Y => ?_)
  have e2 : (va_up f v (.inr (11, [.int (nI 1000000000), .null, .null, .null, .null, .null, .int (nI 0), .null, .int (nI 0), .int (nI 0), .null, .null, .null]))) v = .inr (11, [.int (nI 1000000000), .null, .null, .null, .null, .null, .int (nI 0), .null, .int (nI 0), .int (nI 0), .null, .null, .null]) := q_up
  have hF3 : ∀ x, x ∈ L → x ≠ v → (va_up f v (.inr (11, [.int (nI 1000000000), .null, .null, .null, .null, .null, .int (nI 0), .null, .int (nI 0), .int (nI 0), .null, .null, .null]))) x = f x := fun x hx h0 => (q_ne h0).trans rfl
  have Y : pH D cCl (pA L sz) s.heap L (va_up f v (.inr (11, [.int (nI 1000000000), .null, .null, .null, .null, .null, .int (nI 0), .null, .int (nI 0), .int (nI 0), .null, .null, .null]))) H locs := Y
  generalize (va_up f v (.inr (11, [.int (nI 1000000000), .null, .null, .null, .null, .null, .int (nI 0), .null, .int (nI 0), .int (nI 0), .null, .null, .null]))) = f1 at Y e2 hF3
  refine lv_aload_n X.1 X.2.1 d_Va_init_10 rfl (lv_at hl 0 rfl) ?_
  refine q_new X.1 X.2.1 X.2.2.1 i_By t_By t_By_ok X.2.2.2.1 (X.2.2.1 _ ck_Va_16) (X.2.2.1 _ mk_By) (X.2.2.1 _ ini_By) X.2.2.2.2 Y hA (ci := 3) rfl (fs := [.null, .int (nI 0)]) (fun j hj => match j, hj with | 0, _ => rfl | 1, _ => rfl | n9 + 2, h9 => absurd (show n9 + 2 < 2 from h9) (by omega)) (show 0 + 1 ≤ 24 by omega) (show 0 + 2 ≤ (7856) by omega) d_Va_init_11 (fun q4 H hqq4 Y => ?_)
  have Y : pH D cCl (pA L sz) s.heap (L ++ [q4]) (va_up f1 q4 (.inr (3, [.null, .int (nI 0)]))) H locs := Y
  have e11 : (va_up f1 q4 (.inr (3, [.null, .int (nI 0)]))) q4 = .inr (3, [.null, .int (nI 0)]) := q_up
  have e12 : (va_up f1 q4 (.inr (3, [.null, .int (nI 0)]))) v = .inr (11, [.int (nI 1000000000), .null, .null, .null, .null, .null, .int (nI 0), .null, .int (nI 0), .int (nI 0), .null, .null, .null]) := (q_ne (ne_mem hqq4 m_v)).trans e2
  have nl9 : q4 ∉ L := fun h9 => hqq4 h9
  have hF13 : ∀ x, x ∈ L → x ≠ v → (va_up f1 q4 (.inr (3, [.null, .int (nI 0)]))) x = f x := fun x hx h0 => (q_ne (ne_mem nl9 hx)).trans (hF3 x hx h0)
  generalize (va_up f1 q4 (.inr (3, [.null, .int (nI 0)]))) = f10 at Y e11 e12 hF13
  have s7 : ∀ x, x ∈ L → x ∈ L ++ [q4] := fun x hx => List.mem_append_left _ hx
  have m14 : v ∈ L ++ [q4] := List.mem_append_left _ m_v
  have m8 : q4 ∈ L ++ [q4] := List.mem_append_right _ (List.mem_singleton.mpr rfl)
  generalize L ++ [q4] = L5 at Y s7 m14 m8
  refine lv_dup X.1 X.2.1 d_Va_init_14 rfl ?_
  refine lv_sipush (v := (nI 6144)) X.1 X.2.1 d_Va_init_15 (by decide) ?_
  refine x_v (x_runI (As := [.int (nI 6144)]) (rest := [.ref q4, .ref v]) (n := 1) X hml hl.1 (c_By_init l D E T L5 f10 H.size (6144) q4 m8 e11 (by omega)) (ok_k X Y hA KS KR) kl_Va_By_init ks_By_init ki_By_init ini_By rfl ⟨rfl, rfl⟩ hd_By_init.2 ⟨by decide, by decide⟩ rfl (Nat.le_of_ble_eq_true rfl) d_Va_init_18 ⟨(show 1 + 1 ≤ 24 by omega), (show 2 + (6144) ≤ (7856) by omega)⟩) X Y hA (fun u H locs hp Y => ?_)
  obtain ⟨L17, f16⟩ := u
  obtain ⟨eL19, hF18, q21, g22, m23, nl24, hg25, e26, e27⟩ := hp
  dsimp only at eL19 hF18 m23 e26 e27 Y
  have e28 : f16 v = .inr (11, [.int (nI 1000000000), .null, .null, .null, .null, .null, .int (nI 0), .null, .int (nI 0), .int (nI 0), .null, .null, .null]) := (hF18 v m14 (q_tag e12 e11 (show (11 : Nat) ≠ 3 by decide))).trans e12
  have hF29 : ∀ x, x ∈ L → x ≠ v → f16 x = f x := fun x hx h0 => (hF18 x (s7 x hx) (ne_mem nl9 hx)).trans (hF13 x hx h0)
  have s30 : ∀ x, x ∈ L → x ∈ L17 := fun x hx => eL19 x (s7 x hx)
  have nl31 : q21 ∉ L := fun h9 => nl24 (s7 _ h9)
  have m32 : v ∈ L17 := eL19 _ m14
  have m33 : q4 ∈ L17 := eL19 _ m8
  refine q_putF X.1 X.2.1 X.2.2.1 i_Va t_Va t_Va_ok n_Va X.2.2.2.1 X.2.2.2.2 Y m32 e28 rfl 1 (by decide) (X.2.2.1 _ lk_Va_21) (fun _ h9 => h9) rfl hin rfl (t_Va_ok 1 (by decide)) rfl rfl (Nat.le_of_ble_eq_true rfl) d_Va_init_21 (fun H locs Y => ?_)
  have e35 : (va_up f16 v (.inr (11, [.int (nI 1000000000), .ref q4, .null, .null, .null, .null, .int (nI 0), .null, .int (nI 0), .int (nI 0), .null, .null, .null]))) v = .inr (11, [.int (nI 1000000000), .ref q4, .null, .null, .null, .null, .int (nI 0), .null, .int (nI 0), .int (nI 0), .null, .null, .null]) := q_up
  have e36 : (va_up f16 v (.inr (11, [.int (nI 1000000000), .ref q4, .null, .null, .null, .null, .int (nI 0), .null, .int (nI 0), .int (nI 0), .null, .null, .null]))) q4 = .inr (3, [.ref q21, .int (nI 0)]) := (q_ne (q_tag e26 e28 (show (3 : Nat) ≠ 11 by decide))).trans e26
  have e37 : (va_up f16 v (.inr (11, [.int (nI 1000000000), .ref q4, .null, .null, .null, .null, .int (nI 0), .null, .int (nI 0), .int (nI 0), .null, .null, .null]))) q21 = .inl (E.1, 6144, .inl g22) := (q_ne (q_tag e27 e28 (show (1000 : Nat) ≠ 11 by decide))).trans e27
  have hF38 : ∀ x, x ∈ L → x ≠ v → (va_up f16 v (.inr (11, [.int (nI 1000000000), .ref q4, .null, .null, .null, .null, .int (nI 0), .null, .int (nI 0), .int (nI 0), .null, .null, .null]))) x = f x := fun x hx h0 => (q_ne h0).trans (hF29 x hx h0)
  have Y : pH D cCl (pA L sz) s.heap L17 (va_up f16 v (.inr (11, [.int (nI 1000000000), .ref q4, .null, .null, .null, .null, .int (nI 0), .null, .int (nI 0), .int (nI 0), .null, .null, .null]))) H locs := Y
  generalize (va_up f16 v (.inr (11, [.int (nI 1000000000), .ref q4, .null, .null, .null, .null, .int (nI 0), .null, .int (nI 0), .int (nI 0), .null, .null, .null]))) = f34 at Y e35 e36 e37 hF38
  refine lv_aload_n X.1 X.2.1 d_Va_init_24 rfl (lv_at hl 0 rfl) ?_
  refine q_new X.1 X.2.1 X.2.2.1 i_By t_By t_By_ok X.2.2.2.1 (X.2.2.1 _ ck_Va_16) (X.2.2.1 _ mk_By) (X.2.2.1 _ ini_By) X.2.2.2.2 Y hA (ci := 3) rfl (fs := [.null, .int (nI 0)]) (fun j hj => match j, hj with | 0, _ => rfl | 1, _ => rfl | n9 + 2, h9 => absurd (show n9 + 2 < 2 from h9) (by omega)) (show 2 + 1 ≤ 24 by omega) (show 6146 + 2 ≤ (7856) by omega) d_Va_init_25 (fun q39 H hqq39 Y => ?_)
  have Y : pH D cCl (pA L sz) s.heap (L17 ++ [q39]) (va_up f34 q39 (.inr (3, [.null, .int (nI 0)]))) H locs := Y
  have e46 : (va_up f34 q39 (.inr (3, [.null, .int (nI 0)]))) q39 = .inr (3, [.null, .int (nI 0)]) := q_up
  have e47 : (va_up f34 q39 (.inr (3, [.null, .int (nI 0)]))) v = .inr (11, [.int (nI 1000000000), .ref q4, .null, .null, .null, .null, .int (nI 0), .null, .int (nI 0), .int (nI 0), .null, .null, .null]) := (q_ne (ne_mem hqq39 m32)).trans e35
  have e48 : (va_up f34 q39 (.inr (3, [.null, .int (nI 0)]))) q4 = .inr (3, [.ref q21, .int (nI 0)]) := (q_ne (ne_mem hqq39 m33)).trans e36
  have e49 : (va_up f34 q39 (.inr (3, [.null, .int (nI 0)]))) q21 = .inl (E.1, 6144, .inl g22) := (q_ne (ne_mem hqq39 m23)).trans e37
  have nl44 : q39 ∉ L := fun h9 => hqq39 (s30 _ h9)
  have hF50 : ∀ x, x ∈ L → x ≠ v → (va_up f34 q39 (.inr (3, [.null, .int (nI 0)]))) x = f x := fun x hx h0 => (q_ne (ne_mem nl44 hx)).trans (hF38 x hx h0)
  generalize (va_up f34 q39 (.inr (3, [.null, .int (nI 0)]))) = f45 at Y e46 e47 e48 e49 hF50
  have s42 : ∀ x, x ∈ L → x ∈ L17 ++ [q39] := fun x hx => List.mem_append_left _ (s30 x hx)
  have m51 : v ∈ L17 ++ [q39] := List.mem_append_left _ m32
  have m52 : q4 ∈ L17 ++ [q39] := List.mem_append_left _ m33
  have m53 : q21 ∈ L17 ++ [q39] := List.mem_append_left _ m23
  have m43 : q39 ∈ L17 ++ [q39] := List.mem_append_right _ (List.mem_singleton.mpr rfl)
  generalize L17 ++ [q39] = L40 at Y s42 m51 m52 m53 m43
  refine lv_dup X.1 X.2.1 d_Va_init_28 rfl ?_
  refine lv_sipush (v := (nI 512)) X.1 X.2.1 d_Va_init_29 (by decide) ?_
  refine x_v (x_runI (As := [.int (nI 512)]) (rest := [.ref q39, .ref v]) (n := 1) X hml hl.1 (c_By_init l D E T L40 f45 H.size (512) q39 m43 e46 (by omega)) (ok_k X Y hA KS KR) kl_Va_By_init ks_By_init ki_By_init ini_By rfl ⟨rfl, rfl⟩ hd_By_init.2 ⟨by decide, by decide⟩ rfl (Nat.le_of_ble_eq_true rfl) d_Va_init_32 ⟨(show 3 + 1 ≤ 24 by omega), (show 6148 + (512) ≤ (7856) by omega)⟩) X Y hA (fun u H locs hp Y => ?_)
  obtain ⟨L56, f55⟩ := u
  obtain ⟨eL58, hF57, q60, g61, m62, nl63, hg64, e65, e66⟩ := hp
  dsimp only at eL58 hF57 m62 e65 e66 Y
  have e67 : f55 v = .inr (11, [.int (nI 1000000000), .ref q4, .null, .null, .null, .null, .int (nI 0), .null, .int (nI 0), .int (nI 0), .null, .null, .null]) := (hF57 v m51 (q_tag e47 e46 (show (11 : Nat) ≠ 3 by decide))).trans e47
  have e68 : f55 q4 = .inr (3, [.ref q21, .int (nI 0)]) := (hF57 q4 m52 (ne_mem hqq39 m33)).trans e48
  have e69 : f55 q21 = .inl (E.1, 6144, .inl g22) := (hF57 q21 m53 (q_tag e49 e46 (show (1000 : Nat) ≠ 3 by decide))).trans e49
  have hF70 : ∀ x, x ∈ L → x ≠ v → f55 x = f x := fun x hx h0 => (hF57 x (s42 x hx) (ne_mem nl44 hx)).trans (hF50 x hx h0)
  have s71 : ∀ x, x ∈ L → x ∈ L56 := fun x hx => eL58 x (s42 x hx)
  have nl72 : q60 ∉ L := fun h9 => nl63 (s42 _ h9)
  have m73 : v ∈ L56 := eL58 _ m51
  have m74 : q4 ∈ L56 := eL58 _ m52
  have m75 : q21 ∈ L56 := eL58 _ m53
  have m76 : q39 ∈ L56 := eL58 _ m43
  refine q_putF X.1 X.2.1 X.2.2.1 i_Va t_Va t_Va_ok n_Va X.2.2.2.1 X.2.2.2.2 Y m73 e67 rfl 2 (by decide) (X.2.2.1 _ lk_Va_25) (fun _ h9 => h9) rfl hin rfl (t_Va_ok 2 (by decide)) rfl rfl (Nat.le_of_ble_eq_true rfl) d_Va_init_35 (fun H locs Y => ?_)
  have e78 : (va_up f55 v (.inr (11, [.int (nI 1000000000), .ref q4, .ref q39, .null, .null, .null, .int (nI 0), .null, .int (nI 0), .int (nI 0), .null, .null, .null]))) v = .inr (11, [.int (nI 1000000000), .ref q4, .ref q39, .null, .null, .null, .int (nI 0), .null, .int (nI 0), .int (nI 0), .null, .null, .null]) := q_up
  have e79 : (va_up f55 v (.inr (11, [.int (nI 1000000000), .ref q4, .ref q39, .null, .null, .null, .int (nI 0), .null, .int (nI 0), .int (nI 0), .null, .null, .null]))) q4 = .inr (3, [.ref q21, .int (nI 0)]) := (q_ne (q_tag e68 e67 (show (3 : Nat) ≠ 11 by decide))).trans e68
  have e80 : (va_up f55 v (.inr (11, [.int (nI 1000000000), .ref q4, .ref q39, .null, .null, .null, .int (nI 0), .null, .int (nI 0), .int (nI 0), .null, .null, .null]))) q21 = .inl (E.1, 6144, .inl g22) := (q_ne (q_tag e69 e67 (show (1000 : Nat) ≠ 11 by decide))).trans e69
  have e81 : (va_up f55 v (.inr (11, [.int (nI 1000000000), .ref q4, .ref q39, .null, .null, .null, .int (nI 0), .null, .int (nI 0), .int (nI 0), .null, .null, .null]))) q39 = .inr (3, [.ref q60, .int (nI 0)]) := (q_ne (q_tag e65 e67 (show (3 : Nat) ≠ 11 by decide))).trans e65
  have e82 : (va_up f55 v (.inr (11, [.int (nI 1000000000), .ref q4, .ref q39, .null, .null, .null, .int (nI 0), .null, .int (nI 0), .int (nI 0), .null, .null, .null]))) q60 = .inl (E.1, 512, .inl g61) := (q_ne (q_tag e66 e67 (show (1000 : Nat) ≠ 11 by decide))).trans e66
  have hF83 : ∀ x, x ∈ L → x ≠ v → (va_up f55 v (.inr (11, [.int (nI 1000000000), .ref q4, .ref q39, .null, .null, .null, .int (nI 0), .null, .int (nI 0), .int (nI 0), .null, .null, .null]))) x = f x := fun x hx h0 => (q_ne h0).trans (hF70 x hx h0)
  have Y : pH D cCl (pA L sz) s.heap L56 (va_up f55 v (.inr (11, [.int (nI 1000000000), .ref q4, .ref q39, .null, .null, .null, .int (nI 0), .null, .int (nI 0), .int (nI 0), .null, .null, .null]))) H locs := Y
  generalize (va_up f55 v (.inr (11, [.int (nI 1000000000), .ref q4, .ref q39, .null, .null, .null, .int (nI 0), .null, .int (nI 0), .int (nI 0), .null, .null, .null]))) = f77 at Y e78 e79 e80 e81 e82 hF83
  refine lv_aload_n X.1 X.2.1 d_Va_init_38 rfl (lv_at hl 0 rfl) ?_
  refine q_new X.1 X.2.1 X.2.2.1 i_Ha t_Ha t_Ha_ok X.2.2.2.1 (X.2.2.1 _ ck_Va_28) (X.2.2.1 _ mk_Ha) (X.2.2.1 _ ini_Ha) X.2.2.2.2 Y hA (ci := 6) rfl (fs := [.null, .null, .null, .null, .null, .int (nI 0), .int (nI 0), .null]) (fun j hj => match j, hj with | 0, _ => rfl | 1, _ => rfl | 2, _ => rfl | 3, _ => rfl | 4, _ => rfl | 5, _ => rfl | 6, _ => rfl | 7, _ => rfl | n9 + 8, h9 => absurd (show n9 + 8 < 8 from h9) (by omega)) (show 4 + 1 ≤ 24 by omega) (show 6660 + 8 ≤ (7856) by omega) d_Va_init_39 (fun q84 H hqq84 Y => ?_)
  have Y : pH D cCl (pA L sz) s.heap (L56 ++ [q84]) (va_up f77 q84 (.inr (6, [.null, .null, .null, .null, .null, .int (nI 0), .int (nI 0), .null]))) H locs := Y
  have e91 : (va_up f77 q84 (.inr (6, [.null, .null, .null, .null, .null, .int (nI 0), .int (nI 0), .null]))) q84 = .inr (6, [.null, .null, .null, .null, .null, .int (nI 0), .int (nI 0), .null]) := q_up
  have e92 : (va_up f77 q84 (.inr (6, [.null, .null, .null, .null, .null, .int (nI 0), .int (nI 0), .null]))) v = .inr (11, [.int (nI 1000000000), .ref q4, .ref q39, .null, .null, .null, .int (nI 0), .null, .int (nI 0), .int (nI 0), .null, .null, .null]) := (q_ne (ne_mem hqq84 m73)).trans e78
  have e93 : (va_up f77 q84 (.inr (6, [.null, .null, .null, .null, .null, .int (nI 0), .int (nI 0), .null]))) q4 = .inr (3, [.ref q21, .int (nI 0)]) := (q_ne (ne_mem hqq84 m74)).trans e79
  have e94 : (va_up f77 q84 (.inr (6, [.null, .null, .null, .null, .null, .int (nI 0), .int (nI 0), .null]))) q21 = .inl (E.1, 6144, .inl g22) := (q_ne (ne_mem hqq84 m75)).trans e80
  have e95 : (va_up f77 q84 (.inr (6, [.null, .null, .null, .null, .null, .int (nI 0), .int (nI 0), .null]))) q39 = .inr (3, [.ref q60, .int (nI 0)]) := (q_ne (ne_mem hqq84 m76)).trans e81
  have e96 : (va_up f77 q84 (.inr (6, [.null, .null, .null, .null, .null, .int (nI 0), .int (nI 0), .null]))) q60 = .inl (E.1, 512, .inl g61) := (q_ne (ne_mem hqq84 m62)).trans e82
  have nl89 : q84 ∉ L := fun h9 => hqq84 (s71 _ h9)
  have hF97 : ∀ x, x ∈ L → x ≠ v → (va_up f77 q84 (.inr (6, [.null, .null, .null, .null, .null, .int (nI 0), .int (nI 0), .null]))) x = f x := fun x hx h0 => (q_ne (ne_mem nl89 hx)).trans (hF83 x hx h0)
  generalize (va_up f77 q84 (.inr (6, [.null, .null, .null, .null, .null, .int (nI 0), .int (nI 0), .null]))) = f90 at Y e91 e92 e93 e94 e95 e96 hF97
  have s87 : ∀ x, x ∈ L → x ∈ L56 ++ [q84] := fun x hx => List.mem_append_left _ (s71 x hx)
  have m98 : v ∈ L56 ++ [q84] := List.mem_append_left _ m73
  have m99 : q4 ∈ L56 ++ [q84] := List.mem_append_left _ m74
  have m100 : q21 ∈ L56 ++ [q84] := List.mem_append_left _ m75
  have m101 : q39 ∈ L56 ++ [q84] := List.mem_append_left _ m76
  have m102 : q60 ∈ L56 ++ [q84] := List.mem_append_left _ m62
  have m88 : q84 ∈ L56 ++ [q84] := List.mem_append_right _ (List.mem_singleton.mpr rfl)
  generalize L56 ++ [q84] = L85 at Y s87 m98 m99 m100 m101 m102 m88
  refine lv_dup X.1 X.2.1 d_Va_init_42 rfl ?_
  refine x_v (x_runIN (As := []) (rest := [.ref q84, .ref v]) (n := 0) X KR hml hl.1 (c_Ha_init l D E T L85 f90 H.size q84 m88 e91) (ok_k X Y hA KS KR) (by decide) ks_Ha_init ki_Ha_init ini_Ha rfl ⟨rfl, rfl⟩ hd_Ha_init.2 ⟨by decide, by decide⟩ rfl (Nat.le_of_ble_eq_true rfl) d_Va_init_43 ⟨(show 5 + 6 ≤ 24 by omega), (show 6668 + (179) ≤ (7856) by omega)⟩) X Y hA (fun u H locs hp Y => ?_)
  obtain ⟨L105, f104⟩ := u
  obtain ⟨eL107, hF106, q109, q110, q111, q112, q113, q114, g115, g116, g117, g118, g119, g120, m121, nl127, m122, nl128, m123, nl129, m124, nl130, m125, nl131, m126, nl132, ap133, ap134, ap135, ap136, ap137, ap138, ap139, ap140, ap141, ap142, ap143, ap144, ap145, ap146, ap147, hg148, hg149, e150, e151, e152, e153, e154, e155, e156⟩ := hp
  dsimp only at eL107 hF106 m121 m122 m123 m124 m125 m126 e150 e151 e152 e153 e154 e155 e156 Y
  have e157 : f104 v = .inr (11, [.int (nI 1000000000), .ref q4, .ref q39, .null, .null, .null, .int (nI 0), .null, .int (nI 0), .int (nI 0), .null, .null, .null]) := (hF106 v m98 (q_tag e92 e91 (show (11 : Nat) ≠ 6 by decide))).trans e92
  have e158 : f104 q4 = .inr (3, [.ref q21, .int (nI 0)]) := (hF106 q4 m99 (q_tag e93 e91 (show (3 : Nat) ≠ 6 by decide))).trans e93
  have e159 : f104 q21 = .inl (E.1, 6144, .inl g22) := (hF106 q21 m100 (q_tag e94 e91 (show (1000 : Nat) ≠ 6 by decide))).trans e94
  have e160 : f104 q39 = .inr (3, [.ref q60, .int (nI 0)]) := (hF106 q39 m101 (q_tag e95 e91 (show (3 : Nat) ≠ 6 by decide))).trans e95
  have e161 : f104 q60 = .inl (E.1, 512, .inl g61) := (hF106 q60 m102 (q_tag e96 e91 (show (1000 : Nat) ≠ 6 by decide))).trans e96
  have hF162 : ∀ x, x ∈ L → x ≠ v → f104 x = f x := fun x hx h0 => (hF106 x (s87 x hx) (ne_mem nl89 hx)).trans (hF97 x hx h0)
  have s163 : ∀ x, x ∈ L → x ∈ L105 := fun x hx => eL107 x (s87 x hx)
  have nl164 : q109 ∉ L := fun h9 => nl127 (s87 _ h9)
  have nl165 : q110 ∉ L := fun h9 => nl128 (s87 _ h9)
  have nl166 : q111 ∉ L := fun h9 => nl129 (s87 _ h9)
  have nl167 : q112 ∉ L := fun h9 => nl130 (s87 _ h9)
  have nl168 : q113 ∉ L := fun h9 => nl131 (s87 _ h9)
  have nl169 : q114 ∉ L := fun h9 => nl132 (s87 _ h9)
  have m170 : v ∈ L105 := eL107 _ m98
  have m171 : q4 ∈ L105 := eL107 _ m99
  have m172 : q21 ∈ L105 := eL107 _ m100
  have m173 : q39 ∈ L105 := eL107 _ m101
  have m174 : q60 ∈ L105 := eL107 _ m102
  have m175 : q84 ∈ L105 := eL107 _ m88
  refine q_putF X.1 X.2.1 X.2.2.1 i_Va t_Va t_Va_ok n_Va X.2.2.2.1 X.2.2.2.2 Y m170 e157 rfl 3 (by decide) (X.2.2.1 _ lk_Va_31) (fun _ h9 => h9) rfl hin rfl (t_Va_ok 3 (by decide)) rfl rfl (Nat.le_of_ble_eq_true rfl) d_Va_init_46 (fun H locs Y => ?_)
  have e177 : (va_up f104 v (.inr (11, [.int (nI 1000000000), .ref q4, .ref q39, .ref q84, .null, .null, .int (nI 0), .null, .int (nI 0), .int (nI 0), .null, .null, .null]))) v = .inr (11, [.int (nI 1000000000), .ref q4, .ref q39, .ref q84, .null, .null, .int (nI 0), .null, .int (nI 0), .int (nI 0), .null, .null, .null]) := q_up
  have e178 : (va_up f104 v (.inr (11, [.int (nI 1000000000), .ref q4, .ref q39, .ref q84, .null, .null, .int (nI 0), .null, .int (nI 0), .int (nI 0), .null, .null, .null]))) q4 = .inr (3, [.ref q21, .int (nI 0)]) := (q_ne (q_tag e158 e157 (show (3 : Nat) ≠ 11 by decide))).trans e158
  have e179 : (va_up f104 v (.inr (11, [.int (nI 1000000000), .ref q4, .ref q39, .ref q84, .null, .null, .int (nI 0), .null, .int (nI 0), .int (nI 0), .null, .null, .null]))) q21 = .inl (E.1, 6144, .inl g22) := (q_ne (q_tag e159 e157 (show (1000 : Nat) ≠ 11 by decide))).trans e159
  have e180 : (va_up f104 v (.inr (11, [.int (nI 1000000000), .ref q4, .ref q39, .ref q84, .null, .null, .int (nI 0), .null, .int (nI 0), .int (nI 0), .null, .null, .null]))) q39 = .inr (3, [.ref q60, .int (nI 0)]) := (q_ne (q_tag e160 e157 (show (3 : Nat) ≠ 11 by decide))).trans e160
  have e181 : (va_up f104 v (.inr (11, [.int (nI 1000000000), .ref q4, .ref q39, .ref q84, .null, .null, .int (nI 0), .null, .int (nI 0), .int (nI 0), .null, .null, .null]))) q60 = .inl (E.1, 512, .inl g61) := (q_ne (q_tag e161 e157 (show (1000 : Nat) ≠ 11 by decide))).trans e161
  have e182 : (va_up f104 v (.inr (11, [.int (nI 1000000000), .ref q4, .ref q39, .ref q84, .null, .null, .int (nI 0), .null, .int (nI 0), .int (nI 0), .null, .null, .null]))) q84 = .inr (6, [.ref q109, .ref q110, .ref q111, .ref q112, .ref q113, .int (nI 0), .int (nI 0), .ref q114]) := (q_ne (q_tag e150 e157 (show (6 : Nat) ≠ 11 by decide))).trans e150
  have e183 : (va_up f104 v (.inr (11, [.int (nI 1000000000), .ref q4, .ref q39, .ref q84, .null, .null, .int (nI 0), .null, .int (nI 0), .int (nI 0), .null, .null, .null]))) q109 = .inl (E.2.1, 80, .inl g115) := (q_ne (q_tag e151 e157 (show (1000 : Nat) ≠ 11 by decide))).trans e151
  have e184 : (va_up f104 v (.inr (11, [.int (nI 1000000000), .ref q4, .ref q39, .ref q84, .null, .null, .int (nI 0), .null, .int (nI 0), .int (nI 0), .null, .null, .null]))) q110 = .inl (E.1, 64, .inl g116) := (q_ne (q_tag e152 e157 (show (1000 : Nat) ≠ 11 by decide))).trans e152
  have e185 : (va_up f104 v (.inr (11, [.int (nI 1000000000), .ref q4, .ref q39, .ref q84, .null, .null, .int (nI 0), .null, .int (nI 0), .int (nI 0), .null, .null, .null]))) q111 = .inl (E.2.1, 5, .inl g117) := (q_ne (q_tag e153 e157 (show (1000 : Nat) ≠ 11 by decide))).trans e153
  have e186 : (va_up f104 v (.inr (11, [.int (nI 1000000000), .ref q4, .ref q39, .ref q84, .null, .null, .int (nI 0), .null, .int (nI 0), .int (nI 0), .null, .null, .null]))) q112 = .inl (E.2.1, 5, .inl g118) := (q_ne (q_tag e154 e157 (show (1000 : Nat) ≠ 11 by decide))).trans e154
  have e187 : (va_up f104 v (.inr (11, [.int (nI 1000000000), .ref q4, .ref q39, .ref q84, .null, .null, .int (nI 0), .null, .int (nI 0), .int (nI 0), .null, .null, .null]))) q113 = .inl (E.2.1, 5, .inl g119) := (q_ne (q_tag e155 e157 (show (1000 : Nat) ≠ 11 by decide))).trans e155
  have e188 : (va_up f104 v (.inr (11, [.int (nI 1000000000), .ref q4, .ref q39, .ref q84, .null, .null, .int (nI 0), .null, .int (nI 0), .int (nI 0), .null, .null, .null]))) q114 = .inl (E.1, 20, .inl g120) := (q_ne (q_tag e156 e157 (show (1000 : Nat) ≠ 11 by decide))).trans e156
  have hF189 : ∀ x, x ∈ L → x ≠ v → (va_up f104 v (.inr (11, [.int (nI 1000000000), .ref q4, .ref q39, .ref q84, .null, .null, .int (nI 0), .null, .int (nI 0), .int (nI 0), .null, .null, .null]))) x = f x := fun x hx h0 => (q_ne h0).trans (hF162 x hx h0)
  have Y : pH D cCl (pA L sz) s.heap L105 (va_up f104 v (.inr (11, [.int (nI 1000000000), .ref q4, .ref q39, .ref q84, .null, .null, .int (nI 0), .null, .int (nI 0), .int (nI 0), .null, .null, .null]))) H locs := Y
  generalize (va_up f104 v (.inr (11, [.int (nI 1000000000), .ref q4, .ref q39, .ref q84, .null, .null, .int (nI 0), .null, .int (nI 0), .int (nI 0), .null, .null, .null]))) = f176 at Y e177 e178 e179 e180 e181 e182 e183 e184 e185 e186 e187 e188 hF189
  refine lv_aload_n X.1 X.2.1 d_Va_init_49 rfl (lv_at hl 0 rfl) ?_
  refine q_new X.1 X.2.1 X.2.2.1 i_Ae t_Ae t_Ae_ok X.2.2.2.1 (X.2.2.1 _ ck_Va_35) (X.2.2.1 _ mk_Ae) (X.2.2.1 _ ini_Ae) X.2.2.2.2 Y hA (ci := 1) rfl (fs := [.null, .null, .null, .int (nI 0), .null, .null, .null]) (fun j hj => match j, hj with | 0, _ => rfl | 1, _ => rfl | 2, _ => rfl | 3, _ => rfl | 4, _ => rfl | 5, _ => rfl | 6, _ => rfl | n9 + 7, h9 => absurd (show n9 + 7 < 7 from h9) (by omega)) (show 11 + 1 ≤ 24 by omega) (show 6847 + 7 ≤ (7856) by omega) d_Va_init_50 (fun q190 H hqq190 Y => ?_)
  have Y : pH D cCl (pA L sz) s.heap (L105 ++ [q190]) (va_up f176 q190 (.inr (1, [.null, .null, .null, .int (nI 0), .null, .null, .null]))) H locs := Y
  have e197 : (va_up f176 q190 (.inr (1, [.null, .null, .null, .int (nI 0), .null, .null, .null]))) q190 = .inr (1, [.null, .null, .null, .int (nI 0), .null, .null, .null]) := q_up
  have e198 : (va_up f176 q190 (.inr (1, [.null, .null, .null, .int (nI 0), .null, .null, .null]))) v = .inr (11, [.int (nI 1000000000), .ref q4, .ref q39, .ref q84, .null, .null, .int (nI 0), .null, .int (nI 0), .int (nI 0), .null, .null, .null]) := (q_ne (ne_mem hqq190 m170)).trans e177
  have e199 : (va_up f176 q190 (.inr (1, [.null, .null, .null, .int (nI 0), .null, .null, .null]))) q4 = .inr (3, [.ref q21, .int (nI 0)]) := (q_ne (ne_mem hqq190 m171)).trans e178
  have e200 : (va_up f176 q190 (.inr (1, [.null, .null, .null, .int (nI 0), .null, .null, .null]))) q21 = .inl (E.1, 6144, .inl g22) := (q_ne (ne_mem hqq190 m172)).trans e179
  have e201 : (va_up f176 q190 (.inr (1, [.null, .null, .null, .int (nI 0), .null, .null, .null]))) q39 = .inr (3, [.ref q60, .int (nI 0)]) := (q_ne (ne_mem hqq190 m173)).trans e180
  have e202 : (va_up f176 q190 (.inr (1, [.null, .null, .null, .int (nI 0), .null, .null, .null]))) q60 = .inl (E.1, 512, .inl g61) := (q_ne (ne_mem hqq190 m174)).trans e181
  have e203 : (va_up f176 q190 (.inr (1, [.null, .null, .null, .int (nI 0), .null, .null, .null]))) q84 = .inr (6, [.ref q109, .ref q110, .ref q111, .ref q112, .ref q113, .int (nI 0), .int (nI 0), .ref q114]) := (q_ne (ne_mem hqq190 m175)).trans e182
  have e204 : (va_up f176 q190 (.inr (1, [.null, .null, .null, .int (nI 0), .null, .null, .null]))) q109 = .inl (E.2.1, 80, .inl g115) := (q_ne (ne_mem hqq190 m121)).trans e183
  have e205 : (va_up f176 q190 (.inr (1, [.null, .null, .null, .int (nI 0), .null, .null, .null]))) q110 = .inl (E.1, 64, .inl g116) := (q_ne (ne_mem hqq190 m122)).trans e184
  have e206 : (va_up f176 q190 (.inr (1, [.null, .null, .null, .int (nI 0), .null, .null, .null]))) q111 = .inl (E.2.1, 5, .inl g117) := (q_ne (ne_mem hqq190 m123)).trans e185
  have e207 : (va_up f176 q190 (.inr (1, [.null, .null, .null, .int (nI 0), .null, .null, .null]))) q112 = .inl (E.2.1, 5, .inl g118) := (q_ne (ne_mem hqq190 m124)).trans e186
  have e208 : (va_up f176 q190 (.inr (1, [.null, .null, .null, .int (nI 0), .null, .null, .null]))) q113 = .inl (E.2.1, 5, .inl g119) := (q_ne (ne_mem hqq190 m125)).trans e187
  have e209 : (va_up f176 q190 (.inr (1, [.null, .null, .null, .int (nI 0), .null, .null, .null]))) q114 = .inl (E.1, 20, .inl g120) := (q_ne (ne_mem hqq190 m126)).trans e188
  have nl195 : q190 ∉ L := fun h9 => hqq190 (s163 _ h9)
  have hF210 : ∀ x, x ∈ L → x ≠ v → (va_up f176 q190 (.inr (1, [.null, .null, .null, .int (nI 0), .null, .null, .null]))) x = f x := fun x hx h0 => (q_ne (ne_mem nl195 hx)).trans (hF189 x hx h0)
  generalize (va_up f176 q190 (.inr (1, [.null, .null, .null, .int (nI 0), .null, .null, .null]))) = f196 at Y e197 e198 e199 e200 e201 e202 e203 e204 e205 e206 e207 e208 e209 hF210
  have s193 : ∀ x, x ∈ L → x ∈ L105 ++ [q190] := fun x hx => List.mem_append_left _ (s163 x hx)
  have m211 : v ∈ L105 ++ [q190] := List.mem_append_left _ m170
  have m212 : q4 ∈ L105 ++ [q190] := List.mem_append_left _ m171
  have m213 : q21 ∈ L105 ++ [q190] := List.mem_append_left _ m172
  have m214 : q39 ∈ L105 ++ [q190] := List.mem_append_left _ m173
  have m215 : q60 ∈ L105 ++ [q190] := List.mem_append_left _ m174
  have m216 : q84 ∈ L105 ++ [q190] := List.mem_append_left _ m175
  have m217 : q109 ∈ L105 ++ [q190] := List.mem_append_left _ m121
  have m218 : q110 ∈ L105 ++ [q190] := List.mem_append_left _ m122
  have m219 : q111 ∈ L105 ++ [q190] := List.mem_append_left _ m123
  have m220 : q112 ∈ L105 ++ [q190] := List.mem_append_left _ m124
  have m221 : q113 ∈ L105 ++ [q190] := List.mem_append_left _ m125
  have m222 : q114 ∈ L105 ++ [q190] := List.mem_append_left _ m126
  have m194 : q190 ∈ L105 ++ [q190] := List.mem_append_right _ (List.mem_singleton.mpr rfl)
  generalize L105 ++ [q190] = L191 at Y s193 m211 m212 m213 m214 m215 m216 m217 m218 m219 m220 m221 m222 m194
  refine lv_dup X.1 X.2.1 d_Va_init_53 rfl ?_
  refine x_v (x_runI (As := []) (rest := [.ref q190, .ref v]) (n := 0) X hml hl.1 (c_Ae_init l D E T L191 f196 H.size q190 m194 e197) (ok_k X Y hA KS KR) kl_Va_Ae_init ks_Ae_init ki_Ae_init ini_Ae rfl ⟨rfl, rfl⟩ hd_Ae_init.2 ⟨by decide, by decide⟩ rfl (Nat.le_of_ble_eq_true rfl) d_Va_init_54 ⟨(show 12 + 6 ≤ 24 by omega), (show 6854 + (800) ≤ (7856) by omega)⟩) X Y hA (fun u H locs hp Y => ?_)
  obtain ⟨L225, f224⟩ := u
  obtain ⟨eL227, hF226, q229, q230, q231, q232, o260, o261, g233, g234, g235, g236, m237, nl241, m238, nl242, m239, nl243, m240, nl244, ap245, ap246, ap247, ap248, ap249, ap250, hg251, hg252, hg253, hg254, e255, e256, e257, e258, e259⟩ := hp
  dsimp only at eL227 hF226 m237 m238 m239 m240 e255 e256 e257 e258 e259 Y
  have e262 : f224 v = .inr (11, [.int (nI 1000000000), .ref q4, .ref q39, .ref q84, .null, .null, .int (nI 0), .null, .int (nI 0), .int (nI 0), .null, .null, .null]) := (hF226 v m211 (q_tag e198 e197 (show (11 : Nat) ≠ 1 by decide))).trans e198
  have e263 : f224 q4 = .inr (3, [.ref q21, .int (nI 0)]) := (hF226 q4 m212 (q_tag e199 e197 (show (3 : Nat) ≠ 1 by decide))).trans e199
  have e264 : f224 q21 = .inl (E.1, 6144, .inl g22) := (hF226 q21 m213 (q_tag e200 e197 (show (1000 : Nat) ≠ 1 by decide))).trans e200
  have e265 : f224 q39 = .inr (3, [.ref q60, .int (nI 0)]) := (hF226 q39 m214 (q_tag e201 e197 (show (3 : Nat) ≠ 1 by decide))).trans e201
  have e266 : f224 q60 = .inl (E.1, 512, .inl g61) := (hF226 q60 m215 (q_tag e202 e197 (show (1000 : Nat) ≠ 1 by decide))).trans e202
  have e267 : f224 q84 = .inr (6, [.ref q109, .ref q110, .ref q111, .ref q112, .ref q113, .int (nI 0), .int (nI 0), .ref q114]) := (hF226 q84 m216 (q_tag e203 e197 (show (6 : Nat) ≠ 1 by decide))).trans e203
  have e268 : f224 q109 = .inl (E.2.1, 80, .inl g115) := (hF226 q109 m217 (q_tag e204 e197 (show (1000 : Nat) ≠ 1 by decide))).trans e204
  have e269 : f224 q110 = .inl (E.1, 64, .inl g116) := (hF226 q110 m218 (q_tag e205 e197 (show (1000 : Nat) ≠ 1 by decide))).trans e205
  have e270 : f224 q111 = .inl (E.2.1, 5, .inl g117) := (hF226 q111 m219 (q_tag e206 e197 (show (1000 : Nat) ≠ 1 by decide))).trans e206
  have e271 : f224 q112 = .inl (E.2.1, 5, .inl g118) := (hF226 q112 m220 (q_tag e207 e197 (show (1000 : Nat) ≠ 1 by decide))).trans e207
  have e272 : f224 q113 = .inl (E.2.1, 5, .inl g119) := (hF226 q113 m221 (q_tag e208 e197 (show (1000 : Nat) ≠ 1 by decide))).trans e208
  have e273 : f224 q114 = .inl (E.1, 20, .inl g120) := (hF226 q114 m222 (q_tag e209 e197 (show (1000 : Nat) ≠ 1 by decide))).trans e209
  have hF274 : ∀ x, x ∈ L → x ≠ v → f224 x = f x := fun x hx h0 => (hF226 x (s193 x hx) (ne_mem nl195 hx)).trans (hF210 x hx h0)
  have s275 : ∀ x, x ∈ L → x ∈ L225 := fun x hx => eL227 x (s193 x hx)
  have nl276 : q229 ∉ L := fun h9 => nl241 (s193 _ h9)
  have nl277 : q230 ∉ L := fun h9 => nl242 (s193 _ h9)
  have nl278 : q231 ∉ L := fun h9 => nl243 (s193 _ h9)
  have nl279 : q232 ∉ L := fun h9 => nl244 (s193 _ h9)
  have m280 : v ∈ L225 := eL227 _ m211
  have m281 : q4 ∈ L225 := eL227 _ m212
  have m282 : q21 ∈ L225 := eL227 _ m213
  have m283 : q39 ∈ L225 := eL227 _ m214
  have m284 : q60 ∈ L225 := eL227 _ m215
  have m285 : q84 ∈ L225 := eL227 _ m216
  have m286 : q109 ∈ L225 := eL227 _ m217
  have m287 : q110 ∈ L225 := eL227 _ m218
  have m288 : q111 ∈ L225 := eL227 _ m219
  have m289 : q112 ∈ L225 := eL227 _ m220
  have m290 : q113 ∈ L225 := eL227 _ m221
  have m291 : q114 ∈ L225 := eL227 _ m222
  have m292 : q190 ∈ L225 := eL227 _ m194
  refine q_putF X.1 X.2.1 X.2.2.1 i_Va t_Va t_Va_ok n_Va X.2.2.2.1 X.2.2.2.2 Y m280 e262 rfl 4 (by decide) (X.2.2.1 _ lk_Va_38) (fun _ h9 => h9) rfl hin rfl (t_Va_ok 4 (by decide)) rfl rfl (Nat.le_of_ble_eq_true rfl) d_Va_init_57 (fun H locs Y => ?_)
  have e294 : (va_up f224 v (.inr (11, [.int (nI 1000000000), .ref q4, .ref q39, .ref q84, .ref q190, .null, .int (nI 0), .null, .int (nI 0), .int (nI 0), .null, .null, .null]))) v = .inr (11, [.int (nI 1000000000), .ref q4, .ref q39, .ref q84, .ref q190, .null, .int (nI 0), .null, .int (nI 0), .int (nI 0), .null, .null, .null]) := q_up
  have e295 : (va_up f224 v (.inr (11, [.int (nI 1000000000), .ref q4, .ref q39, .ref q84, .ref q190, .null, .int (nI 0), .null, .int (nI 0), .int (nI 0), .null, .null, .null]))) q4 = .inr (3, [.ref q21, .int (nI 0)]) := (q_ne (q_tag e263 e262 (show (3 : Nat) ≠ 11 by decide))).trans e263
  have e296 : (va_up f224 v (.inr (11, [.int (nI 1000000000), .ref q4, .ref q39, .ref q84, .ref q190, .null, .int (nI 0), .null, .int (nI 0), .int (nI 0), .null, .null, .null]))) q21 = .inl (E.1, 6144, .inl g22) := (q_ne (q_tag e264 e262 (show (1000 : Nat) ≠ 11 by decide))).trans e264
  have e297 : (va_up f224 v (.inr (11, [.int (nI 1000000000), .ref q4, .ref q39, .ref q84, .ref q190, .null, .int (nI 0), .null, .int (nI 0), .int (nI 0), .null, .null, .null]))) q39 = .inr (3, [.ref q60, .int (nI 0)]) := (q_ne (q_tag e265 e262 (show (3 : Nat) ≠ 11 by decide))).trans e265
  have e298 : (va_up f224 v (.inr (11, [.int (nI 1000000000), .ref q4, .ref q39, .ref q84, .ref q190, .null, .int (nI 0), .null, .int (nI 0), .int (nI 0), .null, .null, .null]))) q60 = .inl (E.1, 512, .inl g61) := (q_ne (q_tag e266 e262 (show (1000 : Nat) ≠ 11 by decide))).trans e266
  have e299 : (va_up f224 v (.inr (11, [.int (nI 1000000000), .ref q4, .ref q39, .ref q84, .ref q190, .null, .int (nI 0), .null, .int (nI 0), .int (nI 0), .null, .null, .null]))) q84 = .inr (6, [.ref q109, .ref q110, .ref q111, .ref q112, .ref q113, .int (nI 0), .int (nI 0), .ref q114]) := (q_ne (q_tag e267 e262 (show (6 : Nat) ≠ 11 by decide))).trans e267
  have e300 : (va_up f224 v (.inr (11, [.int (nI 1000000000), .ref q4, .ref q39, .ref q84, .ref q190, .null, .int (nI 0), .null, .int (nI 0), .int (nI 0), .null, .null, .null]))) q109 = .inl (E.2.1, 80, .inl g115) := (q_ne (q_tag e268 e262 (show (1000 : Nat) ≠ 11 by decide))).trans e268
  have e301 : (va_up f224 v (.inr (11, [.int (nI 1000000000), .ref q4, .ref q39, .ref q84, .ref q190, .null, .int (nI 0), .null, .int (nI 0), .int (nI 0), .null, .null, .null]))) q110 = .inl (E.1, 64, .inl g116) := (q_ne (q_tag e269 e262 (show (1000 : Nat) ≠ 11 by decide))).trans e269
  have e302 : (va_up f224 v (.inr (11, [.int (nI 1000000000), .ref q4, .ref q39, .ref q84, .ref q190, .null, .int (nI 0), .null, .int (nI 0), .int (nI 0), .null, .null, .null]))) q111 = .inl (E.2.1, 5, .inl g117) := (q_ne (q_tag e270 e262 (show (1000 : Nat) ≠ 11 by decide))).trans e270
  have e303 : (va_up f224 v (.inr (11, [.int (nI 1000000000), .ref q4, .ref q39, .ref q84, .ref q190, .null, .int (nI 0), .null, .int (nI 0), .int (nI 0), .null, .null, .null]))) q112 = .inl (E.2.1, 5, .inl g118) := (q_ne (q_tag e271 e262 (show (1000 : Nat) ≠ 11 by decide))).trans e271
  have e304 : (va_up f224 v (.inr (11, [.int (nI 1000000000), .ref q4, .ref q39, .ref q84, .ref q190, .null, .int (nI 0), .null, .int (nI 0), .int (nI 0), .null, .null, .null]))) q113 = .inl (E.2.1, 5, .inl g119) := (q_ne (q_tag e272 e262 (show (1000 : Nat) ≠ 11 by decide))).trans e272
  have e305 : (va_up f224 v (.inr (11, [.int (nI 1000000000), .ref q4, .ref q39, .ref q84, .ref q190, .null, .int (nI 0), .null, .int (nI 0), .int (nI 0), .null, .null, .null]))) q114 = .inl (E.1, 20, .inl g120) := (q_ne (q_tag e273 e262 (show (1000 : Nat) ≠ 11 by decide))).trans e273
  have e306 : (va_up f224 v (.inr (11, [.int (nI 1000000000), .ref q4, .ref q39, .ref q84, .ref q190, .null, .int (nI 0), .null, .int (nI 0), .int (nI 0), .null, .null, .null]))) q190 = .inr (1, [.ref o260, .ref q229, .ref q230, .int (nI 0), .ref q231, .ref q232, .ref o261]) := (q_ne (q_tag e255 e262 (show (1 : Nat) ≠ 11 by decide))).trans e255
  have e307 : (va_up f224 v (.inr (11, [.int (nI 1000000000), .ref q4, .ref q39, .ref q84, .ref q190, .null, .int (nI 0), .null, .int (nI 0), .int (nI 0), .null, .null, .null]))) q229 = .inl (E.2.1, 256, .inl g233) := (q_ne (q_tag e256 e262 (show (1000 : Nat) ≠ 11 by decide))).trans e256
  have e308 : (va_up f224 v (.inr (11, [.int (nI 1000000000), .ref q4, .ref q39, .ref q84, .ref q190, .null, .int (nI 0), .null, .int (nI 0), .int (nI 0), .null, .null, .null]))) q230 = .inl (E.2.1, 240, .inl g234) := (q_ne (q_tag e257 e262 (show (1000 : Nat) ≠ 11 by decide))).trans e257
  have e309 : (va_up f224 v (.inr (11, [.int (nI 1000000000), .ref q4, .ref q39, .ref q84, .ref q190, .null, .int (nI 0), .null, .int (nI 0), .int (nI 0), .null, .null, .null]))) q231 = .inl (E.2.1, 16, .inl g235) := (q_ne (q_tag e258 e262 (show (1000 : Nat) ≠ 11 by decide))).trans e258
  have e310 : (va_up f224 v (.inr (11, [.int (nI 1000000000), .ref q4, .ref q39, .ref q84, .ref q190, .null, .int (nI 0), .null, .int (nI 0), .int (nI 0), .null, .null, .null]))) q232 = .inl (E.2.1, 16, .inl g236) := (q_ne (q_tag e259 e262 (show (1000 : Nat) ≠ 11 by decide))).trans e259
  have hF311 : ∀ x, x ∈ L → x ≠ v → (va_up f224 v (.inr (11, [.int (nI 1000000000), .ref q4, .ref q39, .ref q84, .ref q190, .null, .int (nI 0), .null, .int (nI 0), .int (nI 0), .null, .null, .null]))) x = f x := fun x hx h0 => (q_ne h0).trans (hF274 x hx h0)
  have Y : pH D cCl (pA L sz) s.heap L225 (va_up f224 v (.inr (11, [.int (nI 1000000000), .ref q4, .ref q39, .ref q84, .ref q190, .null, .int (nI 0), .null, .int (nI 0), .int (nI 0), .null, .null, .null]))) H locs := Y
  generalize (va_up f224 v (.inr (11, [.int (nI 1000000000), .ref q4, .ref q39, .ref q84, .ref q190, .null, .int (nI 0), .null, .int (nI 0), .int (nI 0), .null, .null, .null]))) = f293 at Y e294 e295 e296 e297 e298 e299 e300 e301 e302 e303 e304 e305 e306 e307 e308 e309 e310 hF311
  refine lv_aload_n X.1 X.2.1 d_Va_init_60 rfl (lv_at hl 0 rfl) ?_
  refine lv_bipush (v := (nI 64)) X.1 X.2.1 d_Va_init_61 (by decide) ?_
  refine q_newa X.1 X.2.1 (atype := .byte) (ty := .byte) rfl ra_byte (X.2.2.1 _ ar_byte) X.2.2.2.2 0 (cE := E.1) rfl Y hA (N := (64)) (a0 := (64, .inl (fun _ => 0))) (fun cA => vz_byte cA (64)) (nI_pos (by omega)) (nI_clamp (by omega)) (by decide) (show 18 + 1 ≤ 24 by omega) (show 7654 + (64) ≤ (7856) by omega) d_Va_init_63 (fun q312 H hqq312 Y => ?_)
  have Y : pH D cCl (pA L sz) s.heap (L225 ++ [q312]) (va_up f293 q312 (.inl (E.1, 64, .inl (fun _ => 0)))) H locs := Y
  have e319 : (va_up f293 q312 (.inl (E.1, 64, .inl (fun _ => 0)))) q312 = .inl (E.1, 64, .inl (fun _ => 0)) := q_up
  have e320 : (va_up f293 q312 (.inl (E.1, 64, .inl (fun _ => 0)))) v = .inr (11, [.int (nI 1000000000), .ref q4, .ref q39, .ref q84, .ref q190, .null, .int (nI 0), .null, .int (nI 0), .int (nI 0), .null, .null, .null]) := (q_ne (ne_mem hqq312 m280)).trans e294
  have e321 : (va_up f293 q312 (.inl (E.1, 64, .inl (fun _ => 0)))) q4 = .inr (3, [.ref q21, .int (nI 0)]) := (q_ne (ne_mem hqq312 m281)).trans e295
  have e322 : (va_up f293 q312 (.inl (E.1, 64, .inl (fun _ => 0)))) q21 = .inl (E.1, 6144, .inl g22) := (q_ne (ne_mem hqq312 m282)).trans e296
  have e323 : (va_up f293 q312 (.inl (E.1, 64, .inl (fun _ => 0)))) q39 = .inr (3, [.ref q60, .int (nI 0)]) := (q_ne (ne_mem hqq312 m283)).trans e297
  have e324 : (va_up f293 q312 (.inl (E.1, 64, .inl (fun _ => 0)))) q60 = .inl (E.1, 512, .inl g61) := (q_ne (ne_mem hqq312 m284)).trans e298
  have e325 : (va_up f293 q312 (.inl (E.1, 64, .inl (fun _ => 0)))) q84 = .inr (6, [.ref q109, .ref q110, .ref q111, .ref q112, .ref q113, .int (nI 0), .int (nI 0), .ref q114]) := (q_ne (ne_mem hqq312 m285)).trans e299
  have e326 : (va_up f293 q312 (.inl (E.1, 64, .inl (fun _ => 0)))) q109 = .inl (E.2.1, 80, .inl g115) := (q_ne (ne_mem hqq312 m286)).trans e300
  have e327 : (va_up f293 q312 (.inl (E.1, 64, .inl (fun _ => 0)))) q110 = .inl (E.1, 64, .inl g116) := (q_ne (ne_mem hqq312 m287)).trans e301
  have e328 : (va_up f293 q312 (.inl (E.1, 64, .inl (fun _ => 0)))) q111 = .inl (E.2.1, 5, .inl g117) := (q_ne (ne_mem hqq312 m288)).trans e302
  have e329 : (va_up f293 q312 (.inl (E.1, 64, .inl (fun _ => 0)))) q112 = .inl (E.2.1, 5, .inl g118) := (q_ne (ne_mem hqq312 m289)).trans e303
  have e330 : (va_up f293 q312 (.inl (E.1, 64, .inl (fun _ => 0)))) q113 = .inl (E.2.1, 5, .inl g119) := (q_ne (ne_mem hqq312 m290)).trans e304
  have e331 : (va_up f293 q312 (.inl (E.1, 64, .inl (fun _ => 0)))) q114 = .inl (E.1, 20, .inl g120) := (q_ne (ne_mem hqq312 m291)).trans e305
  have e332 : (va_up f293 q312 (.inl (E.1, 64, .inl (fun _ => 0)))) q190 = .inr (1, [.ref o260, .ref q229, .ref q230, .int (nI 0), .ref q231, .ref q232, .ref o261]) := (q_ne (ne_mem hqq312 m292)).trans e306
  have e333 : (va_up f293 q312 (.inl (E.1, 64, .inl (fun _ => 0)))) q229 = .inl (E.2.1, 256, .inl g233) := (q_ne (ne_mem hqq312 m237)).trans e307
  have e334 : (va_up f293 q312 (.inl (E.1, 64, .inl (fun _ => 0)))) q230 = .inl (E.2.1, 240, .inl g234) := (q_ne (ne_mem hqq312 m238)).trans e308
  have e335 : (va_up f293 q312 (.inl (E.1, 64, .inl (fun _ => 0)))) q231 = .inl (E.2.1, 16, .inl g235) := (q_ne (ne_mem hqq312 m239)).trans e309
  have e336 : (va_up f293 q312 (.inl (E.1, 64, .inl (fun _ => 0)))) q232 = .inl (E.2.1, 16, .inl g236) := (q_ne (ne_mem hqq312 m240)).trans e310
  have nl317 : q312 ∉ L := fun h9 => hqq312 (s275 _ h9)
  have hF337 : ∀ x, x ∈ L → x ≠ v → (va_up f293 q312 (.inl (E.1, 64, .inl (fun _ => 0)))) x = f x := fun x hx h0 => (q_ne (ne_mem nl317 hx)).trans (hF311 x hx h0)
  generalize (va_up f293 q312 (.inl (E.1, 64, .inl (fun _ => 0)))) = f318 at Y e319 e320 e321 e322 e323 e324 e325 e326 e327 e328 e329 e330 e331 e332 e333 e334 e335 e336 hF337
  have s315 : ∀ x, x ∈ L → x ∈ L225 ++ [q312] := fun x hx => List.mem_append_left _ (s275 x hx)
  have m338 : v ∈ L225 ++ [q312] := List.mem_append_left _ m280
  have m339 : q4 ∈ L225 ++ [q312] := List.mem_append_left _ m281
  have m340 : q21 ∈ L225 ++ [q312] := List.mem_append_left _ m282
  have m341 : q39 ∈ L225 ++ [q312] := List.mem_append_left _ m283
  have m342 : q60 ∈ L225 ++ [q312] := List.mem_append_left _ m284
  have m343 : q84 ∈ L225 ++ [q312] := List.mem_append_left _ m285
  have m344 : q109 ∈ L225 ++ [q312] := List.mem_append_left _ m286
  have m345 : q110 ∈ L225 ++ [q312] := List.mem_append_left _ m287
  have m346 : q111 ∈ L225 ++ [q312] := List.mem_append_left _ m288
  have m347 : q112 ∈ L225 ++ [q312] := List.mem_append_left _ m289
  have m348 : q113 ∈ L225 ++ [q312] := List.mem_append_left _ m290
  have m349 : q114 ∈ L225 ++ [q312] := List.mem_append_left _ m291
  have m350 : q190 ∈ L225 ++ [q312] := List.mem_append_left _ m292
  have m351 : q229 ∈ L225 ++ [q312] := List.mem_append_left _ m237
  have m352 : q230 ∈ L225 ++ [q312] := List.mem_append_left _ m238
  have m353 : q231 ∈ L225 ++ [q312] := List.mem_append_left _ m239
  have m354 : q232 ∈ L225 ++ [q312] := List.mem_append_left _ m240
  have m316 : q312 ∈ L225 ++ [q312] := List.mem_append_right _ (List.mem_singleton.mpr rfl)
  generalize L225 ++ [q312] = L313 at Y s315 m338 m339 m340 m341 m342 m343 m344 m345 m346 m347 m348 m349 m350 m351 m352 m353 m354 m316
  refine q_putF X.1 X.2.1 X.2.2.1 i_Va t_Va t_Va_ok n_Va X.2.2.2.1 X.2.2.2.2 Y m338 e320 rfl 5 (by decide) (X.2.2.1 _ lk_Va_42) (fun _ h9 => h9) rfl hin rfl (t_Va_ok 5 (by decide)) rfl rfl (Nat.le_of_ble_eq_true rfl) d_Va_init_65 (fun H locs Y => ?_)
  have e356 : (va_up f318 v (.inr (11, [.int (nI 1000000000), .ref q4, .ref q39, .ref q84, .ref q190, .ref q312, .int (nI 0), .null, .int (nI 0), .int (nI 0), .null, .null, .null]))) v = .inr (11, [.int (nI 1000000000), .ref q4, .ref q39, .ref q84, .ref q190, .ref q312, .int (nI 0), .null, .int (nI 0), .int (nI 0), .null, .null, .null]) := q_up
  have e357 : (va_up f318 v (.inr (11, [.int (nI 1000000000), .ref q4, .ref q39, .ref q84, .ref q190, .ref q312, .int (nI 0), .null, .int (nI 0), .int (nI 0), .null, .null, .null]))) q4 = .inr (3, [.ref q21, .int (nI 0)]) := (q_ne (q_tag e321 e320 (show (3 : Nat) ≠ 11 by decide))).trans e321
  have e358 : (va_up f318 v (.inr (11, [.int (nI 1000000000), .ref q4, .ref q39, .ref q84, .ref q190, .ref q312, .int (nI 0), .null, .int (nI 0), .int (nI 0), .null, .null, .null]))) q21 = .inl (E.1, 6144, .inl g22) := (q_ne (q_tag e322 e320 (show (1000 : Nat) ≠ 11 by decide))).trans e322
  have e359 : (va_up f318 v (.inr (11, [.int (nI 1000000000), .ref q4, .ref q39, .ref q84, .ref q190, .ref q312, .int (nI 0), .null, .int (nI 0), .int (nI 0), .null, .null, .null]))) q39 = .inr (3, [.ref q60, .int (nI 0)]) := (q_ne (q_tag e323 e320 (show (3 : Nat) ≠ 11 by decide))).trans e323
  have e360 : (va_up f318 v (.inr (11, [.int (nI 1000000000), .ref q4, .ref q39, .ref q84, .ref q190, .ref q312, .int (nI 0), .null, .int (nI 0), .int (nI 0), .null, .null, .null]))) q60 = .inl (E.1, 512, .inl g61) := (q_ne (q_tag e324 e320 (show (1000 : Nat) ≠ 11 by decide))).trans e324
  have e361 : (va_up f318 v (.inr (11, [.int (nI 1000000000), .ref q4, .ref q39, .ref q84, .ref q190, .ref q312, .int (nI 0), .null, .int (nI 0), .int (nI 0), .null, .null, .null]))) q84 = .inr (6, [.ref q109, .ref q110, .ref q111, .ref q112, .ref q113, .int (nI 0), .int (nI 0), .ref q114]) := (q_ne (q_tag e325 e320 (show (6 : Nat) ≠ 11 by decide))).trans e325
  have e362 : (va_up f318 v (.inr (11, [.int (nI 1000000000), .ref q4, .ref q39, .ref q84, .ref q190, .ref q312, .int (nI 0), .null, .int (nI 0), .int (nI 0), .null, .null, .null]))) q109 = .inl (E.2.1, 80, .inl g115) := (q_ne (q_tag e326 e320 (show (1000 : Nat) ≠ 11 by decide))).trans e326
  have e363 : (va_up f318 v (.inr (11, [.int (nI 1000000000), .ref q4, .ref q39, .ref q84, .ref q190, .ref q312, .int (nI 0), .null, .int (nI 0), .int (nI 0), .null, .null, .null]))) q110 = .inl (E.1, 64, .inl g116) := (q_ne (q_tag e327 e320 (show (1000 : Nat) ≠ 11 by decide))).trans e327
  have e364 : (va_up f318 v (.inr (11, [.int (nI 1000000000), .ref q4, .ref q39, .ref q84, .ref q190, .ref q312, .int (nI 0), .null, .int (nI 0), .int (nI 0), .null, .null, .null]))) q111 = .inl (E.2.1, 5, .inl g117) := (q_ne (q_tag e328 e320 (show (1000 : Nat) ≠ 11 by decide))).trans e328
  have e365 : (va_up f318 v (.inr (11, [.int (nI 1000000000), .ref q4, .ref q39, .ref q84, .ref q190, .ref q312, .int (nI 0), .null, .int (nI 0), .int (nI 0), .null, .null, .null]))) q112 = .inl (E.2.1, 5, .inl g118) := (q_ne (q_tag e329 e320 (show (1000 : Nat) ≠ 11 by decide))).trans e329
  have e366 : (va_up f318 v (.inr (11, [.int (nI 1000000000), .ref q4, .ref q39, .ref q84, .ref q190, .ref q312, .int (nI 0), .null, .int (nI 0), .int (nI 0), .null, .null, .null]))) q113 = .inl (E.2.1, 5, .inl g119) := (q_ne (q_tag e330 e320 (show (1000 : Nat) ≠ 11 by decide))).trans e330
  have e367 : (va_up f318 v (.inr (11, [.int (nI 1000000000), .ref q4, .ref q39, .ref q84, .ref q190, .ref q312, .int (nI 0), .null, .int (nI 0), .int (nI 0), .null, .null, .null]))) q114 = .inl (E.1, 20, .inl g120) := (q_ne (q_tag e331 e320 (show (1000 : Nat) ≠ 11 by decide))).trans e331
  have e368 : (va_up f318 v (.inr (11, [.int (nI 1000000000), .ref q4, .ref q39, .ref q84, .ref q190, .ref q312, .int (nI 0), .null, .int (nI 0), .int (nI 0), .null, .null, .null]))) q190 = .inr (1, [.ref o260, .ref q229, .ref q230, .int (nI 0), .ref q231, .ref q232, .ref o261]) := (q_ne (q_tag e332 e320 (show (1 : Nat) ≠ 11 by decide))).trans e332
  have e369 : (va_up f318 v (.inr (11, [.int (nI 1000000000), .ref q4, .ref q39, .ref q84, .ref q190, .ref q312, .int (nI 0), .null, .int (nI 0), .int (nI 0), .null, .null, .null]))) q229 = .inl (E.2.1, 256, .inl g233) := (q_ne (q_tag e333 e320 (show (1000 : Nat) ≠ 11 by decide))).trans e333
  have e370 : (va_up f318 v (.inr (11, [.int (nI 1000000000), .ref q4, .ref q39, .ref q84, .ref q190, .ref q312, .int (nI 0), .null, .int (nI 0), .int (nI 0), .null, .null, .null]))) q230 = .inl (E.2.1, 240, .inl g234) := (q_ne (q_tag e334 e320 (show (1000 : Nat) ≠ 11 by decide))).trans e334
  have e371 : (va_up f318 v (.inr (11, [.int (nI 1000000000), .ref q4, .ref q39, .ref q84, .ref q190, .ref q312, .int (nI 0), .null, .int (nI 0), .int (nI 0), .null, .null, .null]))) q231 = .inl (E.2.1, 16, .inl g235) := (q_ne (q_tag e335 e320 (show (1000 : Nat) ≠ 11 by decide))).trans e335
  have e372 : (va_up f318 v (.inr (11, [.int (nI 1000000000), .ref q4, .ref q39, .ref q84, .ref q190, .ref q312, .int (nI 0), .null, .int (nI 0), .int (nI 0), .null, .null, .null]))) q232 = .inl (E.2.1, 16, .inl g236) := (q_ne (q_tag e336 e320 (show (1000 : Nat) ≠ 11 by decide))).trans e336
  have e373 : (va_up f318 v (.inr (11, [.int (nI 1000000000), .ref q4, .ref q39, .ref q84, .ref q190, .ref q312, .int (nI 0), .null, .int (nI 0), .int (nI 0), .null, .null, .null]))) q312 = .inl (E.1, 64, .inl (fun _ => 0)) := (q_ne (q_tag e319 e320 (show (1000 : Nat) ≠ 11 by decide))).trans e319
  have hF374 : ∀ x, x ∈ L → x ≠ v → (va_up f318 v (.inr (11, [.int (nI 1000000000), .ref q4, .ref q39, .ref q84, .ref q190, .ref q312, .int (nI 0), .null, .int (nI 0), .int (nI 0), .null, .null, .null]))) x = f x := fun x hx h0 => (q_ne h0).trans (hF337 x hx h0)
  have Y : pH D cCl (pA L sz) s.heap L313 (va_up f318 v (.inr (11, [.int (nI 1000000000), .ref q4, .ref q39, .ref q84, .ref q190, .ref q312, .int (nI 0), .null, .int (nI 0), .int (nI 0), .null, .null, .null]))) H locs := Y
  generalize (va_up f318 v (.inr (11, [.int (nI 1000000000), .ref q4, .ref q39, .ref q84, .ref q190, .ref q312, .int (nI 0), .null, .int (nI 0), .int (nI 0), .null, .null, .null]))) = f355 at Y e356 e357 e358 e359 e360 e361 e362 e363 e364 e365 e366 e367 e368 e369 e370 e371 e372 e373 hF374
  refine lv_aload_n X.1 X.2.1 d_Va_init_68 rfl (lv_at hl 0 rfl) ?_
  refine lv_bipush (v := (nI 20)) X.1 X.2.1 d_Va_init_69 (by decide) ?_
  refine q_newa X.1 X.2.1 (atype := .byte) (ty := .byte) rfl ra_byte (X.2.2.1 _ ar_byte) X.2.2.2.2 0 (cE := E.1) rfl Y hA (N := (20)) (a0 := (20, .inl (fun _ => 0))) (fun cA => vz_byte cA (20)) (nI_pos (by omega)) (nI_clamp (by omega)) (by decide) (show 19 + 1 ≤ 24 by omega) (show 7718 + (20) ≤ (7856) by omega) d_Va_init_71 (fun q375 H hqq375 Y => ?_)
  have Y : pH D cCl (pA L sz) s.heap (L313 ++ [q375]) (va_up f355 q375 (.inl (E.1, 20, .inl (fun _ => 0)))) H locs := Y
  have e382 : (va_up f355 q375 (.inl (E.1, 20, .inl (fun _ => 0)))) q375 = .inl (E.1, 20, .inl (fun _ => 0)) := q_up
  have e383 : (va_up f355 q375 (.inl (E.1, 20, .inl (fun _ => 0)))) v = .inr (11, [.int (nI 1000000000), .ref q4, .ref q39, .ref q84, .ref q190, .ref q312, .int (nI 0), .null, .int (nI 0), .int (nI 0), .null, .null, .null]) := (q_ne (ne_mem hqq375 m338)).trans e356
  have e384 : (va_up f355 q375 (.inl (E.1, 20, .inl (fun _ => 0)))) q4 = .inr (3, [.ref q21, .int (nI 0)]) := (q_ne (ne_mem hqq375 m339)).trans e357
  have e385 : (va_up f355 q375 (.inl (E.1, 20, .inl (fun _ => 0)))) q21 = .inl (E.1, 6144, .inl g22) := (q_ne (ne_mem hqq375 m340)).trans e358
  have e386 : (va_up f355 q375 (.inl (E.1, 20, .inl (fun _ => 0)))) q39 = .inr (3, [.ref q60, .int (nI 0)]) := (q_ne (ne_mem hqq375 m341)).trans e359
  have e387 : (va_up f355 q375 (.inl (E.1, 20, .inl (fun _ => 0)))) q60 = .inl (E.1, 512, .inl g61) := (q_ne (ne_mem hqq375 m342)).trans e360
  have e388 : (va_up f355 q375 (.inl (E.1, 20, .inl (fun _ => 0)))) q84 = .inr (6, [.ref q109, .ref q110, .ref q111, .ref q112, .ref q113, .int (nI 0), .int (nI 0), .ref q114]) := (q_ne (ne_mem hqq375 m343)).trans e361
  have e389 : (va_up f355 q375 (.inl (E.1, 20, .inl (fun _ => 0)))) q109 = .inl (E.2.1, 80, .inl g115) := (q_ne (ne_mem hqq375 m344)).trans e362
  have e390 : (va_up f355 q375 (.inl (E.1, 20, .inl (fun _ => 0)))) q110 = .inl (E.1, 64, .inl g116) := (q_ne (ne_mem hqq375 m345)).trans e363
  have e391 : (va_up f355 q375 (.inl (E.1, 20, .inl (fun _ => 0)))) q111 = .inl (E.2.1, 5, .inl g117) := (q_ne (ne_mem hqq375 m346)).trans e364
  have e392 : (va_up f355 q375 (.inl (E.1, 20, .inl (fun _ => 0)))) q112 = .inl (E.2.1, 5, .inl g118) := (q_ne (ne_mem hqq375 m347)).trans e365
  have e393 : (va_up f355 q375 (.inl (E.1, 20, .inl (fun _ => 0)))) q113 = .inl (E.2.1, 5, .inl g119) := (q_ne (ne_mem hqq375 m348)).trans e366
  have e394 : (va_up f355 q375 (.inl (E.1, 20, .inl (fun _ => 0)))) q114 = .inl (E.1, 20, .inl g120) := (q_ne (ne_mem hqq375 m349)).trans e367
  have e395 : (va_up f355 q375 (.inl (E.1, 20, .inl (fun _ => 0)))) q190 = .inr (1, [.ref o260, .ref q229, .ref q230, .int (nI 0), .ref q231, .ref q232, .ref o261]) := (q_ne (ne_mem hqq375 m350)).trans e368
  have e396 : (va_up f355 q375 (.inl (E.1, 20, .inl (fun _ => 0)))) q229 = .inl (E.2.1, 256, .inl g233) := (q_ne (ne_mem hqq375 m351)).trans e369
  have e397 : (va_up f355 q375 (.inl (E.1, 20, .inl (fun _ => 0)))) q230 = .inl (E.2.1, 240, .inl g234) := (q_ne (ne_mem hqq375 m352)).trans e370
  have e398 : (va_up f355 q375 (.inl (E.1, 20, .inl (fun _ => 0)))) q231 = .inl (E.2.1, 16, .inl g235) := (q_ne (ne_mem hqq375 m353)).trans e371
  have e399 : (va_up f355 q375 (.inl (E.1, 20, .inl (fun _ => 0)))) q232 = .inl (E.2.1, 16, .inl g236) := (q_ne (ne_mem hqq375 m354)).trans e372
  have e400 : (va_up f355 q375 (.inl (E.1, 20, .inl (fun _ => 0)))) q312 = .inl (E.1, 64, .inl (fun _ => 0)) := (q_ne (ne_mem hqq375 m316)).trans e373
  have nl380 : q375 ∉ L := fun h9 => hqq375 (s315 _ h9)
  have hF401 : ∀ x, x ∈ L → x ≠ v → (va_up f355 q375 (.inl (E.1, 20, .inl (fun _ => 0)))) x = f x := fun x hx h0 => (q_ne (ne_mem nl380 hx)).trans (hF374 x hx h0)
  generalize (va_up f355 q375 (.inl (E.1, 20, .inl (fun _ => 0)))) = f381 at Y e382 e383 e384 e385 e386 e387 e388 e389 e390 e391 e392 e393 e394 e395 e396 e397 e398 e399 e400 hF401
  have s378 : ∀ x, x ∈ L → x ∈ L313 ++ [q375] := fun x hx => List.mem_append_left _ (s315 x hx)
  have m402 : v ∈ L313 ++ [q375] := List.mem_append_left _ m338
  have m403 : q4 ∈ L313 ++ [q375] := List.mem_append_left _ m339
  have m404 : q21 ∈ L313 ++ [q375] := List.mem_append_left _ m340
  have m405 : q39 ∈ L313 ++ [q375] := List.mem_append_left _ m341
  have m406 : q60 ∈ L313 ++ [q375] := List.mem_append_left _ m342
  have m407 : q84 ∈ L313 ++ [q375] := List.mem_append_left _ m343
  have m408 : q109 ∈ L313 ++ [q375] := List.mem_append_left _ m344
  have m409 : q110 ∈ L313 ++ [q375] := List.mem_append_left _ m345
  have m410 : q111 ∈ L313 ++ [q375] := List.mem_append_left _ m346
  have m411 : q112 ∈ L313 ++ [q375] := List.mem_append_left _ m347
  have m412 : q113 ∈ L313 ++ [q375] := List.mem_append_left _ m348
  have m413 : q114 ∈ L313 ++ [q375] := List.mem_append_left _ m349
  have m414 : q190 ∈ L313 ++ [q375] := List.mem_append_left _ m350
  have m415 : q229 ∈ L313 ++ [q375] := List.mem_append_left _ m351
  have m416 : q230 ∈ L313 ++ [q375] := List.mem_append_left _ m352
  have m417 : q231 ∈ L313 ++ [q375] := List.mem_append_left _ m353
  have m418 : q232 ∈ L313 ++ [q375] := List.mem_append_left _ m354
  have m419 : q312 ∈ L313 ++ [q375] := List.mem_append_left _ m316
  have m379 : q375 ∈ L313 ++ [q375] := List.mem_append_right _ (List.mem_singleton.mpr rfl)
  generalize L313 ++ [q375] = L376 at Y s378 m402 m403 m404 m405 m406 m407 m408 m409 m410 m411 m412 m413 m414 m415 m416 m417 m418 m419 m379
  refine q_putF X.1 X.2.1 X.2.2.1 i_Va t_Va t_Va_ok n_Va X.2.2.2.1 X.2.2.2.2 Y m402 e383 rfl 7 (by decide) (X.2.2.1 _ lk_Va_46) (fun _ h9 => h9) rfl hin rfl (t_Va_ok 7 (by decide)) rfl rfl (Nat.le_of_ble_eq_true rfl) d_Va_init_73 (fun H locs Y => ?_)
  have e421 : (va_up f381 v (.inr (11, [.int (nI 1000000000), .ref q4, .ref q39, .ref q84, .ref q190, .ref q312, .int (nI 0), .ref q375, .int (nI 0), .int (nI 0), .null, .null, .null]))) v = .inr (11, [.int (nI 1000000000), .ref q4, .ref q39, .ref q84, .ref q190, .ref q312, .int (nI 0), .ref q375, .int (nI 0), .int (nI 0), .null, .null, .null]) := q_up
  have e422 : (va_up f381 v (.inr (11, [.int (nI 1000000000), .ref q4, .ref q39, .ref q84, .ref q190, .ref q312, .int (nI 0), .ref q375, .int (nI 0), .int (nI 0), .null, .null, .null]))) q4 = .inr (3, [.ref q21, .int (nI 0)]) := (q_ne (q_tag e384 e383 (show (3 : Nat) ≠ 11 by decide))).trans e384
  have e423 : (va_up f381 v (.inr (11, [.int (nI 1000000000), .ref q4, .ref q39, .ref q84, .ref q190, .ref q312, .int (nI 0), .ref q375, .int (nI 0), .int (nI 0), .null, .null, .null]))) q21 = .inl (E.1, 6144, .inl g22) := (q_ne (q_tag e385 e383 (show (1000 : Nat) ≠ 11 by decide))).trans e385
  have e424 : (va_up f381 v (.inr (11, [.int (nI 1000000000), .ref q4, .ref q39, .ref q84, .ref q190, .ref q312, .int (nI 0), .ref q375, .int (nI 0), .int (nI 0), .null, .null, .null]))) q39 = .inr (3, [.ref q60, .int (nI 0)]) := (q_ne (q_tag e386 e383 (show (3 : Nat) ≠ 11 by decide))).trans e386
  have e425 : (va_up f381 v (.inr (11, [.int (nI 1000000000), .ref q4, .ref q39, .ref q84, .ref q190, .ref q312, .int (nI 0), .ref q375, .int (nI 0), .int (nI 0), .null, .null, .null]))) q60 = .inl (E.1, 512, .inl g61) := (q_ne (q_tag e387 e383 (show (1000 : Nat) ≠ 11 by decide))).trans e387
  have e426 : (va_up f381 v (.inr (11, [.int (nI 1000000000), .ref q4, .ref q39, .ref q84, .ref q190, .ref q312, .int (nI 0), .ref q375, .int (nI 0), .int (nI 0), .null, .null, .null]))) q84 = .inr (6, [.ref q109, .ref q110, .ref q111, .ref q112, .ref q113, .int (nI 0), .int (nI 0), .ref q114]) := (q_ne (q_tag e388 e383 (show (6 : Nat) ≠ 11 by decide))).trans e388
  have e427 : (va_up f381 v (.inr (11, [.int (nI 1000000000), .ref q4, .ref q39, .ref q84, .ref q190, .ref q312, .int (nI 0), .ref q375, .int (nI 0), .int (nI 0), .null, .null, .null]))) q109 = .inl (E.2.1, 80, .inl g115) := (q_ne (q_tag e389 e383 (show (1000 : Nat) ≠ 11 by decide))).trans e389
  have e428 : (va_up f381 v (.inr (11, [.int (nI 1000000000), .ref q4, .ref q39, .ref q84, .ref q190, .ref q312, .int (nI 0), .ref q375, .int (nI 0), .int (nI 0), .null, .null, .null]))) q110 = .inl (E.1, 64, .inl g116) := (q_ne (q_tag e390 e383 (show (1000 : Nat) ≠ 11 by decide))).trans e390
  have e429 : (va_up f381 v (.inr (11, [.int (nI 1000000000), .ref q4, .ref q39, .ref q84, .ref q190, .ref q312, .int (nI 0), .ref q375, .int (nI 0), .int (nI 0), .null, .null, .null]))) q111 = .inl (E.2.1, 5, .inl g117) := (q_ne (q_tag e391 e383 (show (1000 : Nat) ≠ 11 by decide))).trans e391
  have e430 : (va_up f381 v (.inr (11, [.int (nI 1000000000), .ref q4, .ref q39, .ref q84, .ref q190, .ref q312, .int (nI 0), .ref q375, .int (nI 0), .int (nI 0), .null, .null, .null]))) q112 = .inl (E.2.1, 5, .inl g118) := (q_ne (q_tag e392 e383 (show (1000 : Nat) ≠ 11 by decide))).trans e392
  have e431 : (va_up f381 v (.inr (11, [.int (nI 1000000000), .ref q4, .ref q39, .ref q84, .ref q190, .ref q312, .int (nI 0), .ref q375, .int (nI 0), .int (nI 0), .null, .null, .null]))) q113 = .inl (E.2.1, 5, .inl g119) := (q_ne (q_tag e393 e383 (show (1000 : Nat) ≠ 11 by decide))).trans e393
  have e432 : (va_up f381 v (.inr (11, [.int (nI 1000000000), .ref q4, .ref q39, .ref q84, .ref q190, .ref q312, .int (nI 0), .ref q375, .int (nI 0), .int (nI 0), .null, .null, .null]))) q114 = .inl (E.1, 20, .inl g120) := (q_ne (q_tag e394 e383 (show (1000 : Nat) ≠ 11 by decide))).trans e394
  have e433 : (va_up f381 v (.inr (11, [.int (nI 1000000000), .ref q4, .ref q39, .ref q84, .ref q190, .ref q312, .int (nI 0), .ref q375, .int (nI 0), .int (nI 0), .null, .null, .null]))) q190 = .inr (1, [.ref o260, .ref q229, .ref q230, .int (nI 0), .ref q231, .ref q232, .ref o261]) := (q_ne (q_tag e395 e383 (show (1 : Nat) ≠ 11 by decide))).trans e395
  have e434 : (va_up f381 v (.inr (11, [.int (nI 1000000000), .ref q4, .ref q39, .ref q84, .ref q190, .ref q312, .int (nI 0), .ref q375, .int (nI 0), .int (nI 0), .null, .null, .null]))) q229 = .inl (E.2.1, 256, .inl g233) := (q_ne (q_tag e396 e383 (show (1000 : Nat) ≠ 11 by decide))).trans e396
  have e435 : (va_up f381 v (.inr (11, [.int (nI 1000000000), .ref q4, .ref q39, .ref q84, .ref q190, .ref q312, .int (nI 0), .ref q375, .int (nI 0), .int (nI 0), .null, .null, .null]))) q230 = .inl (E.2.1, 240, .inl g234) := (q_ne (q_tag e397 e383 (show (1000 : Nat) ≠ 11 by decide))).trans e397
  have e436 : (va_up f381 v (.inr (11, [.int (nI 1000000000), .ref q4, .ref q39, .ref q84, .ref q190, .ref q312, .int (nI 0), .ref q375, .int (nI 0), .int (nI 0), .null, .null, .null]))) q231 = .inl (E.2.1, 16, .inl g235) := (q_ne (q_tag e398 e383 (show (1000 : Nat) ≠ 11 by decide))).trans e398
  have e437 : (va_up f381 v (.inr (11, [.int (nI 1000000000), .ref q4, .ref q39, .ref q84, .ref q190, .ref q312, .int (nI 0), .ref q375, .int (nI 0), .int (nI 0), .null, .null, .null]))) q232 = .inl (E.2.1, 16, .inl g236) := (q_ne (q_tag e399 e383 (show (1000 : Nat) ≠ 11 by decide))).trans e399
  have e438 : (va_up f381 v (.inr (11, [.int (nI 1000000000), .ref q4, .ref q39, .ref q84, .ref q190, .ref q312, .int (nI 0), .ref q375, .int (nI 0), .int (nI 0), .null, .null, .null]))) q312 = .inl (E.1, 64, .inl (fun _ => 0)) := (q_ne (q_tag e400 e383 (show (1000 : Nat) ≠ 11 by decide))).trans e400
  have e439 : (va_up f381 v (.inr (11, [.int (nI 1000000000), .ref q4, .ref q39, .ref q84, .ref q190, .ref q312, .int (nI 0), .ref q375, .int (nI 0), .int (nI 0), .null, .null, .null]))) q375 = .inl (E.1, 20, .inl (fun _ => 0)) := (q_ne (q_tag e382 e383 (show (1000 : Nat) ≠ 11 by decide))).trans e382
  have hF440 : ∀ x, x ∈ L → x ≠ v → (va_up f381 v (.inr (11, [.int (nI 1000000000), .ref q4, .ref q39, .ref q84, .ref q190, .ref q312, .int (nI 0), .ref q375, .int (nI 0), .int (nI 0), .null, .null, .null]))) x = f x := fun x hx h0 => (q_ne h0).trans (hF401 x hx h0)
  have Y : pH D cCl (pA L sz) s.heap L376 (va_up f381 v (.inr (11, [.int (nI 1000000000), .ref q4, .ref q39, .ref q84, .ref q190, .ref q312, .int (nI 0), .ref q375, .int (nI 0), .int (nI 0), .null, .null, .null]))) H locs := Y
  generalize (va_up f381 v (.inr (11, [.int (nI 1000000000), .ref q4, .ref q39, .ref q84, .ref q190, .ref q312, .int (nI 0), .ref q375, .int (nI 0), .int (nI 0), .null, .null, .null]))) = f420 at Y e421 e422 e423 e424 e425 e426 e427 e428 e429 e430 e431 e432 e433 e434 e435 e436 e437 e438 e439 hF440
  refine lv_aload_n X.1 X.2.1 d_Va_init_76 rfl (lv_at hl 0 rfl) ?_
  refine lv_bipush (v := (nI 20)) X.1 X.2.1 d_Va_init_77 (by decide) ?_
  refine q_put X.1 X.2.1 X.2.2.1 i_Va t_Va t_Va_ok n_Va X.2.2.2.1 X.2.2.2.2 Y m402 e421 rfl 8 (by decide) (X.2.2.1 _ lk_Va_49) (fun _ h9 => h9) rfl (t_Va_ok 8 (by decide)) rfl rfl (Nat.le_of_ble_eq_true rfl) d_Va_init_79 (fun H locs Y => ?_)
  have e442 : (va_up f420 v (.inr (11, [.int (nI 1000000000), .ref q4, .ref q39, .ref q84, .ref q190, .ref q312, .int (nI 0), .ref q375, .int (nI 20), .int (nI 0), .null, .null, .null]))) v = .inr (11, [.int (nI 1000000000), .ref q4, .ref q39, .ref q84, .ref q190, .ref q312, .int (nI 0), .ref q375, .int (nI 20), .int (nI 0), .null, .null, .null]) := q_up
  have e443 : (va_up f420 v (.inr (11, [.int (nI 1000000000), .ref q4, .ref q39, .ref q84, .ref q190, .ref q312, .int (nI 0), .ref q375, .int (nI 20), .int (nI 0), .null, .null, .null]))) q4 = .inr (3, [.ref q21, .int (nI 0)]) := (q_ne (q_tag e422 e421 (show (3 : Nat) ≠ 11 by decide))).trans e422
  have e444 : (va_up f420 v (.inr (11, [.int (nI 1000000000), .ref q4, .ref q39, .ref q84, .ref q190, .ref q312, .int (nI 0), .ref q375, .int (nI 20), .int (nI 0), .null, .null, .null]))) q21 = .inl (E.1, 6144, .inl g22) := (q_ne (q_tag e423 e421 (show (1000 : Nat) ≠ 11 by decide))).trans e423
  have e445 : (va_up f420 v (.inr (11, [.int (nI 1000000000), .ref q4, .ref q39, .ref q84, .ref q190, .ref q312, .int (nI 0), .ref q375, .int (nI 20), .int (nI 0), .null, .null, .null]))) q39 = .inr (3, [.ref q60, .int (nI 0)]) := (q_ne (q_tag e424 e421 (show (3 : Nat) ≠ 11 by decide))).trans e424
  have e446 : (va_up f420 v (.inr (11, [.int (nI 1000000000), .ref q4, .ref q39, .ref q84, .ref q190, .ref q312, .int (nI 0), .ref q375, .int (nI 20), .int (nI 0), .null, .null, .null]))) q60 = .inl (E.1, 512, .inl g61) := (q_ne (q_tag e425 e421 (show (1000 : Nat) ≠ 11 by decide))).trans e425
  have e447 : (va_up f420 v (.inr (11, [.int (nI 1000000000), .ref q4, .ref q39, .ref q84, .ref q190, .ref q312, .int (nI 0), .ref q375, .int (nI 20), .int (nI 0), .null, .null, .null]))) q84 = .inr (6, [.ref q109, .ref q110, .ref q111, .ref q112, .ref q113, .int (nI 0), .int (nI 0), .ref q114]) := (q_ne (q_tag e426 e421 (show (6 : Nat) ≠ 11 by decide))).trans e426
  have e448 : (va_up f420 v (.inr (11, [.int (nI 1000000000), .ref q4, .ref q39, .ref q84, .ref q190, .ref q312, .int (nI 0), .ref q375, .int (nI 20), .int (nI 0), .null, .null, .null]))) q109 = .inl (E.2.1, 80, .inl g115) := (q_ne (q_tag e427 e421 (show (1000 : Nat) ≠ 11 by decide))).trans e427
  have e449 : (va_up f420 v (.inr (11, [.int (nI 1000000000), .ref q4, .ref q39, .ref q84, .ref q190, .ref q312, .int (nI 0), .ref q375, .int (nI 20), .int (nI 0), .null, .null, .null]))) q110 = .inl (E.1, 64, .inl g116) := (q_ne (q_tag e428 e421 (show (1000 : Nat) ≠ 11 by decide))).trans e428
  have e450 : (va_up f420 v (.inr (11, [.int (nI 1000000000), .ref q4, .ref q39, .ref q84, .ref q190, .ref q312, .int (nI 0), .ref q375, .int (nI 20), .int (nI 0), .null, .null, .null]))) q111 = .inl (E.2.1, 5, .inl g117) := (q_ne (q_tag e429 e421 (show (1000 : Nat) ≠ 11 by decide))).trans e429
  have e451 : (va_up f420 v (.inr (11, [.int (nI 1000000000), .ref q4, .ref q39, .ref q84, .ref q190, .ref q312, .int (nI 0), .ref q375, .int (nI 20), .int (nI 0), .null, .null, .null]))) q112 = .inl (E.2.1, 5, .inl g118) := (q_ne (q_tag e430 e421 (show (1000 : Nat) ≠ 11 by decide))).trans e430
  have e452 : (va_up f420 v (.inr (11, [.int (nI 1000000000), .ref q4, .ref q39, .ref q84, .ref q190, .ref q312, .int (nI 0), .ref q375, .int (nI 20), .int (nI 0), .null, .null, .null]))) q113 = .inl (E.2.1, 5, .inl g119) := (q_ne (q_tag e431 e421 (show (1000 : Nat) ≠ 11 by decide))).trans e431
  have e453 : (va_up f420 v (.inr (11, [.int (nI 1000000000), .ref q4, .ref q39, .ref q84, .ref q190, .ref q312, .int (nI 0), .ref q375, .int (nI 20), .int (nI 0), .null, .null, .null]))) q114 = .inl (E.1, 20, .inl g120) := (q_ne (q_tag e432 e421 (show (1000 : Nat) ≠ 11 by decide))).trans e432
  have e454 : (va_up f420 v (.inr (11, [.int (nI 1000000000), .ref q4, .ref q39, .ref q84, .ref q190, .ref q312, .int (nI 0), .ref q375, .int (nI 20), .int (nI 0), .null, .null, .null]))) q190 = .inr (1, [.ref o260, .ref q229, .ref q230, .int (nI 0), .ref q231, .ref q232, .ref o261]) := (q_ne (q_tag e433 e421 (show (1 : Nat) ≠ 11 by decide))).trans e433
  have e455 : (va_up f420 v (.inr (11, [.int (nI 1000000000), .ref q4, .ref q39, .ref q84, .ref q190, .ref q312, .int (nI 0), .ref q375, .int (nI 20), .int (nI 0), .null, .null, .null]))) q229 = .inl (E.2.1, 256, .inl g233) := (q_ne (q_tag e434 e421 (show (1000 : Nat) ≠ 11 by decide))).trans e434
  have e456 : (va_up f420 v (.inr (11, [.int (nI 1000000000), .ref q4, .ref q39, .ref q84, .ref q190, .ref q312, .int (nI 0), .ref q375, .int (nI 20), .int (nI 0), .null, .null, .null]))) q230 = .inl (E.2.1, 240, .inl g234) := (q_ne (q_tag e435 e421 (show (1000 : Nat) ≠ 11 by decide))).trans e435
  have e457 : (va_up f420 v (.inr (11, [.int (nI 1000000000), .ref q4, .ref q39, .ref q84, .ref q190, .ref q312, .int (nI 0), .ref q375, .int (nI 20), .int (nI 0), .null, .null, .null]))) q231 = .inl (E.2.1, 16, .inl g235) := (q_ne (q_tag e436 e421 (show (1000 : Nat) ≠ 11 by decide))).trans e436
  have e458 : (va_up f420 v (.inr (11, [.int (nI 1000000000), .ref q4, .ref q39, .ref q84, .ref q190, .ref q312, .int (nI 0), .ref q375, .int (nI 20), .int (nI 0), .null, .null, .null]))) q232 = .inl (E.2.1, 16, .inl g236) := (q_ne (q_tag e437 e421 (show (1000 : Nat) ≠ 11 by decide))).trans e437
  have e459 : (va_up f420 v (.inr (11, [.int (nI 1000000000), .ref q4, .ref q39, .ref q84, .ref q190, .ref q312, .int (nI 0), .ref q375, .int (nI 20), .int (nI 0), .null, .null, .null]))) q312 = .inl (E.1, 64, .inl (fun _ => 0)) := (q_ne (q_tag e438 e421 (show (1000 : Nat) ≠ 11 by decide))).trans e438
  have e460 : (va_up f420 v (.inr (11, [.int (nI 1000000000), .ref q4, .ref q39, .ref q84, .ref q190, .ref q312, .int (nI 0), .ref q375, .int (nI 20), .int (nI 0), .null, .null, .null]))) q375 = .inl (E.1, 20, .inl (fun _ => 0)) := (q_ne (q_tag e439 e421 (show (1000 : Nat) ≠ 11 by decide))).trans e439
  have hF461 : ∀ x, x ∈ L → x ≠ v → (va_up f420 v (.inr (11, [.int (nI 1000000000), .ref q4, .ref q39, .ref q84, .ref q190, .ref q312, .int (nI 0), .ref q375, .int (nI 20), .int (nI 0), .null, .null, .null]))) x = f x := fun x hx h0 => (q_ne h0).trans (hF440 x hx h0)
  have Y : pH D cCl (pA L sz) s.heap L376 (va_up f420 v (.inr (11, [.int (nI 1000000000), .ref q4, .ref q39, .ref q84, .ref q190, .ref q312, .int (nI 0), .ref q375, .int (nI 20), .int (nI 0), .null, .null, .null]))) H locs := Y
  generalize (va_up f420 v (.inr (11, [.int (nI 1000000000), .ref q4, .ref q39, .ref q84, .ref q190, .ref q312, .int (nI 0), .ref q375, .int (nI 20), .int (nI 0), .null, .null, .null]))) = f441 at Y e442 e443 e444 e445 e446 e447 e448 e449 e450 e451 e452 e453 e454 e455 e456 e457 e458 e459 e460 hF461
  refine lv_aload_n X.1 X.2.1 d_Va_init_82 rfl (lv_at hl 0 rfl) ?_
  refine lv_bipush (v := (nI 32)) X.1 X.2.1 d_Va_init_83 (by decide) ?_
  refine q_newa X.1 X.2.1 (atype := .byte) (ty := .byte) rfl ra_byte (X.2.2.1 _ ar_byte) X.2.2.2.2 0 (cE := E.1) rfl Y hA (N := (32)) (a0 := (32, .inl (fun _ => 0))) (fun cA => vz_byte cA (32)) (nI_pos (by omega)) (nI_clamp (by omega)) (by decide) (show 20 + 1 ≤ 24 by omega) (show 7738 + (32) ≤ (7856) by omega) d_Va_init_85 (fun q462 H hqq462 Y => ?_)
  have Y : pH D cCl (pA L sz) s.heap (L376 ++ [q462]) (va_up f441 q462 (.inl (E.1, 32, .inl (fun _ => 0)))) H locs := Y
  have e469 : (va_up f441 q462 (.inl (E.1, 32, .inl (fun _ => 0)))) q462 = .inl (E.1, 32, .inl (fun _ => 0)) := q_up
  have e470 : (va_up f441 q462 (.inl (E.1, 32, .inl (fun _ => 0)))) v = .inr (11, [.int (nI 1000000000), .ref q4, .ref q39, .ref q84, .ref q190, .ref q312, .int (nI 0), .ref q375, .int (nI 20), .int (nI 0), .null, .null, .null]) := (q_ne (ne_mem hqq462 m402)).trans e442
  have e471 : (va_up f441 q462 (.inl (E.1, 32, .inl (fun _ => 0)))) q4 = .inr (3, [.ref q21, .int (nI 0)]) := (q_ne (ne_mem hqq462 m403)).trans e443
  have e472 : (va_up f441 q462 (.inl (E.1, 32, .inl (fun _ => 0)))) q21 = .inl (E.1, 6144, .inl g22) := (q_ne (ne_mem hqq462 m404)).trans e444
  have e473 : (va_up f441 q462 (.inl (E.1, 32, .inl (fun _ => 0)))) q39 = .inr (3, [.ref q60, .int (nI 0)]) := (q_ne (ne_mem hqq462 m405)).trans e445
  have e474 : (va_up f441 q462 (.inl (E.1, 32, .inl (fun _ => 0)))) q60 = .inl (E.1, 512, .inl g61) := (q_ne (ne_mem hqq462 m406)).trans e446
  have e475 : (va_up f441 q462 (.inl (E.1, 32, .inl (fun _ => 0)))) q84 = .inr (6, [.ref q109, .ref q110, .ref q111, .ref q112, .ref q113, .int (nI 0), .int (nI 0), .ref q114]) := (q_ne (ne_mem hqq462 m407)).trans e447
  have e476 : (va_up f441 q462 (.inl (E.1, 32, .inl (fun _ => 0)))) q109 = .inl (E.2.1, 80, .inl g115) := (q_ne (ne_mem hqq462 m408)).trans e448
  have e477 : (va_up f441 q462 (.inl (E.1, 32, .inl (fun _ => 0)))) q110 = .inl (E.1, 64, .inl g116) := (q_ne (ne_mem hqq462 m409)).trans e449
  have e478 : (va_up f441 q462 (.inl (E.1, 32, .inl (fun _ => 0)))) q111 = .inl (E.2.1, 5, .inl g117) := (q_ne (ne_mem hqq462 m410)).trans e450
  have e479 : (va_up f441 q462 (.inl (E.1, 32, .inl (fun _ => 0)))) q112 = .inl (E.2.1, 5, .inl g118) := (q_ne (ne_mem hqq462 m411)).trans e451
  have e480 : (va_up f441 q462 (.inl (E.1, 32, .inl (fun _ => 0)))) q113 = .inl (E.2.1, 5, .inl g119) := (q_ne (ne_mem hqq462 m412)).trans e452
  have e481 : (va_up f441 q462 (.inl (E.1, 32, .inl (fun _ => 0)))) q114 = .inl (E.1, 20, .inl g120) := (q_ne (ne_mem hqq462 m413)).trans e453
  have e482 : (va_up f441 q462 (.inl (E.1, 32, .inl (fun _ => 0)))) q190 = .inr (1, [.ref o260, .ref q229, .ref q230, .int (nI 0), .ref q231, .ref q232, .ref o261]) := (q_ne (ne_mem hqq462 m414)).trans e454
  have e483 : (va_up f441 q462 (.inl (E.1, 32, .inl (fun _ => 0)))) q229 = .inl (E.2.1, 256, .inl g233) := (q_ne (ne_mem hqq462 m415)).trans e455
  have e484 : (va_up f441 q462 (.inl (E.1, 32, .inl (fun _ => 0)))) q230 = .inl (E.2.1, 240, .inl g234) := (q_ne (ne_mem hqq462 m416)).trans e456
  have e485 : (va_up f441 q462 (.inl (E.1, 32, .inl (fun _ => 0)))) q231 = .inl (E.2.1, 16, .inl g235) := (q_ne (ne_mem hqq462 m417)).trans e457
  have e486 : (va_up f441 q462 (.inl (E.1, 32, .inl (fun _ => 0)))) q232 = .inl (E.2.1, 16, .inl g236) := (q_ne (ne_mem hqq462 m418)).trans e458
  have e487 : (va_up f441 q462 (.inl (E.1, 32, .inl (fun _ => 0)))) q312 = .inl (E.1, 64, .inl (fun _ => 0)) := (q_ne (ne_mem hqq462 m419)).trans e459
  have e488 : (va_up f441 q462 (.inl (E.1, 32, .inl (fun _ => 0)))) q375 = .inl (E.1, 20, .inl (fun _ => 0)) := (q_ne (ne_mem hqq462 m379)).trans e460
  have nl467 : q462 ∉ L := fun h9 => hqq462 (s378 _ h9)
  have hF489 : ∀ x, x ∈ L → x ≠ v → (va_up f441 q462 (.inl (E.1, 32, .inl (fun _ => 0)))) x = f x := fun x hx h0 => (q_ne (ne_mem nl467 hx)).trans (hF461 x hx h0)
  generalize (va_up f441 q462 (.inl (E.1, 32, .inl (fun _ => 0)))) = f468 at Y e469 e470 e471 e472 e473 e474 e475 e476 e477 e478 e479 e480 e481 e482 e483 e484 e485 e486 e487 e488 hF489
  have s465 : ∀ x, x ∈ L → x ∈ L376 ++ [q462] := fun x hx => List.mem_append_left _ (s378 x hx)
  have m490 : v ∈ L376 ++ [q462] := List.mem_append_left _ m402
  have m491 : q4 ∈ L376 ++ [q462] := List.mem_append_left _ m403
  have m492 : q21 ∈ L376 ++ [q462] := List.mem_append_left _ m404
  have m493 : q39 ∈ L376 ++ [q462] := List.mem_append_left _ m405
  have m494 : q60 ∈ L376 ++ [q462] := List.mem_append_left _ m406
  have m495 : q84 ∈ L376 ++ [q462] := List.mem_append_left _ m407
  have m496 : q109 ∈ L376 ++ [q462] := List.mem_append_left _ m408
  have m497 : q110 ∈ L376 ++ [q462] := List.mem_append_left _ m409
  have m498 : q111 ∈ L376 ++ [q462] := List.mem_append_left _ m410
  have m499 : q112 ∈ L376 ++ [q462] := List.mem_append_left _ m411
  have m500 : q113 ∈ L376 ++ [q462] := List.mem_append_left _ m412
  have m501 : q114 ∈ L376 ++ [q462] := List.mem_append_left _ m413
  have m502 : q190 ∈ L376 ++ [q462] := List.mem_append_left _ m414
  have m503 : q229 ∈ L376 ++ [q462] := List.mem_append_left _ m415
  have m504 : q230 ∈ L376 ++ [q462] := List.mem_append_left _ m416
  have m505 : q231 ∈ L376 ++ [q462] := List.mem_append_left _ m417
  have m506 : q232 ∈ L376 ++ [q462] := List.mem_append_left _ m418
  have m507 : q312 ∈ L376 ++ [q462] := List.mem_append_left _ m419
  have m508 : q375 ∈ L376 ++ [q462] := List.mem_append_left _ m379
  have m466 : q462 ∈ L376 ++ [q462] := List.mem_append_right _ (List.mem_singleton.mpr rfl)
  generalize L376 ++ [q462] = L463 at Y s465 m490 m491 m492 m493 m494 m495 m496 m497 m498 m499 m500 m501 m502 m503 m504 m505 m506 m507 m508 m466
  refine q_putF X.1 X.2.1 X.2.2.1 i_Va t_Va t_Va_ok n_Va X.2.2.2.1 X.2.2.2.2 Y m490 e470 rfl 10 (by decide) (X.2.2.1 _ lk_Va_52) (fun _ h9 => h9) rfl hin rfl (t_Va_ok 10 (by decide)) rfl rfl (Nat.le_of_ble_eq_true rfl) d_Va_init_87 (fun H locs Y => ?_)
  have e510 : (va_up f468 v (.inr (11, [.int (nI 1000000000), .ref q4, .ref q39, .ref q84, .ref q190, .ref q312, .int (nI 0), .ref q375, .int (nI 20), .int (nI 0), .ref q462, .null, .null]))) v = .inr (11, [.int (nI 1000000000), .ref q4, .ref q39, .ref q84, .ref q190, .ref q312, .int (nI 0), .ref q375, .int (nI 20), .int (nI 0), .ref q462, .null, .null]) := q_up
  have e511 : (va_up f468 v (.inr (11, [.int (nI 1000000000), .ref q4, .ref q39, .ref q84, .ref q190, .ref q312, .int (nI 0), .ref q375, .int (nI 20), .int (nI 0), .ref q462, .null, .null]))) q4 = .inr (3, [.ref q21, .int (nI 0)]) := (q_ne (q_tag e471 e470 (show (3 : Nat) ≠ 11 by decide))).trans e471
  have e512 : (va_up f468 v (.inr (11, [.int (nI 1000000000), .ref q4, .ref q39, .ref q84, .ref q190, .ref q312, .int (nI 0), .ref q375, .int (nI 20), .int (nI 0), .ref q462, .null, .null]))) q21 = .inl (E.1, 6144, .inl g22) := (q_ne (q_tag e472 e470 (show (1000 : Nat) ≠ 11 by decide))).trans e472
  have e513 : (va_up f468 v (.inr (11, [.int (nI 1000000000), .ref q4, .ref q39, .ref q84, .ref q190, .ref q312, .int (nI 0), .ref q375, .int (nI 20), .int (nI 0), .ref q462, .null, .null]))) q39 = .inr (3, [.ref q60, .int (nI 0)]) := (q_ne (q_tag e473 e470 (show (3 : Nat) ≠ 11 by decide))).trans e473
  have e514 : (va_up f468 v (.inr (11, [.int (nI 1000000000), .ref q4, .ref q39, .ref q84, .ref q190, .ref q312, .int (nI 0), .ref q375, .int (nI 20), .int (nI 0), .ref q462, .null, .null]))) q60 = .inl (E.1, 512, .inl g61) := (q_ne (q_tag e474 e470 (show (1000 : Nat) ≠ 11 by decide))).trans e474
  have e515 : (va_up f468 v (.inr (11, [.int (nI 1000000000), .ref q4, .ref q39, .ref q84, .ref q190, .ref q312, .int (nI 0), .ref q375, .int (nI 20), .int (nI 0), .ref q462, .null, .null]))) q84 = .inr (6, [.ref q109, .ref q110, .ref q111, .ref q112, .ref q113, .int (nI 0), .int (nI 0), .ref q114]) := (q_ne (q_tag e475 e470 (show (6 : Nat) ≠ 11 by decide))).trans e475
  have e516 : (va_up f468 v (.inr (11, [.int (nI 1000000000), .ref q4, .ref q39, .ref q84, .ref q190, .ref q312, .int (nI 0), .ref q375, .int (nI 20), .int (nI 0), .ref q462, .null, .null]))) q109 = .inl (E.2.1, 80, .inl g115) := (q_ne (q_tag e476 e470 (show (1000 : Nat) ≠ 11 by decide))).trans e476
  have e517 : (va_up f468 v (.inr (11, [.int (nI 1000000000), .ref q4, .ref q39, .ref q84, .ref q190, .ref q312, .int (nI 0), .ref q375, .int (nI 20), .int (nI 0), .ref q462, .null, .null]))) q110 = .inl (E.1, 64, .inl g116) := (q_ne (q_tag e477 e470 (show (1000 : Nat) ≠ 11 by decide))).trans e477
  have e518 : (va_up f468 v (.inr (11, [.int (nI 1000000000), .ref q4, .ref q39, .ref q84, .ref q190, .ref q312, .int (nI 0), .ref q375, .int (nI 20), .int (nI 0), .ref q462, .null, .null]))) q111 = .inl (E.2.1, 5, .inl g117) := (q_ne (q_tag e478 e470 (show (1000 : Nat) ≠ 11 by decide))).trans e478
  have e519 : (va_up f468 v (.inr (11, [.int (nI 1000000000), .ref q4, .ref q39, .ref q84, .ref q190, .ref q312, .int (nI 0), .ref q375, .int (nI 20), .int (nI 0), .ref q462, .null, .null]))) q112 = .inl (E.2.1, 5, .inl g118) := (q_ne (q_tag e479 e470 (show (1000 : Nat) ≠ 11 by decide))).trans e479
  have e520 : (va_up f468 v (.inr (11, [.int (nI 1000000000), .ref q4, .ref q39, .ref q84, .ref q190, .ref q312, .int (nI 0), .ref q375, .int (nI 20), .int (nI 0), .ref q462, .null, .null]))) q113 = .inl (E.2.1, 5, .inl g119) := (q_ne (q_tag e480 e470 (show (1000 : Nat) ≠ 11 by decide))).trans e480
  have e521 : (va_up f468 v (.inr (11, [.int (nI 1000000000), .ref q4, .ref q39, .ref q84, .ref q190, .ref q312, .int (nI 0), .ref q375, .int (nI 20), .int (nI 0), .ref q462, .null, .null]))) q114 = .inl (E.1, 20, .inl g120) := (q_ne (q_tag e481 e470 (show (1000 : Nat) ≠ 11 by decide))).trans e481
  have e522 : (va_up f468 v (.inr (11, [.int (nI 1000000000), .ref q4, .ref q39, .ref q84, .ref q190, .ref q312, .int (nI 0), .ref q375, .int (nI 20), .int (nI 0), .ref q462, .null, .null]))) q190 = .inr (1, [.ref o260, .ref q229, .ref q230, .int (nI 0), .ref q231, .ref q232, .ref o261]) := (q_ne (q_tag e482 e470 (show (1 : Nat) ≠ 11 by decide))).trans e482
  have e523 : (va_up f468 v (.inr (11, [.int (nI 1000000000), .ref q4, .ref q39, .ref q84, .ref q190, .ref q312, .int (nI 0), .ref q375, .int (nI 20), .int (nI 0), .ref q462, .null, .null]))) q229 = .inl (E.2.1, 256, .inl g233) := (q_ne (q_tag e483 e470 (show (1000 : Nat) ≠ 11 by decide))).trans e483
  have e524 : (va_up f468 v (.inr (11, [.int (nI 1000000000), .ref q4, .ref q39, .ref q84, .ref q190, .ref q312, .int (nI 0), .ref q375, .int (nI 20), .int (nI 0), .ref q462, .null, .null]))) q230 = .inl (E.2.1, 240, .inl g234) := (q_ne (q_tag e484 e470 (show (1000 : Nat) ≠ 11 by decide))).trans e484
  have e525 : (va_up f468 v (.inr (11, [.int (nI 1000000000), .ref q4, .ref q39, .ref q84, .ref q190, .ref q312, .int (nI 0), .ref q375, .int (nI 20), .int (nI 0), .ref q462, .null, .null]))) q231 = .inl (E.2.1, 16, .inl g235) := (q_ne (q_tag e485 e470 (show (1000 : Nat) ≠ 11 by decide))).trans e485
  have e526 : (va_up f468 v (.inr (11, [.int (nI 1000000000), .ref q4, .ref q39, .ref q84, .ref q190, .ref q312, .int (nI 0), .ref q375, .int (nI 20), .int (nI 0), .ref q462, .null, .null]))) q232 = .inl (E.2.1, 16, .inl g236) := (q_ne (q_tag e486 e470 (show (1000 : Nat) ≠ 11 by decide))).trans e486
  have e527 : (va_up f468 v (.inr (11, [.int (nI 1000000000), .ref q4, .ref q39, .ref q84, .ref q190, .ref q312, .int (nI 0), .ref q375, .int (nI 20), .int (nI 0), .ref q462, .null, .null]))) q312 = .inl (E.1, 64, .inl (fun _ => 0)) := (q_ne (q_tag e487 e470 (show (1000 : Nat) ≠ 11 by decide))).trans e487
  have e528 : (va_up f468 v (.inr (11, [.int (nI 1000000000), .ref q4, .ref q39, .ref q84, .ref q190, .ref q312, .int (nI 0), .ref q375, .int (nI 20), .int (nI 0), .ref q462, .null, .null]))) q375 = .inl (E.1, 20, .inl (fun _ => 0)) := (q_ne (q_tag e488 e470 (show (1000 : Nat) ≠ 11 by decide))).trans e488
  have e529 : (va_up f468 v (.inr (11, [.int (nI 1000000000), .ref q4, .ref q39, .ref q84, .ref q190, .ref q312, .int (nI 0), .ref q375, .int (nI 20), .int (nI 0), .ref q462, .null, .null]))) q462 = .inl (E.1, 32, .inl (fun _ => 0)) := (q_ne (q_tag e469 e470 (show (1000 : Nat) ≠ 11 by decide))).trans e469
  have hF530 : ∀ x, x ∈ L → x ≠ v → (va_up f468 v (.inr (11, [.int (nI 1000000000), .ref q4, .ref q39, .ref q84, .ref q190, .ref q312, .int (nI 0), .ref q375, .int (nI 20), .int (nI 0), .ref q462, .null, .null]))) x = f x := fun x hx h0 => (q_ne h0).trans (hF489 x hx h0)
  have Y : pH D cCl (pA L sz) s.heap L463 (va_up f468 v (.inr (11, [.int (nI 1000000000), .ref q4, .ref q39, .ref q84, .ref q190, .ref q312, .int (nI 0), .ref q375, .int (nI 20), .int (nI 0), .ref q462, .null, .null]))) H locs := Y
  generalize (va_up f468 v (.inr (11, [.int (nI 1000000000), .ref q4, .ref q39, .ref q84, .ref q190, .ref q312, .int (nI 0), .ref q375, .int (nI 20), .int (nI 0), .ref q462, .null, .null]))) = f509 at Y e510 e511 e512 e513 e514 e515 e516 e517 e518 e519 e520 e521 e522 e523 e524 e525 e526 e527 e528 e529 hF530
  refine lv_aload_n X.1 X.2.1 d_Va_init_90 rfl (lv_at hl 0 rfl) ?_
  refine lv_bipush (v := (nI 20)) X.1 X.2.1 d_Va_init_91 (by decide) ?_
  refine q_newa X.1 X.2.1 (atype := .byte) (ty := .byte) rfl ra_byte (X.2.2.1 _ ar_byte) X.2.2.2.2 0 (cE := E.1) rfl Y hA (N := (20)) (a0 := (20, .inl (fun _ => 0))) (fun cA => vz_byte cA (20)) (nI_pos (by omega)) (nI_clamp (by omega)) (by decide) (show 21 + 1 ≤ 24 by omega) (show 7770 + (20) ≤ (7856) by omega) d_Va_init_93 (fun q531 H hqq531 Y => ?_)
  have Y : pH D cCl (pA L sz) s.heap (L463 ++ [q531]) (va_up f509 q531 (.inl (E.1, 20, .inl (fun _ => 0)))) H locs := Y
  have e538 : (va_up f509 q531 (.inl (E.1, 20, .inl (fun _ => 0)))) q531 = .inl (E.1, 20, .inl (fun _ => 0)) := q_up
  have e539 : (va_up f509 q531 (.inl (E.1, 20, .inl (fun _ => 0)))) v = .inr (11, [.int (nI 1000000000), .ref q4, .ref q39, .ref q84, .ref q190, .ref q312, .int (nI 0), .ref q375, .int (nI 20), .int (nI 0), .ref q462, .null, .null]) := (q_ne (ne_mem hqq531 m490)).trans e510
  have e540 : (va_up f509 q531 (.inl (E.1, 20, .inl (fun _ => 0)))) q4 = .inr (3, [.ref q21, .int (nI 0)]) := (q_ne (ne_mem hqq531 m491)).trans e511
  have e541 : (va_up f509 q531 (.inl (E.1, 20, .inl (fun _ => 0)))) q21 = .inl (E.1, 6144, .inl g22) := (q_ne (ne_mem hqq531 m492)).trans e512
  have e542 : (va_up f509 q531 (.inl (E.1, 20, .inl (fun _ => 0)))) q39 = .inr (3, [.ref q60, .int (nI 0)]) := (q_ne (ne_mem hqq531 m493)).trans e513
  have e543 : (va_up f509 q531 (.inl (E.1, 20, .inl (fun _ => 0)))) q60 = .inl (E.1, 512, .inl g61) := (q_ne (ne_mem hqq531 m494)).trans e514
  have e544 : (va_up f509 q531 (.inl (E.1, 20, .inl (fun _ => 0)))) q84 = .inr (6, [.ref q109, .ref q110, .ref q111, .ref q112, .ref q113, .int (nI 0), .int (nI 0), .ref q114]) := (q_ne (ne_mem hqq531 m495)).trans e515
  have e545 : (va_up f509 q531 (.inl (E.1, 20, .inl (fun _ => 0)))) q109 = .inl (E.2.1, 80, .inl g115) := (q_ne (ne_mem hqq531 m496)).trans e516
  have e546 : (va_up f509 q531 (.inl (E.1, 20, .inl (fun _ => 0)))) q110 = .inl (E.1, 64, .inl g116) := (q_ne (ne_mem hqq531 m497)).trans e517
  have e547 : (va_up f509 q531 (.inl (E.1, 20, .inl (fun _ => 0)))) q111 = .inl (E.2.1, 5, .inl g117) := (q_ne (ne_mem hqq531 m498)).trans e518
  have e548 : (va_up f509 q531 (.inl (E.1, 20, .inl (fun _ => 0)))) q112 = .inl (E.2.1, 5, .inl g118) := (q_ne (ne_mem hqq531 m499)).trans e519
  have e549 : (va_up f509 q531 (.inl (E.1, 20, .inl (fun _ => 0)))) q113 = .inl (E.2.1, 5, .inl g119) := (q_ne (ne_mem hqq531 m500)).trans e520
  have e550 : (va_up f509 q531 (.inl (E.1, 20, .inl (fun _ => 0)))) q114 = .inl (E.1, 20, .inl g120) := (q_ne (ne_mem hqq531 m501)).trans e521
  have e551 : (va_up f509 q531 (.inl (E.1, 20, .inl (fun _ => 0)))) q190 = .inr (1, [.ref o260, .ref q229, .ref q230, .int (nI 0), .ref q231, .ref q232, .ref o261]) := (q_ne (ne_mem hqq531 m502)).trans e522
  have e552 : (va_up f509 q531 (.inl (E.1, 20, .inl (fun _ => 0)))) q229 = .inl (E.2.1, 256, .inl g233) := (q_ne (ne_mem hqq531 m503)).trans e523
  have e553 : (va_up f509 q531 (.inl (E.1, 20, .inl (fun _ => 0)))) q230 = .inl (E.2.1, 240, .inl g234) := (q_ne (ne_mem hqq531 m504)).trans e524
  have e554 : (va_up f509 q531 (.inl (E.1, 20, .inl (fun _ => 0)))) q231 = .inl (E.2.1, 16, .inl g235) := (q_ne (ne_mem hqq531 m505)).trans e525
  have e555 : (va_up f509 q531 (.inl (E.1, 20, .inl (fun _ => 0)))) q232 = .inl (E.2.1, 16, .inl g236) := (q_ne (ne_mem hqq531 m506)).trans e526
  have e556 : (va_up f509 q531 (.inl (E.1, 20, .inl (fun _ => 0)))) q312 = .inl (E.1, 64, .inl (fun _ => 0)) := (q_ne (ne_mem hqq531 m507)).trans e527
  have e557 : (va_up f509 q531 (.inl (E.1, 20, .inl (fun _ => 0)))) q375 = .inl (E.1, 20, .inl (fun _ => 0)) := (q_ne (ne_mem hqq531 m508)).trans e528
  have e558 : (va_up f509 q531 (.inl (E.1, 20, .inl (fun _ => 0)))) q462 = .inl (E.1, 32, .inl (fun _ => 0)) := (q_ne (ne_mem hqq531 m466)).trans e529
  have nl536 : q531 ∉ L := fun h9 => hqq531 (s465 _ h9)
  have hF559 : ∀ x, x ∈ L → x ≠ v → (va_up f509 q531 (.inl (E.1, 20, .inl (fun _ => 0)))) x = f x := fun x hx h0 => (q_ne (ne_mem nl536 hx)).trans (hF530 x hx h0)
  generalize (va_up f509 q531 (.inl (E.1, 20, .inl (fun _ => 0)))) = f537 at Y e538 e539 e540 e541 e542 e543 e544 e545 e546 e547 e548 e549 e550 e551 e552 e553 e554 e555 e556 e557 e558 hF559
  have s534 : ∀ x, x ∈ L → x ∈ L463 ++ [q531] := fun x hx => List.mem_append_left _ (s465 x hx)
  have m560 : v ∈ L463 ++ [q531] := List.mem_append_left _ m490
  have m561 : q4 ∈ L463 ++ [q531] := List.mem_append_left _ m491
  have m562 : q21 ∈ L463 ++ [q531] := List.mem_append_left _ m492
  have m563 : q39 ∈ L463 ++ [q531] := List.mem_append_left _ m493
  have m564 : q60 ∈ L463 ++ [q531] := List.mem_append_left _ m494
  have m565 : q84 ∈ L463 ++ [q531] := List.mem_append_left _ m495
  have m566 : q109 ∈ L463 ++ [q531] := List.mem_append_left _ m496
  have m567 : q110 ∈ L463 ++ [q531] := List.mem_append_left _ m497
  have m568 : q111 ∈ L463 ++ [q531] := List.mem_append_left _ m498
  have m569 : q112 ∈ L463 ++ [q531] := List.mem_append_left _ m499
  have m570 : q113 ∈ L463 ++ [q531] := List.mem_append_left _ m500
  have m571 : q114 ∈ L463 ++ [q531] := List.mem_append_left _ m501
  have m572 : q190 ∈ L463 ++ [q531] := List.mem_append_left _ m502
  have m573 : q229 ∈ L463 ++ [q531] := List.mem_append_left _ m503
  have m574 : q230 ∈ L463 ++ [q531] := List.mem_append_left _ m504
  have m575 : q231 ∈ L463 ++ [q531] := List.mem_append_left _ m505
  have m576 : q232 ∈ L463 ++ [q531] := List.mem_append_left _ m506
  have m577 : q312 ∈ L463 ++ [q531] := List.mem_append_left _ m507
  have m578 : q375 ∈ L463 ++ [q531] := List.mem_append_left _ m508
  have m579 : q462 ∈ L463 ++ [q531] := List.mem_append_left _ m466
  have m535 : q531 ∈ L463 ++ [q531] := List.mem_append_right _ (List.mem_singleton.mpr rfl)
  generalize L463 ++ [q531] = L532 at Y s534 m560 m561 m562 m563 m564 m565 m566 m567 m568 m569 m570 m571 m572 m573 m574 m575 m576 m577 m578 m579 m535
  refine q_putF X.1 X.2.1 X.2.2.1 i_Va t_Va t_Va_ok n_Va X.2.2.2.1 X.2.2.2.2 Y m560 e539 rfl 11 (by decide) (X.2.2.1 _ lk_Va_55) (fun _ h9 => h9) rfl hin rfl (t_Va_ok 11 (by decide)) rfl rfl (Nat.le_of_ble_eq_true rfl) d_Va_init_95 (fun H locs Y => ?_)
  have e581 : (va_up f537 v (.inr (11, [.int (nI 1000000000), .ref q4, .ref q39, .ref q84, .ref q190, .ref q312, .int (nI 0), .ref q375, .int (nI 20), .int (nI 0), .ref q462, .ref q531, .null]))) v = .inr (11, [.int (nI 1000000000), .ref q4, .ref q39, .ref q84, .ref q190, .ref q312, .int (nI 0), .ref q375, .int (nI 20), .int (nI 0), .ref q462, .ref q531, .null]) := q_up
  have e582 : (va_up f537 v (.inr (11, [.int (nI 1000000000), .ref q4, .ref q39, .ref q84, .ref q190, .ref q312, .int (nI 0), .ref q375, .int (nI 20), .int (nI 0), .ref q462, .ref q531, .null]))) q4 = .inr (3, [.ref q21, .int (nI 0)]) := (q_ne (q_tag e540 e539 (show (3 : Nat) ≠ 11 by decide))).trans e540
  have e583 : (va_up f537 v (.inr (11, [.int (nI 1000000000), .ref q4, .ref q39, .ref q84, .ref q190, .ref q312, .int (nI 0), .ref q375, .int (nI 20), .int (nI 0), .ref q462, .ref q531, .null]))) q21 = .inl (E.1, 6144, .inl g22) := (q_ne (q_tag e541 e539 (show (1000 : Nat) ≠ 11 by decide))).trans e541
  have e584 : (va_up f537 v (.inr (11, [.int (nI 1000000000), .ref q4, .ref q39, .ref q84, .ref q190, .ref q312, .int (nI 0), .ref q375, .int (nI 20), .int (nI 0), .ref q462, .ref q531, .null]))) q39 = .inr (3, [.ref q60, .int (nI 0)]) := (q_ne (q_tag e542 e539 (show (3 : Nat) ≠ 11 by decide))).trans e542
  have e585 : (va_up f537 v (.inr (11, [.int (nI 1000000000), .ref q4, .ref q39, .ref q84, .ref q190, .ref q312, .int (nI 0), .ref q375, .int (nI 20), .int (nI 0), .ref q462, .ref q531, .null]))) q60 = .inl (E.1, 512, .inl g61) := (q_ne (q_tag e543 e539 (show (1000 : Nat) ≠ 11 by decide))).trans e543
  have e586 : (va_up f537 v (.inr (11, [.int (nI 1000000000), .ref q4, .ref q39, .ref q84, .ref q190, .ref q312, .int (nI 0), .ref q375, .int (nI 20), .int (nI 0), .ref q462, .ref q531, .null]))) q84 = .inr (6, [.ref q109, .ref q110, .ref q111, .ref q112, .ref q113, .int (nI 0), .int (nI 0), .ref q114]) := (q_ne (q_tag e544 e539 (show (6 : Nat) ≠ 11 by decide))).trans e544
  have e587 : (va_up f537 v (.inr (11, [.int (nI 1000000000), .ref q4, .ref q39, .ref q84, .ref q190, .ref q312, .int (nI 0), .ref q375, .int (nI 20), .int (nI 0), .ref q462, .ref q531, .null]))) q109 = .inl (E.2.1, 80, .inl g115) := (q_ne (q_tag e545 e539 (show (1000 : Nat) ≠ 11 by decide))).trans e545
  have e588 : (va_up f537 v (.inr (11, [.int (nI 1000000000), .ref q4, .ref q39, .ref q84, .ref q190, .ref q312, .int (nI 0), .ref q375, .int (nI 20), .int (nI 0), .ref q462, .ref q531, .null]))) q110 = .inl (E.1, 64, .inl g116) := (q_ne (q_tag e546 e539 (show (1000 : Nat) ≠ 11 by decide))).trans e546
  have e589 : (va_up f537 v (.inr (11, [.int (nI 1000000000), .ref q4, .ref q39, .ref q84, .ref q190, .ref q312, .int (nI 0), .ref q375, .int (nI 20), .int (nI 0), .ref q462, .ref q531, .null]))) q111 = .inl (E.2.1, 5, .inl g117) := (q_ne (q_tag e547 e539 (show (1000 : Nat) ≠ 11 by decide))).trans e547
  have e590 : (va_up f537 v (.inr (11, [.int (nI 1000000000), .ref q4, .ref q39, .ref q84, .ref q190, .ref q312, .int (nI 0), .ref q375, .int (nI 20), .int (nI 0), .ref q462, .ref q531, .null]))) q112 = .inl (E.2.1, 5, .inl g118) := (q_ne (q_tag e548 e539 (show (1000 : Nat) ≠ 11 by decide))).trans e548
  have e591 : (va_up f537 v (.inr (11, [.int (nI 1000000000), .ref q4, .ref q39, .ref q84, .ref q190, .ref q312, .int (nI 0), .ref q375, .int (nI 20), .int (nI 0), .ref q462, .ref q531, .null]))) q113 = .inl (E.2.1, 5, .inl g119) := (q_ne (q_tag e549 e539 (show (1000 : Nat) ≠ 11 by decide))).trans e549
  have e592 : (va_up f537 v (.inr (11, [.int (nI 1000000000), .ref q4, .ref q39, .ref q84, .ref q190, .ref q312, .int (nI 0), .ref q375, .int (nI 20), .int (nI 0), .ref q462, .ref q531, .null]))) q114 = .inl (E.1, 20, .inl g120) := (q_ne (q_tag e550 e539 (show (1000 : Nat) ≠ 11 by decide))).trans e550
  have e593 : (va_up f537 v (.inr (11, [.int (nI 1000000000), .ref q4, .ref q39, .ref q84, .ref q190, .ref q312, .int (nI 0), .ref q375, .int (nI 20), .int (nI 0), .ref q462, .ref q531, .null]))) q190 = .inr (1, [.ref o260, .ref q229, .ref q230, .int (nI 0), .ref q231, .ref q232, .ref o261]) := (q_ne (q_tag e551 e539 (show (1 : Nat) ≠ 11 by decide))).trans e551
  have e594 : (va_up f537 v (.inr (11, [.int (nI 1000000000), .ref q4, .ref q39, .ref q84, .ref q190, .ref q312, .int (nI 0), .ref q375, .int (nI 20), .int (nI 0), .ref q462, .ref q531, .null]))) q229 = .inl (E.2.1, 256, .inl g233) := (q_ne (q_tag e552 e539 (show (1000 : Nat) ≠ 11 by decide))).trans e552
  have e595 : (va_up f537 v (.inr (11, [.int (nI 1000000000), .ref q4, .ref q39, .ref q84, .ref q190, .ref q312, .int (nI 0), .ref q375, .int (nI 20), .int (nI 0), .ref q462, .ref q531, .null]))) q230 = .inl (E.2.1, 240, .inl g234) := (q_ne (q_tag e553 e539 (show (1000 : Nat) ≠ 11 by decide))).trans e553
  have e596 : (va_up f537 v (.inr (11, [.int (nI 1000000000), .ref q4, .ref q39, .ref q84, .ref q190, .ref q312, .int (nI 0), .ref q375, .int (nI 20), .int (nI 0), .ref q462, .ref q531, .null]))) q231 = .inl (E.2.1, 16, .inl g235) := (q_ne (q_tag e554 e539 (show (1000 : Nat) ≠ 11 by decide))).trans e554
  have e597 : (va_up f537 v (.inr (11, [.int (nI 1000000000), .ref q4, .ref q39, .ref q84, .ref q190, .ref q312, .int (nI 0), .ref q375, .int (nI 20), .int (nI 0), .ref q462, .ref q531, .null]))) q232 = .inl (E.2.1, 16, .inl g236) := (q_ne (q_tag e555 e539 (show (1000 : Nat) ≠ 11 by decide))).trans e555
  have e598 : (va_up f537 v (.inr (11, [.int (nI 1000000000), .ref q4, .ref q39, .ref q84, .ref q190, .ref q312, .int (nI 0), .ref q375, .int (nI 20), .int (nI 0), .ref q462, .ref q531, .null]))) q312 = .inl (E.1, 64, .inl (fun _ => 0)) := (q_ne (q_tag e556 e539 (show (1000 : Nat) ≠ 11 by decide))).trans e556
  have e599 : (va_up f537 v (.inr (11, [.int (nI 1000000000), .ref q4, .ref q39, .ref q84, .ref q190, .ref q312, .int (nI 0), .ref q375, .int (nI 20), .int (nI 0), .ref q462, .ref q531, .null]))) q375 = .inl (E.1, 20, .inl (fun _ => 0)) := (q_ne (q_tag e557 e539 (show (1000 : Nat) ≠ 11 by decide))).trans e557
  have e600 : (va_up f537 v (.inr (11, [.int (nI 1000000000), .ref q4, .ref q39, .ref q84, .ref q190, .ref q312, .int (nI 0), .ref q375, .int (nI 20), .int (nI 0), .ref q462, .ref q531, .null]))) q462 = .inl (E.1, 32, .inl (fun _ => 0)) := (q_ne (q_tag e558 e539 (show (1000 : Nat) ≠ 11 by decide))).trans e558
  have e601 : (va_up f537 v (.inr (11, [.int (nI 1000000000), .ref q4, .ref q39, .ref q84, .ref q190, .ref q312, .int (nI 0), .ref q375, .int (nI 20), .int (nI 0), .ref q462, .ref q531, .null]))) q531 = .inl (E.1, 20, .inl (fun _ => 0)) := (q_ne (q_tag e538 e539 (show (1000 : Nat) ≠ 11 by decide))).trans e538
  have hF602 : ∀ x, x ∈ L → x ≠ v → (va_up f537 v (.inr (11, [.int (nI 1000000000), .ref q4, .ref q39, .ref q84, .ref q190, .ref q312, .int (nI 0), .ref q375, .int (nI 20), .int (nI 0), .ref q462, .ref q531, .null]))) x = f x := fun x hx h0 => (q_ne h0).trans (hF559 x hx h0)
  have Y : pH D cCl (pA L sz) s.heap L532 (va_up f537 v (.inr (11, [.int (nI 1000000000), .ref q4, .ref q39, .ref q84, .ref q190, .ref q312, .int (nI 0), .ref q375, .int (nI 20), .int (nI 0), .ref q462, .ref q531, .null]))) H locs := Y
  generalize (va_up f537 v (.inr (11, [.int (nI 1000000000), .ref q4, .ref q39, .ref q84, .ref q190, .ref q312, .int (nI 0), .ref q375, .int (nI 20), .int (nI 0), .ref q462, .ref q531, .null]))) = f580 at Y e581 e582 e583 e584 e585 e586 e587 e588 e589 e590 e591 e592 e593 e594 e595 e596 e597 e598 e599 e600 e601 hF602
  refine lv_aload_n X.1 X.2.1 d_Va_init_98 rfl (lv_at hl 0 rfl) ?_
  refine q_new X.1 X.2.1 X.2.2.1 i_By t_By t_By_ok X.2.2.2.1 (X.2.2.1 _ ck_Va_16) (X.2.2.1 _ mk_By) (X.2.2.1 _ ini_By) X.2.2.2.2 Y hA (ci := 3) rfl (fs := [.null, .int (nI 0)]) (fun j hj => match j, hj with | 0, _ => rfl | 1, _ => rfl | n9 + 2, h9 => absurd (show n9 + 2 < 2 from h9) (by omega)) (show 22 + 1 ≤ 24 by omega) (show 7790 + 2 ≤ (7856) by omega) d_Va_init_99 (fun q603 H hqq603 Y => ?_)
  have Y : pH D cCl (pA L sz) s.heap (L532 ++ [q603]) (va_up f580 q603 (.inr (3, [.null, .int (nI 0)]))) H locs := Y
  have e610 : (va_up f580 q603 (.inr (3, [.null, .int (nI 0)]))) q603 = .inr (3, [.null, .int (nI 0)]) := q_up
  have e611 : (va_up f580 q603 (.inr (3, [.null, .int (nI 0)]))) v = .inr (11, [.int (nI 1000000000), .ref q4, .ref q39, .ref q84, .ref q190, .ref q312, .int (nI 0), .ref q375, .int (nI 20), .int (nI 0), .ref q462, .ref q531, .null]) := (q_ne (ne_mem hqq603 m560)).trans e581
  have e612 : (va_up f580 q603 (.inr (3, [.null, .int (nI 0)]))) q4 = .inr (3, [.ref q21, .int (nI 0)]) := (q_ne (ne_mem hqq603 m561)).trans e582
  have e613 : (va_up f580 q603 (.inr (3, [.null, .int (nI 0)]))) q21 = .inl (E.1, 6144, .inl g22) := (q_ne (ne_mem hqq603 m562)).trans e583
  have e614 : (va_up f580 q603 (.inr (3, [.null, .int (nI 0)]))) q39 = .inr (3, [.ref q60, .int (nI 0)]) := (q_ne (ne_mem hqq603 m563)).trans e584
  have e615 : (va_up f580 q603 (.inr (3, [.null, .int (nI 0)]))) q60 = .inl (E.1, 512, .inl g61) := (q_ne (ne_mem hqq603 m564)).trans e585
  have e616 : (va_up f580 q603 (.inr (3, [.null, .int (nI 0)]))) q84 = .inr (6, [.ref q109, .ref q110, .ref q111, .ref q112, .ref q113, .int (nI 0), .int (nI 0), .ref q114]) := (q_ne (ne_mem hqq603 m565)).trans e586
  have e617 : (va_up f580 q603 (.inr (3, [.null, .int (nI 0)]))) q109 = .inl (E.2.1, 80, .inl g115) := (q_ne (ne_mem hqq603 m566)).trans e587
  have e618 : (va_up f580 q603 (.inr (3, [.null, .int (nI 0)]))) q110 = .inl (E.1, 64, .inl g116) := (q_ne (ne_mem hqq603 m567)).trans e588
  have e619 : (va_up f580 q603 (.inr (3, [.null, .int (nI 0)]))) q111 = .inl (E.2.1, 5, .inl g117) := (q_ne (ne_mem hqq603 m568)).trans e589
  have e620 : (va_up f580 q603 (.inr (3, [.null, .int (nI 0)]))) q112 = .inl (E.2.1, 5, .inl g118) := (q_ne (ne_mem hqq603 m569)).trans e590
  have e621 : (va_up f580 q603 (.inr (3, [.null, .int (nI 0)]))) q113 = .inl (E.2.1, 5, .inl g119) := (q_ne (ne_mem hqq603 m570)).trans e591
  have e622 : (va_up f580 q603 (.inr (3, [.null, .int (nI 0)]))) q114 = .inl (E.1, 20, .inl g120) := (q_ne (ne_mem hqq603 m571)).trans e592
  have e623 : (va_up f580 q603 (.inr (3, [.null, .int (nI 0)]))) q190 = .inr (1, [.ref o260, .ref q229, .ref q230, .int (nI 0), .ref q231, .ref q232, .ref o261]) := (q_ne (ne_mem hqq603 m572)).trans e593
  have e624 : (va_up f580 q603 (.inr (3, [.null, .int (nI 0)]))) q229 = .inl (E.2.1, 256, .inl g233) := (q_ne (ne_mem hqq603 m573)).trans e594
  have e625 : (va_up f580 q603 (.inr (3, [.null, .int (nI 0)]))) q230 = .inl (E.2.1, 240, .inl g234) := (q_ne (ne_mem hqq603 m574)).trans e595
  have e626 : (va_up f580 q603 (.inr (3, [.null, .int (nI 0)]))) q231 = .inl (E.2.1, 16, .inl g235) := (q_ne (ne_mem hqq603 m575)).trans e596
  have e627 : (va_up f580 q603 (.inr (3, [.null, .int (nI 0)]))) q232 = .inl (E.2.1, 16, .inl g236) := (q_ne (ne_mem hqq603 m576)).trans e597
  have e628 : (va_up f580 q603 (.inr (3, [.null, .int (nI 0)]))) q312 = .inl (E.1, 64, .inl (fun _ => 0)) := (q_ne (ne_mem hqq603 m577)).trans e598
  have e629 : (va_up f580 q603 (.inr (3, [.null, .int (nI 0)]))) q375 = .inl (E.1, 20, .inl (fun _ => 0)) := (q_ne (ne_mem hqq603 m578)).trans e599
  have e630 : (va_up f580 q603 (.inr (3, [.null, .int (nI 0)]))) q462 = .inl (E.1, 32, .inl (fun _ => 0)) := (q_ne (ne_mem hqq603 m579)).trans e600
  have e631 : (va_up f580 q603 (.inr (3, [.null, .int (nI 0)]))) q531 = .inl (E.1, 20, .inl (fun _ => 0)) := (q_ne (ne_mem hqq603 m535)).trans e601
  have nl608 : q603 ∉ L := fun h9 => hqq603 (s534 _ h9)
  have hF632 : ∀ x, x ∈ L → x ≠ v → (va_up f580 q603 (.inr (3, [.null, .int (nI 0)]))) x = f x := fun x hx h0 => (q_ne (ne_mem nl608 hx)).trans (hF602 x hx h0)
  generalize (va_up f580 q603 (.inr (3, [.null, .int (nI 0)]))) = f609 at Y e610 e611 e612 e613 e614 e615 e616 e617 e618 e619 e620 e621 e622 e623 e624 e625 e626 e627 e628 e629 e630 e631 hF632
  have s606 : ∀ x, x ∈ L → x ∈ L532 ++ [q603] := fun x hx => List.mem_append_left _ (s534 x hx)
  have m633 : v ∈ L532 ++ [q603] := List.mem_append_left _ m560
  have m634 : q4 ∈ L532 ++ [q603] := List.mem_append_left _ m561
  have m635 : q21 ∈ L532 ++ [q603] := List.mem_append_left _ m562
  have m636 : q39 ∈ L532 ++ [q603] := List.mem_append_left _ m563
  have m637 : q60 ∈ L532 ++ [q603] := List.mem_append_left _ m564
  have m638 : q84 ∈ L532 ++ [q603] := List.mem_append_left _ m565
  have m639 : q109 ∈ L532 ++ [q603] := List.mem_append_left _ m566
  have m640 : q110 ∈ L532 ++ [q603] := List.mem_append_left _ m567
  have m641 : q111 ∈ L532 ++ [q603] := List.mem_append_left _ m568
  have m642 : q112 ∈ L532 ++ [q603] := List.mem_append_left _ m569
  have m643 : q113 ∈ L532 ++ [q603] := List.mem_append_left _ m570
  have m644 : q114 ∈ L532 ++ [q603] := List.mem_append_left _ m571
  have m645 : q190 ∈ L532 ++ [q603] := List.mem_append_left _ m572
  have m646 : q229 ∈ L532 ++ [q603] := List.mem_append_left _ m573
  have m647 : q230 ∈ L532 ++ [q603] := List.mem_append_left _ m574
  have m648 : q231 ∈ L532 ++ [q603] := List.mem_append_left _ m575
  have m649 : q232 ∈ L532 ++ [q603] := List.mem_append_left _ m576
  have m650 : q312 ∈ L532 ++ [q603] := List.mem_append_left _ m577
  have m651 : q375 ∈ L532 ++ [q603] := List.mem_append_left _ m578
  have m652 : q462 ∈ L532 ++ [q603] := List.mem_append_left _ m579
  have m653 : q531 ∈ L532 ++ [q603] := List.mem_append_left _ m535
  have m607 : q603 ∈ L532 ++ [q603] := List.mem_append_right _ (List.mem_singleton.mpr rfl)
  generalize L532 ++ [q603] = L604 at Y s606 m633 m634 m635 m636 m637 m638 m639 m640 m641 m642 m643 m644 m645 m646 m647 m648 m649 m650 m651 m652 m653 m607
  refine lv_dup X.1 X.2.1 d_Va_init_102 rfl ?_
  refine lv_bipush (v := (nI 64)) X.1 X.2.1 d_Va_init_103 (by decide) ?_
  refine x_v (x_runI (As := [.int (nI 64)]) (rest := [.ref q603, .ref v]) (n := 1) X hml hl.1 (c_By_init l D E T L604 f609 H.size (64) q603 m607 e610 (by omega)) (ok_k X Y hA KS KR) kl_Va_By_init ks_By_init ki_By_init ini_By rfl ⟨rfl, rfl⟩ hd_By_init.2 ⟨by decide, by decide⟩ rfl (Nat.le_of_ble_eq_true rfl) d_Va_init_105 ⟨(show 23 + 1 ≤ 24 by omega), (show 7792 + (64) ≤ (7856) by omega)⟩) X Y hA (fun u H locs hp Y => ?_)
  obtain ⟨L656, f655⟩ := u
  obtain ⟨eL658, hF657, q660, g661, m662, nl663, hg664, e665, e666⟩ := hp
  dsimp only at eL658 hF657 m662 e665 e666 Y
  have e667 : f655 v = .inr (11, [.int (nI 1000000000), .ref q4, .ref q39, .ref q84, .ref q190, .ref q312, .int (nI 0), .ref q375, .int (nI 20), .int (nI 0), .ref q462, .ref q531, .null]) := (hF657 v m633 (q_tag e611 e610 (show (11 : Nat) ≠ 3 by decide))).trans e611
  have e668 : f655 q4 = .inr (3, [.ref q21, .int (nI 0)]) := (hF657 q4 m634 (ne_mem hqq603 m561)).trans e612
  have e669 : f655 q21 = .inl (E.1, 6144, .inl g22) := (hF657 q21 m635 (q_tag e613 e610 (show (1000 : Nat) ≠ 3 by decide))).trans e613
  have e670 : f655 q39 = .inr (3, [.ref q60, .int (nI 0)]) := (hF657 q39 m636 (ne_mem hqq603 m563)).trans e614
  have e671 : f655 q60 = .inl (E.1, 512, .inl g61) := (hF657 q60 m637 (q_tag e615 e610 (show (1000 : Nat) ≠ 3 by decide))).trans e615
  have e672 : f655 q84 = .inr (6, [.ref q109, .ref q110, .ref q111, .ref q112, .ref q113, .int (nI 0), .int (nI 0), .ref q114]) := (hF657 q84 m638 (q_tag e616 e610 (show (6 : Nat) ≠ 3 by decide))).trans e616
  have e673 : f655 q109 = .inl (E.2.1, 80, .inl g115) := (hF657 q109 m639 (q_tag e617 e610 (show (1000 : Nat) ≠ 3 by decide))).trans e617
  have e674 : f655 q110 = .inl (E.1, 64, .inl g116) := (hF657 q110 m640 (q_tag e618 e610 (show (1000 : Nat) ≠ 3 by decide))).trans e618
  have e675 : f655 q111 = .inl (E.2.1, 5, .inl g117) := (hF657 q111 m641 (q_tag e619 e610 (show (1000 : Nat) ≠ 3 by decide))).trans e619
  have e676 : f655 q112 = .inl (E.2.1, 5, .inl g118) := (hF657 q112 m642 (q_tag e620 e610 (show (1000 : Nat) ≠ 3 by decide))).trans e620
  have e677 : f655 q113 = .inl (E.2.1, 5, .inl g119) := (hF657 q113 m643 (q_tag e621 e610 (show (1000 : Nat) ≠ 3 by decide))).trans e621
  have e678 : f655 q114 = .inl (E.1, 20, .inl g120) := (hF657 q114 m644 (q_tag e622 e610 (show (1000 : Nat) ≠ 3 by decide))).trans e622
  have e679 : f655 q190 = .inr (1, [.ref o260, .ref q229, .ref q230, .int (nI 0), .ref q231, .ref q232, .ref o261]) := (hF657 q190 m645 (q_tag e623 e610 (show (1 : Nat) ≠ 3 by decide))).trans e623
  have e680 : f655 q229 = .inl (E.2.1, 256, .inl g233) := (hF657 q229 m646 (q_tag e624 e610 (show (1000 : Nat) ≠ 3 by decide))).trans e624
  have e681 : f655 q230 = .inl (E.2.1, 240, .inl g234) := (hF657 q230 m647 (q_tag e625 e610 (show (1000 : Nat) ≠ 3 by decide))).trans e625
  have e682 : f655 q231 = .inl (E.2.1, 16, .inl g235) := (hF657 q231 m648 (q_tag e626 e610 (show (1000 : Nat) ≠ 3 by decide))).trans e626
  have e683 : f655 q232 = .inl (E.2.1, 16, .inl g236) := (hF657 q232 m649 (q_tag e627 e610 (show (1000 : Nat) ≠ 3 by decide))).trans e627
  have e684 : f655 q312 = .inl (E.1, 64, .inl (fun _ => 0)) := (hF657 q312 m650 (q_tag e628 e610 (show (1000 : Nat) ≠ 3 by decide))).trans e628
  have e685 : f655 q375 = .inl (E.1, 20, .inl (fun _ => 0)) := (hF657 q375 m651 (q_tag e629 e610 (show (1000 : Nat) ≠ 3 by decide))).trans e629
  have e686 : f655 q462 = .inl (E.1, 32, .inl (fun _ => 0)) := (hF657 q462 m652 (q_tag e630 e610 (show (1000 : Nat) ≠ 3 by decide))).trans e630
  have e687 : f655 q531 = .inl (E.1, 20, .inl (fun _ => 0)) := (hF657 q531 m653 (q_tag e631 e610 (show (1000 : Nat) ≠ 3 by decide))).trans e631
  have hF688 : ∀ x, x ∈ L → x ≠ v → f655 x = f x := fun x hx h0 => (hF657 x (s606 x hx) (ne_mem nl608 hx)).trans (hF632 x hx h0)
  have s689 : ∀ x, x ∈ L → x ∈ L656 := fun x hx => eL658 x (s606 x hx)
  have nl690 : q660 ∉ L := fun h9 => nl663 (s606 _ h9)
  have m691 : v ∈ L656 := eL658 _ m633
  have m692 : q4 ∈ L656 := eL658 _ m634
  have m693 : q21 ∈ L656 := eL658 _ m635
  have m694 : q39 ∈ L656 := eL658 _ m636
  have m695 : q60 ∈ L656 := eL658 _ m637
  have m696 : q84 ∈ L656 := eL658 _ m638
  have m697 : q109 ∈ L656 := eL658 _ m639
  have m698 : q110 ∈ L656 := eL658 _ m640
  have m699 : q111 ∈ L656 := eL658 _ m641
  have m700 : q112 ∈ L656 := eL658 _ m642
  have m701 : q113 ∈ L656 := eL658 _ m643
  have m702 : q114 ∈ L656 := eL658 _ m644
  have m703 : q190 ∈ L656 := eL658 _ m645
  have m704 : q229 ∈ L656 := eL658 _ m646
  have m705 : q230 ∈ L656 := eL658 _ m647
  have m706 : q231 ∈ L656 := eL658 _ m648
  have m707 : q232 ∈ L656 := eL658 _ m649
  have m708 : q312 ∈ L656 := eL658 _ m650
  have m709 : q375 ∈ L656 := eL658 _ m651
  have m710 : q462 ∈ L656 := eL658 _ m652
  have m711 : q531 ∈ L656 := eL658 _ m653
  have m712 : q603 ∈ L656 := eL658 _ m607
  refine q_putF X.1 X.2.1 X.2.2.1 i_Va t_Va t_Va_ok n_Va X.2.2.2.1 X.2.2.2.2 Y m691 e667 rfl 12 (by decide) (X.2.2.1 _ lk_Va_58) (fun _ h9 => h9) rfl hin rfl (t_Va_ok 12 (by decide)) rfl rfl (Nat.le_of_ble_eq_true rfl) d_Va_init_108 (fun H locs Y => ?_)
  have e714 : (va_up f655 v (.inr (11, [.int (nI 1000000000), .ref q4, .ref q39, .ref q84, .ref q190, .ref q312, .int (nI 0), .ref q375, .int (nI 20), .int (nI 0), .ref q462, .ref q531, .ref q603]))) v = .inr (11, [.int (nI 1000000000), .ref q4, .ref q39, .ref q84, .ref q190, .ref q312, .int (nI 0), .ref q375, .int (nI 20), .int (nI 0), .ref q462, .ref q531, .ref q603]) := q_up
  have e715 : (va_up f655 v (.inr (11, [.int (nI 1000000000), .ref q4, .ref q39, .ref q84, .ref q190, .ref q312, .int (nI 0), .ref q375, .int (nI 20), .int (nI 0), .ref q462, .ref q531, .ref q603]))) q4 = .inr (3, [.ref q21, .int (nI 0)]) := (q_ne (q_tag e668 e667 (show (3 : Nat) ≠ 11 by decide))).trans e668
  have e716 : (va_up f655 v (.inr (11, [.int (nI 1000000000), .ref q4, .ref q39, .ref q84, .ref q190, .ref q312, .int (nI 0), .ref q375, .int (nI 20), .int (nI 0), .ref q462, .ref q531, .ref q603]))) q21 = .inl (E.1, 6144, .inl g22) := (q_ne (q_tag e669 e667 (show (1000 : Nat) ≠ 11 by decide))).trans e669
  have e717 : (va_up f655 v (.inr (11, [.int (nI 1000000000), .ref q4, .ref q39, .ref q84, .ref q190, .ref q312, .int (nI 0), .ref q375, .int (nI 20), .int (nI 0), .ref q462, .ref q531, .ref q603]))) q39 = .inr (3, [.ref q60, .int (nI 0)]) := (q_ne (q_tag e670 e667 (show (3 : Nat) ≠ 11 by decide))).trans e670
  have e718 : (va_up f655 v (.inr (11, [.int (nI 1000000000), .ref q4, .ref q39, .ref q84, .ref q190, .ref q312, .int (nI 0), .ref q375, .int (nI 20), .int (nI 0), .ref q462, .ref q531, .ref q603]))) q60 = .inl (E.1, 512, .inl g61) := (q_ne (q_tag e671 e667 (show (1000 : Nat) ≠ 11 by decide))).trans e671
  have e719 : (va_up f655 v (.inr (11, [.int (nI 1000000000), .ref q4, .ref q39, .ref q84, .ref q190, .ref q312, .int (nI 0), .ref q375, .int (nI 20), .int (nI 0), .ref q462, .ref q531, .ref q603]))) q84 = .inr (6, [.ref q109, .ref q110, .ref q111, .ref q112, .ref q113, .int (nI 0), .int (nI 0), .ref q114]) := (q_ne (q_tag e672 e667 (show (6 : Nat) ≠ 11 by decide))).trans e672
  have e720 : (va_up f655 v (.inr (11, [.int (nI 1000000000), .ref q4, .ref q39, .ref q84, .ref q190, .ref q312, .int (nI 0), .ref q375, .int (nI 20), .int (nI 0), .ref q462, .ref q531, .ref q603]))) q109 = .inl (E.2.1, 80, .inl g115) := (q_ne (q_tag e673 e667 (show (1000 : Nat) ≠ 11 by decide))).trans e673
  have e721 : (va_up f655 v (.inr (11, [.int (nI 1000000000), .ref q4, .ref q39, .ref q84, .ref q190, .ref q312, .int (nI 0), .ref q375, .int (nI 20), .int (nI 0), .ref q462, .ref q531, .ref q603]))) q110 = .inl (E.1, 64, .inl g116) := (q_ne (q_tag e674 e667 (show (1000 : Nat) ≠ 11 by decide))).trans e674
  have e722 : (va_up f655 v (.inr (11, [.int (nI 1000000000), .ref q4, .ref q39, .ref q84, .ref q190, .ref q312, .int (nI 0), .ref q375, .int (nI 20), .int (nI 0), .ref q462, .ref q531, .ref q603]))) q111 = .inl (E.2.1, 5, .inl g117) := (q_ne (q_tag e675 e667 (show (1000 : Nat) ≠ 11 by decide))).trans e675
  have e723 : (va_up f655 v (.inr (11, [.int (nI 1000000000), .ref q4, .ref q39, .ref q84, .ref q190, .ref q312, .int (nI 0), .ref q375, .int (nI 20), .int (nI 0), .ref q462, .ref q531, .ref q603]))) q112 = .inl (E.2.1, 5, .inl g118) := (q_ne (q_tag e676 e667 (show (1000 : Nat) ≠ 11 by decide))).trans e676
  have e724 : (va_up f655 v (.inr (11, [.int (nI 1000000000), .ref q4, .ref q39, .ref q84, .ref q190, .ref q312, .int (nI 0), .ref q375, .int (nI 20), .int (nI 0), .ref q462, .ref q531, .ref q603]))) q113 = .inl (E.2.1, 5, .inl g119) := (q_ne (q_tag e677 e667 (show (1000 : Nat) ≠ 11 by decide))).trans e677
  have e725 : (va_up f655 v (.inr (11, [.int (nI 1000000000), .ref q4, .ref q39, .ref q84, .ref q190, .ref q312, .int (nI 0), .ref q375, .int (nI 20), .int (nI 0), .ref q462, .ref q531, .ref q603]))) q114 = .inl (E.1, 20, .inl g120) := (q_ne (q_tag e678 e667 (show (1000 : Nat) ≠ 11 by decide))).trans e678
  have e726 : (va_up f655 v (.inr (11, [.int (nI 1000000000), .ref q4, .ref q39, .ref q84, .ref q190, .ref q312, .int (nI 0), .ref q375, .int (nI 20), .int (nI 0), .ref q462, .ref q531, .ref q603]))) q190 = .inr (1, [.ref o260, .ref q229, .ref q230, .int (nI 0), .ref q231, .ref q232, .ref o261]) := (q_ne (q_tag e679 e667 (show (1 : Nat) ≠ 11 by decide))).trans e679
  have e727 : (va_up f655 v (.inr (11, [.int (nI 1000000000), .ref q4, .ref q39, .ref q84, .ref q190, .ref q312, .int (nI 0), .ref q375, .int (nI 20), .int (nI 0), .ref q462, .ref q531, .ref q603]))) q229 = .inl (E.2.1, 256, .inl g233) := (q_ne (q_tag e680 e667 (show (1000 : Nat) ≠ 11 by decide))).trans e680
  have e728 : (va_up f655 v (.inr (11, [.int (nI 1000000000), .ref q4, .ref q39, .ref q84, .ref q190, .ref q312, .int (nI 0), .ref q375, .int (nI 20), .int (nI 0), .ref q462, .ref q531, .ref q603]))) q230 = .inl (E.2.1, 240, .inl g234) := (q_ne (q_tag e681 e667 (show (1000 : Nat) ≠ 11 by decide))).trans e681
  have e729 : (va_up f655 v (.inr (11, [.int (nI 1000000000), .ref q4, .ref q39, .ref q84, .ref q190, .ref q312, .int (nI 0), .ref q375, .int (nI 20), .int (nI 0), .ref q462, .ref q531, .ref q603]))) q231 = .inl (E.2.1, 16, .inl g235) := (q_ne (q_tag e682 e667 (show (1000 : Nat) ≠ 11 by decide))).trans e682
  have e730 : (va_up f655 v (.inr (11, [.int (nI 1000000000), .ref q4, .ref q39, .ref q84, .ref q190, .ref q312, .int (nI 0), .ref q375, .int (nI 20), .int (nI 0), .ref q462, .ref q531, .ref q603]))) q232 = .inl (E.2.1, 16, .inl g236) := (q_ne (q_tag e683 e667 (show (1000 : Nat) ≠ 11 by decide))).trans e683
  have e731 : (va_up f655 v (.inr (11, [.int (nI 1000000000), .ref q4, .ref q39, .ref q84, .ref q190, .ref q312, .int (nI 0), .ref q375, .int (nI 20), .int (nI 0), .ref q462, .ref q531, .ref q603]))) q312 = .inl (E.1, 64, .inl (fun _ => 0)) := (q_ne (q_tag e684 e667 (show (1000 : Nat) ≠ 11 by decide))).trans e684
  have e732 : (va_up f655 v (.inr (11, [.int (nI 1000000000), .ref q4, .ref q39, .ref q84, .ref q190, .ref q312, .int (nI 0), .ref q375, .int (nI 20), .int (nI 0), .ref q462, .ref q531, .ref q603]))) q375 = .inl (E.1, 20, .inl (fun _ => 0)) := (q_ne (q_tag e685 e667 (show (1000 : Nat) ≠ 11 by decide))).trans e685
  have e733 : (va_up f655 v (.inr (11, [.int (nI 1000000000), .ref q4, .ref q39, .ref q84, .ref q190, .ref q312, .int (nI 0), .ref q375, .int (nI 20), .int (nI 0), .ref q462, .ref q531, .ref q603]))) q462 = .inl (E.1, 32, .inl (fun _ => 0)) := (q_ne (q_tag e686 e667 (show (1000 : Nat) ≠ 11 by decide))).trans e686
  have e734 : (va_up f655 v (.inr (11, [.int (nI 1000000000), .ref q4, .ref q39, .ref q84, .ref q190, .ref q312, .int (nI 0), .ref q375, .int (nI 20), .int (nI 0), .ref q462, .ref q531, .ref q603]))) q531 = .inl (E.1, 20, .inl (fun _ => 0)) := (q_ne (q_tag e687 e667 (show (1000 : Nat) ≠ 11 by decide))).trans e687
  have e735 : (va_up f655 v (.inr (11, [.int (nI 1000000000), .ref q4, .ref q39, .ref q84, .ref q190, .ref q312, .int (nI 0), .ref q375, .int (nI 20), .int (nI 0), .ref q462, .ref q531, .ref q603]))) q603 = .inr (3, [.ref q660, .int (nI 0)]) := (q_ne (q_tag e665 e667 (show (3 : Nat) ≠ 11 by decide))).trans e665
  have e736 : (va_up f655 v (.inr (11, [.int (nI 1000000000), .ref q4, .ref q39, .ref q84, .ref q190, .ref q312, .int (nI 0), .ref q375, .int (nI 20), .int (nI 0), .ref q462, .ref q531, .ref q603]))) q660 = .inl (E.1, 64, .inl g661) := (q_ne (q_tag e666 e667 (show (1000 : Nat) ≠ 11 by decide))).trans e666
  have hF737 : ∀ x, x ∈ L → x ≠ v → (va_up f655 v (.inr (11, [.int (nI 1000000000), .ref q4, .ref q39, .ref q84, .ref q190, .ref q312, .int (nI 0), .ref q375, .int (nI 20), .int (nI 0), .ref q462, .ref q531, .ref q603]))) x = f x := fun x hx h0 => (q_ne h0).trans (hF688 x hx h0)
  have Y : pH D cCl (pA L sz) s.heap L656 (va_up f655 v (.inr (11, [.int (nI 1000000000), .ref q4, .ref q39, .ref q84, .ref q190, .ref q312, .int (nI 0), .ref q375, .int (nI 20), .int (nI 0), .ref q462, .ref q531, .ref q603]))) H locs := Y
  generalize (va_up f655 v (.inr (11, [.int (nI 1000000000), .ref q4, .ref q39, .ref q84, .ref q190, .ref q312, .int (nI 0), .ref q375, .int (nI 20), .int (nI 0), .ref q462, .ref q531, .ref q603]))) = f713 at Y e714 e715 e716 e717 e718 e719 e720 e721 e722 e723 e724 e725 e726 e727 e728 e729 e730 e731 e732 e733 e734 e735 e736 hF737
  refine W.cs (cells' := 24) (slots' := 7856) (by omega) (by omega) ?_
  exact c_retv hQQ X Y hr hlk ⟨s689, hF737, q84, q109, q110, q111, q112, q113, q114, q190, q229, q230, q231, q232, q312, q531, q603, q660, q4, q39, q375, q462, o260, o261, g115, g116, g117, g118, g119, g120, g233, g234, g235, g236, (fun _ => 0), (fun _ => 0), g661, m696, nl89, m697, nl164, m698, nl165, m699, nl166, m700, nl167, m701, nl168, m702, nl169, m703, nl195, m704, nl276, m705, nl277, m706, nl278, m707, nl279, m708, nl317, m711, nl536, m712, nl608, m662, nl690, ap133, ap134, ap135, ap136, ap137, (ne_mem nl241 m217), (ne_mem nl242 m217), (ne_mem nl243 m217), (ne_mem nl244 m217), (ne_mem hqq312 m286), (ne_mem hqq531 m496), (ne_mem nl663 m639), ap138, ap139, ap140, ap141, (ne_mem nl241 m218), (ne_mem nl242 m218), (ne_mem nl243 m218), (ne_mem nl244 m218), (ne_mem hqq312 m287), (ne_mem hqq531 m497), (ne_mem nl663 m640), ap142, ap143, ap144, (ne_mem nl241 m219), (ne_mem nl242 m219), (ne_mem nl243 m219), (ne_mem nl244 m219), (ne_mem hqq312 m288), (ne_mem hqq531 m498), (ne_mem nl663 m641), ap145, ap146, (ne_mem nl241 m220), (ne_mem nl242 m220), (ne_mem nl243 m220), (ne_mem nl244 m220), (ne_mem hqq312 m289), (ne_mem hqq531 m499), (ne_mem nl663 m642), ap147, (ne_mem nl241 m221), (ne_mem nl242 m221), (ne_mem nl243 m221), (ne_mem nl244 m221), (ne_mem hqq312 m290), (ne_mem hqq531 m500), (ne_mem nl663 m643), (ne_mem nl241 m222), (ne_mem nl242 m222), (ne_mem nl243 m222), (ne_mem nl244 m222), (ne_mem hqq312 m291), (ne_mem hqq531 m501), (ne_mem nl663 m644), ap245, ap246, ap247, (ne_mem hqq312 m237), (ne_mem hqq531 m503), (ne_mem nl663 m646), ap248, ap249, (ne_mem hqq312 m238), (ne_mem hqq531 m504), (ne_mem nl663 m647), ap250, (ne_mem hqq312 m239), (ne_mem hqq531 m505), (ne_mem nl663 m648), (ne_mem hqq312 m240), (ne_mem hqq531 m506), (ne_mem nl663 m649), (ne_mem hqq531 m507), (ne_mem nl663 m650), (ne_mem nl663 m653), hg148, hg149, hg251, hg252, hg253, hg254, fB_0, fB_0, hg664, e714, e719, e720, e721, e722, e723, e724, e725, e726, e727, e728, e729, e730, e731, e734, e735, e736⟩ d_Va_init_111
