abbrev b_Ha_init : ByteArray := prog_7_method_1_code
def y_Ha_init : MethodName := ⟨R_Ha, "<init>", "()V"⟩
abbrev k_Ha_init : Cond := .code y_Ha_init b_Ha_init 1 none
theorem ki_Ha_init : k_Ha_init ∈ lw_tg := in_t 68 (by decide +kernel)
theorem ks_Ha_init : Cond.instanceMethod y_Ha_init ∈ lw_tg := in_t 67 (by decide +kernel)
theorem hd_Ha_init : y_Ha_init.cls = R_Ha ∧ y_Ha_init.cls ≠ "java/lang/invoke/MethodHandle" ∧ y_Ha_init.cls ≠ "java/lang/invoke/VarHandle" ∧ (parseMethodDescriptor y_Ha_init.desc).map (fun d => d.parameters.length) = some 0 := by decide +kernel
theorem d_Ha_init_0 : decode b_Ha_init 0 = .ok (.aload_n 0, 1) := by decide +kernel
theorem d_Ha_init_1 : decode b_Ha_init 1 = .ok (.invokespecial 1, 3) := by decide +kernel
theorem d_Ha_init_4 : decode b_Ha_init 4 = .ok (.aload_n 0, 1) := by decide +kernel
theorem d_Ha_init_5 : decode b_Ha_init 5 = .ok (.bipush 80, 2) := by decide +kernel
theorem d_Ha_init_7 : decode b_Ha_init 7 = .ok (.newarray .int, 2) := by decide +kernel
theorem d_Ha_init_9 : decode b_Ha_init 9 = .ok (.putfield 7, 3) := by decide +kernel
theorem d_Ha_init_12 : decode b_Ha_init 12 = .ok (.aload_n 0, 1) := by decide +kernel
theorem d_Ha_init_13 : decode b_Ha_init 13 = .ok (.bipush 64, 2) := by decide +kernel
theorem d_Ha_init_15 : decode b_Ha_init 15 = .ok (.newarray .byte, 2) := by decide +kernel
theorem d_Ha_init_17 : decode b_Ha_init 17 = .ok (.putfield 13, 3) := by decide +kernel
theorem d_Ha_init_20 : decode b_Ha_init 20 = .ok (.aload_n 0, 1) := by decide +kernel
theorem d_Ha_init_21 : decode b_Ha_init 21 = .ok (.iconst 5, 1) := by decide +kernel
theorem d_Ha_init_22 : decode b_Ha_init 22 = .ok (.newarray .int, 2) := by decide +kernel
theorem d_Ha_init_24 : decode b_Ha_init 24 = .ok (.putfield 17, 3) := by decide +kernel
theorem d_Ha_init_27 : decode b_Ha_init 27 = .ok (.aload_n 0, 1) := by decide +kernel
theorem d_Ha_init_28 : decode b_Ha_init 28 = .ok (.iconst 5, 1) := by decide +kernel
theorem d_Ha_init_29 : decode b_Ha_init 29 = .ok (.newarray .int, 2) := by decide +kernel
theorem d_Ha_init_31 : decode b_Ha_init 31 = .ok (.putfield 20, 3) := by decide +kernel
theorem d_Ha_init_34 : decode b_Ha_init 34 = .ok (.aload_n 0, 1) := by decide +kernel
theorem d_Ha_init_35 : decode b_Ha_init 35 = .ok (.iconst 5, 1) := by decide +kernel
theorem d_Ha_init_36 : decode b_Ha_init 36 = .ok (.newarray .int, 2) := by decide +kernel
theorem d_Ha_init_38 : decode b_Ha_init 38 = .ok (.putfield 23, 3) := by decide +kernel
theorem d_Ha_init_41 : decode b_Ha_init 41 = .ok (.aload_n 0, 1) := by decide +kernel
theorem d_Ha_init_42 : decode b_Ha_init 42 = .ok (.bipush 20, 2) := by decide +kernel
theorem d_Ha_init_44 : decode b_Ha_init 44 = .ok (.newarray .byte, 2) := by decide +kernel
theorem d_Ha_init_46 : decode b_Ha_init 46 = .ok (.putfield 26, 3) := by decide +kernel
theorem d_Ha_init_49 : decode b_Ha_init 49 = .ok (.return_, 1) := by decide +kernel
abbrev b_Ha_setKey : ByteArray := prog_7_method_2_code
def y_Ha_setKey : MethodName := ⟨R_Ha, "setKey", "([BII)V"⟩
abbrev k_Ha_setKey : Cond := .code y_Ha_setKey b_Ha_setKey 4 none
theorem ki_Ha_setKey : k_Ha_setKey ∈ lw_tg := in_t 587 (by decide +kernel)
theorem ks_Ha_setKey : Cond.instanceMethod y_Ha_setKey ∈ lw_tg := in_t 585 (by decide +kernel)
theorem kx_Ha_setKey : Cond.selects R_Ha y_Ha_setKey y_Ha_setKey ∈ lw_tg := in_t 586 (by decide +kernel)
theorem kl_Va_Ha_setKey : Cond.methodLink R_Va 112 y_Ha_setKey ∈ lw_tg := in_t 584 (by decide +kernel)
theorem hd_Ha_setKey : y_Ha_setKey.cls = R_Ha ∧ y_Ha_setKey.cls ≠ "java/lang/invoke/MethodHandle" ∧ y_Ha_setKey.cls ≠ "java/lang/invoke/VarHandle" ∧ (parseMethodDescriptor y_Ha_setKey.desc).map (fun d => d.parameters.length) = some 3 := by decide +kernel
theorem d_Ha_setKey_0 : decode b_Ha_setKey 0 = .ok (.aload_n 0, 1) := by decide +kernel
theorem d_Ha_setKey_1 : decode b_Ha_setKey 1 = .ok (.aload_n 1, 1) := by decide +kernel
theorem d_Ha_setKey_2 : decode b_Ha_setKey 2 = .ok (.iload_n 2, 1) := by decide +kernel
theorem d_Ha_setKey_3 : decode b_Ha_setKey 3 = .ok (.iload_n 3, 1) := by decide +kernel
theorem d_Ha_setKey_4 : decode b_Ha_setKey 4 = .ok (.bipush 54, 2) := by decide +kernel
theorem d_Ha_setKey_6 : decode b_Ha_setKey 6 = .ok (.invokevirtual 29, 3) := by decide +kernel
theorem d_Ha_setKey_9 : decode b_Ha_setKey 9 = .ok (.aload_n 0, 1) := by decide +kernel
theorem d_Ha_setKey_10 : decode b_Ha_setKey 10 = .ok (.getfield 17, 3) := by decide +kernel
theorem d_Ha_setKey_13 : decode b_Ha_setKey 13 = .ok (.iconst 0, 1) := by decide +kernel
theorem d_Ha_setKey_14 : decode b_Ha_setKey 14 = .ok (.aload_n 0, 1) := by decide +kernel
theorem d_Ha_setKey_15 : decode b_Ha_setKey 15 = .ok (.getfield 20, 3) := by decide +kernel
theorem d_Ha_setKey_18 : decode b_Ha_setKey 18 = .ok (.iconst 0, 1) := by decide +kernel
theorem d_Ha_setKey_19 : decode b_Ha_setKey 19 = .ok (.iconst 5, 1) := by decide +kernel
theorem d_Ha_setKey_20 : decode b_Ha_setKey 20 = .ok (.invokestatic 33, 3) := by decide +kernel
theorem d_Ha_setKey_23 : decode b_Ha_setKey 23 = .ok (.aload_n 0, 1) := by decide +kernel
theorem d_Ha_setKey_24 : decode b_Ha_setKey 24 = .ok (.aload_n 1, 1) := by decide +kernel
theorem d_Ha_setKey_25 : decode b_Ha_setKey 25 = .ok (.iload_n 2, 1) := by decide +kernel
theorem d_Ha_setKey_26 : decode b_Ha_setKey 26 = .ok (.iload_n 3, 1) := by decide +kernel
theorem d_Ha_setKey_27 : decode b_Ha_setKey 27 = .ok (.bipush 92, 2) := by decide +kernel
theorem d_Ha_setKey_29 : decode b_Ha_setKey 29 = .ok (.invokevirtual 29, 3) := by decide +kernel
theorem d_Ha_setKey_32 : decode b_Ha_setKey 32 = .ok (.aload_n 0, 1) := by decide +kernel
theorem d_Ha_setKey_33 : decode b_Ha_setKey 33 = .ok (.getfield 17, 3) := by decide +kernel
theorem d_Ha_setKey_36 : decode b_Ha_setKey 36 = .ok (.iconst 0, 1) := by decide +kernel
theorem d_Ha_setKey_37 : decode b_Ha_setKey 37 = .ok (.aload_n 0, 1) := by decide +kernel
theorem d_Ha_setKey_38 : decode b_Ha_setKey 38 = .ok (.getfield 23, 3) := by decide +kernel
theorem d_Ha_setKey_41 : decode b_Ha_setKey 41 = .ok (.iconst 0, 1) := by decide +kernel
theorem d_Ha_setKey_42 : decode b_Ha_setKey 42 = .ok (.iconst 5, 1) := by decide +kernel
theorem d_Ha_setKey_43 : decode b_Ha_setKey 43 = .ok (.invokestatic 33, 3) := by decide +kernel
theorem d_Ha_setKey_46 : decode b_Ha_setKey 46 = .ok (.return_, 1) := by decide +kernel
abbrev b_Ha_pad : ByteArray := prog_7_method_3_code
def y_Ha_pad : MethodName := ⟨R_Ha, "pad", "([BIII)V"⟩
abbrev k_Ha_pad : Cond := .code y_Ha_pad b_Ha_pad 7 none
theorem ki_Ha_pad : k_Ha_pad ∈ lw_tg := in_t 591 (by decide +kernel)
theorem ks_Ha_pad : Cond.instanceMethod y_Ha_pad ∈ lw_tg := in_t 590 (by decide +kernel)
theorem kx_Ha_pad : Cond.selects R_Ha y_Ha_pad y_Ha_pad ∈ lw_tg := List.mem_filter.mpr ⟨List.mem_append_left _ (List.mem_of_getElem? (i := 0) (by decide +kernel)), rfl⟩
theorem kl_Ha_Ha_pad : Cond.methodLink R_Ha 29 y_Ha_pad ∈ lw_tg := in_t 588 (by decide +kernel)
theorem hd_Ha_pad : y_Ha_pad.cls = R_Ha ∧ y_Ha_pad.cls ≠ "java/lang/invoke/MethodHandle" ∧ y_Ha_pad.cls ≠ "java/lang/invoke/VarHandle" ∧ (parseMethodDescriptor y_Ha_pad.desc).map (fun d => d.parameters.length) = some 4 := by decide +kernel
theorem d_Ha_pad_0 : decode b_Ha_pad 0 = .ok (.iconst 0, 1) := by decide +kernel
theorem d_Ha_pad_1 : decode b_Ha_pad 1 = .ok (.istore 5, 2) := by decide +kernel
theorem d_Ha_pad_3 : decode b_Ha_pad 3 = .ok (.iload 5, 2) := by decide +kernel
theorem d_Ha_pad_5 : decode b_Ha_pad 5 = .ok (.bipush 64, 2) := by decide +kernel
theorem d_Ha_pad_7 : decode b_Ha_pad 7 = .ok (.if_icmp .ge 62, 3) := by decide +kernel
theorem d_Ha_pad_10 : decode b_Ha_pad 10 = .ok (.iload 5, 2) := by decide +kernel
theorem d_Ha_pad_12 : decode b_Ha_pad 12 = .ok (.iload_n 3, 1) := by decide +kernel
theorem d_Ha_pad_13 : decode b_Ha_pad 13 = .ok (.if_icmp .ge 20, 3) := by decide +kernel
theorem d_Ha_pad_16 : decode b_Ha_pad 16 = .ok (.iload_n 2, 1) := by decide +kernel
theorem d_Ha_pad_17 : decode b_Ha_pad 17 = .ok (.ifCond .lt 16, 3) := by decide +kernel
theorem d_Ha_pad_20 : decode b_Ha_pad 20 = .ok (.iload_n 2, 1) := by decide +kernel
theorem d_Ha_pad_21 : decode b_Ha_pad 21 = .ok (.iload 5, 2) := by decide +kernel
theorem d_Ha_pad_23 : decode b_Ha_pad 23 = .ok (.iadd, 1) := by decide +kernel
theorem d_Ha_pad_24 : decode b_Ha_pad 24 = .ok (.aload_n 1, 1) := by decide +kernel
theorem d_Ha_pad_25 : decode b_Ha_pad 25 = .ok (.arraylength, 1) := by decide +kernel
theorem d_Ha_pad_26 : decode b_Ha_pad 26 = .ok (.if_icmp .ge 7, 3) := by decide +kernel
theorem d_Ha_pad_29 : decode b_Ha_pad 29 = .ok (.iconst 1, 1) := by decide +kernel
theorem d_Ha_pad_30 : decode b_Ha_pad 30 = .ok (.goto 4, 3) := by decide +kernel
theorem d_Ha_pad_33 : decode b_Ha_pad 33 = .ok (.iconst 0, 1) := by decide +kernel
theorem d_Ha_pad_34 : decode b_Ha_pad 34 = .ok (.istore 6, 2) := by decide +kernel
theorem d_Ha_pad_36 : decode b_Ha_pad 36 = .ok (.aload_n 0, 1) := by decide +kernel
theorem d_Ha_pad_37 : decode b_Ha_pad 37 = .ok (.getfield 13, 3) := by decide +kernel
theorem d_Ha_pad_40 : decode b_Ha_pad 40 = .ok (.iload 5, 2) := by decide +kernel
theorem d_Ha_pad_42 : decode b_Ha_pad 42 = .ok (.iload 6, 2) := by decide +kernel
theorem d_Ha_pad_44 : decode b_Ha_pad 44 = .ok (.ifCond .eq 15, 3) := by decide +kernel
theorem d_Ha_pad_47 : decode b_Ha_pad 47 = .ok (.aload_n 1, 1) := by decide +kernel
theorem d_Ha_pad_48 : decode b_Ha_pad 48 = .ok (.iload_n 2, 1) := by decide +kernel
theorem d_Ha_pad_49 : decode b_Ha_pad 49 = .ok (.iload 5, 2) := by decide +kernel
theorem d_Ha_pad_51 : decode b_Ha_pad 51 = .ok (.iadd, 1) := by decide +kernel
theorem d_Ha_pad_52 : decode b_Ha_pad 52 = .ok (.baload, 1) := by decide +kernel
theorem d_Ha_pad_53 : decode b_Ha_pad 53 = .ok (.iload 4, 2) := by decide +kernel
theorem d_Ha_pad_55 : decode b_Ha_pad 55 = .ok (.ixor, 1) := by decide +kernel
theorem d_Ha_pad_56 : decode b_Ha_pad 56 = .ok (.goto 5, 3) := by decide +kernel
theorem d_Ha_pad_59 : decode b_Ha_pad 59 = .ok (.iload 4, 2) := by decide +kernel
theorem d_Ha_pad_61 : decode b_Ha_pad 61 = .ok (.i2b, 1) := by decide +kernel
theorem d_Ha_pad_62 : decode b_Ha_pad 62 = .ok (.bastore, 1) := by decide +kernel
theorem d_Ha_pad_63 : decode b_Ha_pad 63 = .ok (.iinc 5 1, 3) := by decide +kernel
theorem d_Ha_pad_66 : decode b_Ha_pad 66 = .ok (.goto (-63), 3) := by decide +kernel
theorem d_Ha_pad_69 : decode b_Ha_pad 69 = .ok (.aload_n 0, 1) := by decide +kernel
theorem d_Ha_pad_70 : decode b_Ha_pad 70 = .ok (.getfield 17, 3) := by decide +kernel
theorem d_Ha_pad_73 : decode b_Ha_pad 73 = .ok (.iconst 0, 1) := by decide +kernel
theorem d_Ha_pad_74 : decode b_Ha_pad 74 = .ok (.ldc 39, 2) := by decide +kernel
theorem d_Ha_pad_76 : decode b_Ha_pad 76 = .ok (.iastore, 1) := by decide +kernel
theorem d_Ha_pad_77 : decode b_Ha_pad 77 = .ok (.aload_n 0, 1) := by decide +kernel
theorem d_Ha_pad_78 : decode b_Ha_pad 78 = .ok (.getfield 17, 3) := by decide +kernel
theorem d_Ha_pad_81 : decode b_Ha_pad 81 = .ok (.iconst 1, 1) := by decide +kernel
theorem d_Ha_pad_82 : decode b_Ha_pad 82 = .ok (.ldc 40, 2) := by decide +kernel
theorem d_Ha_pad_84 : decode b_Ha_pad 84 = .ok (.iastore, 1) := by decide +kernel
theorem d_Ha_pad_85 : decode b_Ha_pad 85 = .ok (.aload_n 0, 1) := by decide +kernel
theorem d_Ha_pad_86 : decode b_Ha_pad 86 = .ok (.getfield 17, 3) := by decide +kernel
theorem d_Ha_pad_89 : decode b_Ha_pad 89 = .ok (.iconst 2, 1) := by decide +kernel
theorem d_Ha_pad_90 : decode b_Ha_pad 90 = .ok (.ldc 41, 2) := by decide +kernel
theorem d_Ha_pad_92 : decode b_Ha_pad 92 = .ok (.iastore, 1) := by decide +kernel
theorem d_Ha_pad_93 : decode b_Ha_pad 93 = .ok (.aload_n 0, 1) := by decide +kernel
theorem d_Ha_pad_94 : decode b_Ha_pad 94 = .ok (.getfield 17, 3) := by decide +kernel
theorem d_Ha_pad_97 : decode b_Ha_pad 97 = .ok (.iconst 3, 1) := by decide +kernel
theorem d_Ha_pad_98 : decode b_Ha_pad 98 = .ok (.ldc 42, 2) := by decide +kernel
theorem d_Ha_pad_100 : decode b_Ha_pad 100 = .ok (.iastore, 1) := by decide +kernel
theorem d_Ha_pad_101 : decode b_Ha_pad 101 = .ok (.aload_n 0, 1) := by decide +kernel
theorem d_Ha_pad_102 : decode b_Ha_pad 102 = .ok (.getfield 17, 3) := by decide +kernel
theorem d_Ha_pad_105 : decode b_Ha_pad 105 = .ok (.iconst 4, 1) := by decide +kernel
theorem d_Ha_pad_106 : decode b_Ha_pad 106 = .ok (.ldc 43, 2) := by decide +kernel
theorem d_Ha_pad_108 : decode b_Ha_pad 108 = .ok (.iastore, 1) := by decide +kernel
theorem d_Ha_pad_109 : decode b_Ha_pad 109 = .ok (.aload_n 0, 1) := by decide +kernel
theorem d_Ha_pad_110 : decode b_Ha_pad 110 = .ok (.invokevirtual 44, 3) := by decide +kernel
theorem d_Ha_pad_113 : decode b_Ha_pad 113 = .ok (.return_, 1) := by decide +kernel
abbrev b_Ha_begin : ByteArray := prog_7_method_4_code
def y_Ha_begin : MethodName := ⟨R_Ha, "begin", "()V"⟩
abbrev k_Ha_begin : Cond := .code y_Ha_begin b_Ha_begin 1 none
theorem ki_Ha_begin : k_Ha_begin ∈ lw_tg := in_t 617 (by decide +kernel)
theorem ks_Ha_begin : Cond.instanceMethod y_Ha_begin ∈ lw_tg := in_t 615 (by decide +kernel)
theorem kx_Ha_begin : Cond.selects R_Ha y_Ha_begin y_Ha_begin ∈ lw_tg := in_t 616 (by decide +kernel)
theorem kl_Va_Ha_begin : Cond.methodLink R_Va 116 y_Ha_begin ∈ lw_tg := in_t 614 (by decide +kernel)
theorem hd_Ha_begin : y_Ha_begin.cls = R_Ha ∧ y_Ha_begin.cls ≠ "java/lang/invoke/MethodHandle" ∧ y_Ha_begin.cls ≠ "java/lang/invoke/VarHandle" ∧ (parseMethodDescriptor y_Ha_begin.desc).map (fun d => d.parameters.length) = some 0 := by decide +kernel
theorem d_Ha_begin_0 : decode b_Ha_begin 0 = .ok (.aload_n 0, 1) := by decide +kernel
theorem d_Ha_begin_1 : decode b_Ha_begin 1 = .ok (.getfield 20, 3) := by decide +kernel
theorem d_Ha_begin_4 : decode b_Ha_begin 4 = .ok (.iconst 0, 1) := by decide +kernel
theorem d_Ha_begin_5 : decode b_Ha_begin 5 = .ok (.aload_n 0, 1) := by decide +kernel
theorem d_Ha_begin_6 : decode b_Ha_begin 6 = .ok (.getfield 17, 3) := by decide +kernel
theorem d_Ha_begin_9 : decode b_Ha_begin 9 = .ok (.iconst 0, 1) := by decide +kernel
theorem d_Ha_begin_10 : decode b_Ha_begin 10 = .ok (.iconst 5, 1) := by decide +kernel
theorem d_Ha_begin_11 : decode b_Ha_begin 11 = .ok (.invokestatic 33, 3) := by decide +kernel
theorem d_Ha_begin_14 : decode b_Ha_begin 14 = .ok (.aload_n 0, 1) := by decide +kernel
theorem d_Ha_begin_15 : decode b_Ha_begin 15 = .ok (.iconst 0, 1) := by decide +kernel
theorem d_Ha_begin_16 : decode b_Ha_begin 16 = .ok (.putfield 47, 3) := by decide +kernel
theorem d_Ha_begin_19 : decode b_Ha_begin 19 = .ok (.aload_n 0, 1) := by decide +kernel
theorem d_Ha_begin_20 : decode b_Ha_begin 20 = .ok (.bipush 64, 2) := by decide +kernel
theorem d_Ha_begin_22 : decode b_Ha_begin 22 = .ok (.putfield 51, 3) := by decide +kernel
theorem d_Ha_begin_25 : decode b_Ha_begin 25 = .ok (.return_, 1) := by decide +kernel
abbrev b_Ha_add : ByteArray := prog_7_method_5_code
def y_Ha_add : MethodName := ⟨R_Ha, "add", "([BII)V"⟩
abbrev k_Ha_add : Cond := .code y_Ha_add b_Ha_add 5 none
theorem ki_Ha_add : k_Ha_add ∈ lw_tg := in_t 621 (by decide +kernel)
theorem ks_Ha_add : Cond.instanceMethod y_Ha_add ∈ lw_tg := in_t 619 (by decide +kernel)
theorem kx_Ha_add : Cond.selects R_Ha y_Ha_add y_Ha_add ∈ lw_tg := in_t 620 (by decide +kernel)
theorem kl_Va_Ha_add : Cond.methodLink R_Va 119 y_Ha_add ∈ lw_tg := in_t 618 (by decide +kernel)
theorem hd_Ha_add : y_Ha_add.cls = R_Ha ∧ y_Ha_add.cls ≠ "java/lang/invoke/MethodHandle" ∧ y_Ha_add.cls ≠ "java/lang/invoke/VarHandle" ∧ (parseMethodDescriptor y_Ha_add.desc).map (fun d => d.parameters.length) = some 3 := by decide +kernel
theorem d_Ha_add_0 : decode b_Ha_add 0 = .ok (.iload_n 2, 1) := by decide +kernel
theorem d_Ha_add_1 : decode b_Ha_add 1 = .ok (.ifCond .lt 15, 3) := by decide +kernel
theorem d_Ha_add_4 : decode b_Ha_add 4 = .ok (.iload_n 3, 1) := by decide +kernel
theorem d_Ha_add_5 : decode b_Ha_add 5 = .ok (.ifCond .lt 11, 3) := by decide +kernel
theorem d_Ha_add_8 : decode b_Ha_add 8 = .ok (.iload_n 3, 1) := by decide +kernel
theorem d_Ha_add_9 : decode b_Ha_add 9 = .ok (.aload_n 1, 1) := by decide +kernel
theorem d_Ha_add_10 : decode b_Ha_add 10 = .ok (.arraylength, 1) := by decide +kernel
theorem d_Ha_add_11 : decode b_Ha_add 11 = .ok (.iload_n 2, 1) := by decide +kernel
theorem d_Ha_add_12 : decode b_Ha_add 12 = .ok (.isub, 1) := by decide +kernel
theorem d_Ha_add_13 : decode b_Ha_add 13 = .ok (.if_icmp .le 4, 3) := by decide +kernel
theorem d_Ha_add_16 : decode b_Ha_add 16 = .ok (.return_, 1) := by decide +kernel
theorem d_Ha_add_17 : decode b_Ha_add 17 = .ok (.iload_n 2, 1) := by decide +kernel
theorem d_Ha_add_18 : decode b_Ha_add 18 = .ok (.istore 4, 2) := by decide +kernel
theorem d_Ha_add_20 : decode b_Ha_add 20 = .ok (.iload 4, 2) := by decide +kernel
theorem d_Ha_add_22 : decode b_Ha_add 22 = .ok (.iload_n 2, 1) := by decide +kernel
theorem d_Ha_add_23 : decode b_Ha_add 23 = .ok (.iload_n 3, 1) := by decide +kernel
theorem d_Ha_add_24 : decode b_Ha_add 24 = .ok (.iadd, 1) := by decide +kernel
theorem d_Ha_add_25 : decode b_Ha_add 25 = .ok (.if_icmp .ge 50, 3) := by decide +kernel
theorem d_Ha_add_28 : decode b_Ha_add 28 = .ok (.aload_n 0, 1) := by decide +kernel
theorem d_Ha_add_29 : decode b_Ha_add 29 = .ok (.getfield 13, 3) := by decide +kernel
theorem d_Ha_add_32 : decode b_Ha_add 32 = .ok (.aload_n 0, 1) := by decide +kernel
theorem d_Ha_add_33 : decode b_Ha_add 33 = .ok (.getfield 47, 3) := by decide +kernel
theorem d_Ha_add_36 : decode b_Ha_add 36 = .ok (.aload_n 1, 1) := by decide +kernel
theorem d_Ha_add_37 : decode b_Ha_add 37 = .ok (.iload 4, 2) := by decide +kernel
theorem d_Ha_add_39 : decode b_Ha_add 39 = .ok (.baload, 1) := by decide +kernel
theorem d_Ha_add_40 : decode b_Ha_add 40 = .ok (.bastore, 1) := by decide +kernel
theorem d_Ha_add_41 : decode b_Ha_add 41 = .ok (.aload_n 0, 1) := by decide +kernel
theorem d_Ha_add_42 : decode b_Ha_add 42 = .ok (.dup, 1) := by decide +kernel
theorem d_Ha_add_43 : decode b_Ha_add 43 = .ok (.getfield 47, 3) := by decide +kernel
theorem d_Ha_add_46 : decode b_Ha_add 46 = .ok (.iconst 1, 1) := by decide +kernel
theorem d_Ha_add_47 : decode b_Ha_add 47 = .ok (.iadd, 1) := by decide +kernel
theorem d_Ha_add_48 : decode b_Ha_add 48 = .ok (.putfield 47, 3) := by decide +kernel
theorem d_Ha_add_51 : decode b_Ha_add 51 = .ok (.aload_n 0, 1) := by decide +kernel
theorem d_Ha_add_52 : decode b_Ha_add 52 = .ok (.getfield 47, 3) := by decide +kernel
theorem d_Ha_add_55 : decode b_Ha_add 55 = .ok (.bipush 64, 2) := by decide +kernel
theorem d_Ha_add_57 : decode b_Ha_add 57 = .ok (.if_icmp .ne 12, 3) := by decide +kernel
theorem d_Ha_add_60 : decode b_Ha_add 60 = .ok (.aload_n 0, 1) := by decide +kernel
theorem d_Ha_add_61 : decode b_Ha_add 61 = .ok (.invokevirtual 44, 3) := by decide +kernel
theorem d_Ha_add_64 : decode b_Ha_add 64 = .ok (.aload_n 0, 1) := by decide +kernel
theorem d_Ha_add_65 : decode b_Ha_add 65 = .ok (.iconst 0, 1) := by decide +kernel
theorem d_Ha_add_66 : decode b_Ha_add 66 = .ok (.putfield 47, 3) := by decide +kernel
theorem d_Ha_add_69 : decode b_Ha_add 69 = .ok (.iinc 4 1, 3) := by decide +kernel
theorem d_Ha_add_72 : decode b_Ha_add 72 = .ok (.goto (-52), 3) := by decide +kernel
theorem d_Ha_add_75 : decode b_Ha_add 75 = .ok (.aload_n 0, 1) := by decide +kernel
theorem d_Ha_add_76 : decode b_Ha_add 76 = .ok (.dup, 1) := by decide +kernel
theorem d_Ha_add_77 : decode b_Ha_add 77 = .ok (.getfield 51, 3) := by decide +kernel
theorem d_Ha_add_80 : decode b_Ha_add 80 = .ok (.iload_n 3, 1) := by decide +kernel
theorem d_Ha_add_81 : decode b_Ha_add 81 = .ok (.iadd, 1) := by decide +kernel
theorem d_Ha_add_82 : decode b_Ha_add 82 = .ok (.putfield 51, 3) := by decide +kernel
theorem d_Ha_add_85 : decode b_Ha_add 85 = .ok (.return_, 1) := by decide +kernel
abbrev b_Ha_finish : ByteArray := prog_7_method_6_code
def y_Ha_finish : MethodName := ⟨R_Ha, "finish", "()V"⟩
abbrev k_Ha_finish : Cond := .code y_Ha_finish b_Ha_finish 1 none
theorem ki_Ha_finish : k_Ha_finish ∈ lw_tg := in_t 625 (by decide +kernel)
theorem ks_Ha_finish : Cond.instanceMethod y_Ha_finish ∈ lw_tg := in_t 623 (by decide +kernel)
theorem kx_Ha_finish : Cond.selects R_Ha y_Ha_finish y_Ha_finish ∈ lw_tg := in_t 624 (by decide +kernel)
theorem kl_Va_Ha_finish : Cond.methodLink R_Va 122 y_Ha_finish ∈ lw_tg := in_t 622 (by decide +kernel)
theorem hd_Ha_finish : y_Ha_finish.cls = R_Ha ∧ y_Ha_finish.cls ≠ "java/lang/invoke/MethodHandle" ∧ y_Ha_finish.cls ≠ "java/lang/invoke/VarHandle" ∧ (parseMethodDescriptor y_Ha_finish.desc).map (fun d => d.parameters.length) = some 0 := by decide +kernel
theorem d_Ha_finish_0 : decode b_Ha_finish 0 = .ok (.aload_n 0, 1) := by decide +kernel
theorem d_Ha_finish_1 : decode b_Ha_finish 1 = .ok (.invokevirtual 54, 3) := by decide +kernel
theorem d_Ha_finish_4 : decode b_Ha_finish 4 = .ok (.aload_n 0, 1) := by decide +kernel
theorem d_Ha_finish_5 : decode b_Ha_finish 5 = .ok (.getfield 23, 3) := by decide +kernel
theorem d_Ha_finish_8 : decode b_Ha_finish 8 = .ok (.iconst 0, 1) := by decide +kernel
theorem d_Ha_finish_9 : decode b_Ha_finish 9 = .ok (.aload_n 0, 1) := by decide +kernel
theorem d_Ha_finish_10 : decode b_Ha_finish 10 = .ok (.getfield 17, 3) := by decide +kernel
theorem d_Ha_finish_13 : decode b_Ha_finish 13 = .ok (.iconst 0, 1) := by decide +kernel
theorem d_Ha_finish_14 : decode b_Ha_finish 14 = .ok (.iconst 5, 1) := by decide +kernel
theorem d_Ha_finish_15 : decode b_Ha_finish 15 = .ok (.invokestatic 33, 3) := by decide +kernel
theorem d_Ha_finish_18 : decode b_Ha_finish 18 = .ok (.aload_n 0, 1) := by decide +kernel
theorem d_Ha_finish_19 : decode b_Ha_finish 19 = .ok (.getfield 26, 3) := by decide +kernel
theorem d_Ha_finish_22 : decode b_Ha_finish 22 = .ok (.iconst 0, 1) := by decide +kernel
theorem d_Ha_finish_23 : decode b_Ha_finish 23 = .ok (.aload_n 0, 1) := by decide +kernel
theorem d_Ha_finish_24 : decode b_Ha_finish 24 = .ok (.getfield 13, 3) := by decide +kernel
theorem d_Ha_finish_27 : decode b_Ha_finish 27 = .ok (.iconst 0, 1) := by decide +kernel
theorem d_Ha_finish_28 : decode b_Ha_finish 28 = .ok (.bipush 20, 2) := by decide +kernel
theorem d_Ha_finish_30 : decode b_Ha_finish 30 = .ok (.invokestatic 33, 3) := by decide +kernel
theorem d_Ha_finish_33 : decode b_Ha_finish 33 = .ok (.aload_n 0, 1) := by decide +kernel
theorem d_Ha_finish_34 : decode b_Ha_finish 34 = .ok (.bipush 20, 2) := by decide +kernel
theorem d_Ha_finish_36 : decode b_Ha_finish 36 = .ok (.putfield 47, 3) := by decide +kernel
theorem d_Ha_finish_39 : decode b_Ha_finish 39 = .ok (.aload_n 0, 1) := by decide +kernel
theorem d_Ha_finish_40 : decode b_Ha_finish 40 = .ok (.bipush 84, 2) := by decide +kernel
theorem d_Ha_finish_42 : decode b_Ha_finish 42 = .ok (.putfield 51, 3) := by decide +kernel
theorem d_Ha_finish_45 : decode b_Ha_finish 45 = .ok (.aload_n 0, 1) := by decide +kernel
theorem d_Ha_finish_46 : decode b_Ha_finish 46 = .ok (.invokevirtual 54, 3) := by decide +kernel
theorem d_Ha_finish_49 : decode b_Ha_finish 49 = .ok (.return_, 1) := by decide +kernel
abbrev b_Ha_close : ByteArray := prog_7_method_7_code
def y_Ha_close : MethodName := ⟨R_Ha, "close", "()V"⟩
abbrev k_Ha_close : Cond := .code y_Ha_close b_Ha_close 3 none
theorem ki_Ha_close : k_Ha_close ∈ lw_tg := in_t 629 (by decide +kernel)
theorem ks_Ha_close : Cond.instanceMethod y_Ha_close ∈ lw_tg := in_t 628 (by decide +kernel)
theorem kx_Ha_close : Cond.selects R_Ha y_Ha_close y_Ha_close ∈ lw_tg := List.mem_filter.mpr ⟨List.mem_append_left _ (List.mem_of_getElem? (i := 3) (by decide +kernel)), rfl⟩
theorem kl_Ha_Ha_close : Cond.methodLink R_Ha 54 y_Ha_close ∈ lw_tg := in_t 626 (by decide +kernel)
theorem hd_Ha_close : y_Ha_close.cls = R_Ha ∧ y_Ha_close.cls ≠ "java/lang/invoke/MethodHandle" ∧ y_Ha_close.cls ≠ "java/lang/invoke/VarHandle" ∧ (parseMethodDescriptor y_Ha_close.desc).map (fun d => d.parameters.length) = some 0 := by decide +kernel
theorem d_Ha_close_0 : decode b_Ha_close 0 = .ok (.aload_n 0, 1) := by decide +kernel
theorem d_Ha_close_1 : decode b_Ha_close 1 = .ok (.getfield 13, 3) := by decide +kernel
theorem d_Ha_close_4 : decode b_Ha_close 4 = .ok (.aload_n 0, 1) := by decide +kernel
theorem d_Ha_close_5 : decode b_Ha_close 5 = .ok (.getfield 47, 3) := by decide +kernel
theorem d_Ha_close_8 : decode b_Ha_close 8 = .ok (.bipush (-128), 2) := by decide +kernel
theorem d_Ha_close_10 : decode b_Ha_close 10 = .ok (.bastore, 1) := by decide +kernel
theorem d_Ha_close_11 : decode b_Ha_close 11 = .ok (.aload_n 0, 1) := by decide +kernel
theorem d_Ha_close_12 : decode b_Ha_close 12 = .ok (.getfield 47, 3) := by decide +kernel
theorem d_Ha_close_15 : decode b_Ha_close 15 = .ok (.iconst 1, 1) := by decide +kernel
theorem d_Ha_close_16 : decode b_Ha_close 16 = .ok (.iadd, 1) := by decide +kernel
theorem d_Ha_close_17 : decode b_Ha_close 17 = .ok (.istore_n 1, 1) := by decide +kernel
theorem d_Ha_close_18 : decode b_Ha_close 18 = .ok (.iload_n 1, 1) := by decide +kernel
theorem d_Ha_close_19 : decode b_Ha_close 19 = .ok (.bipush 64, 2) := by decide +kernel
theorem d_Ha_close_21 : decode b_Ha_close 21 = .ok (.if_icmp .ge 16, 3) := by decide +kernel
theorem d_Ha_close_24 : decode b_Ha_close 24 = .ok (.aload_n 0, 1) := by decide +kernel
theorem d_Ha_close_25 : decode b_Ha_close 25 = .ok (.getfield 13, 3) := by decide +kernel
theorem d_Ha_close_28 : decode b_Ha_close 28 = .ok (.iload_n 1, 1) := by decide +kernel
theorem d_Ha_close_29 : decode b_Ha_close 29 = .ok (.iconst 0, 1) := by decide +kernel
theorem d_Ha_close_30 : decode b_Ha_close 30 = .ok (.bastore, 1) := by decide +kernel
theorem d_Ha_close_31 : decode b_Ha_close 31 = .ok (.iinc 1 1, 3) := by decide +kernel
theorem d_Ha_close_34 : decode b_Ha_close 34 = .ok (.goto (-16), 3) := by decide +kernel
theorem d_Ha_close_37 : decode b_Ha_close 37 = .ok (.aload_n 0, 1) := by decide +kernel
theorem d_Ha_close_38 : decode b_Ha_close 38 = .ok (.getfield 47, 3) := by decide +kernel
theorem d_Ha_close_41 : decode b_Ha_close 41 = .ok (.bipush 56, 2) := by decide +kernel
theorem d_Ha_close_43 : decode b_Ha_close 43 = .ok (.if_icmp .lt 28, 3) := by decide +kernel
theorem d_Ha_close_46 : decode b_Ha_close 46 = .ok (.aload_n 0, 1) := by decide +kernel
theorem d_Ha_close_47 : decode b_Ha_close 47 = .ok (.invokevirtual 44, 3) := by decide +kernel
theorem d_Ha_close_50 : decode b_Ha_close 50 = .ok (.iconst 0, 1) := by decide +kernel
theorem d_Ha_close_51 : decode b_Ha_close 51 = .ok (.istore_n 1, 1) := by decide +kernel
theorem d_Ha_close_52 : decode b_Ha_close 52 = .ok (.iload_n 1, 1) := by decide +kernel
theorem d_Ha_close_53 : decode b_Ha_close 53 = .ok (.bipush 64, 2) := by decide +kernel
theorem d_Ha_close_55 : decode b_Ha_close 55 = .ok (.if_icmp .ge 16, 3) := by decide +kernel
theorem d_Ha_close_58 : decode b_Ha_close 58 = .ok (.aload_n 0, 1) := by decide +kernel
theorem d_Ha_close_59 : decode b_Ha_close 59 = .ok (.getfield 13, 3) := by decide +kernel
theorem d_Ha_close_62 : decode b_Ha_close 62 = .ok (.iload_n 1, 1) := by decide +kernel
theorem d_Ha_close_63 : decode b_Ha_close 63 = .ok (.iconst 0, 1) := by decide +kernel
theorem d_Ha_close_64 : decode b_Ha_close 64 = .ok (.bastore, 1) := by decide +kernel
theorem d_Ha_close_65 : decode b_Ha_close 65 = .ok (.iinc 1 1, 3) := by decide +kernel
theorem d_Ha_close_68 : decode b_Ha_close 68 = .ok (.goto (-16), 3) := by decide +kernel
theorem d_Ha_close_71 : decode b_Ha_close 71 = .ok (.aload_n 0, 1) := by decide +kernel
theorem d_Ha_close_72 : decode b_Ha_close 72 = .ok (.getfield 51, 3) := by decide +kernel
theorem d_Ha_close_75 : decode b_Ha_close 75 = .ok (.bipush 8, 2) := by decide +kernel
theorem d_Ha_close_77 : decode b_Ha_close 77 = .ok (.imul, 1) := by decide +kernel
theorem d_Ha_close_78 : decode b_Ha_close 78 = .ok (.istore_n 1, 1) := by decide +kernel
theorem d_Ha_close_79 : decode b_Ha_close 79 = .ok (.iconst 0, 1) := by decide +kernel
theorem d_Ha_close_80 : decode b_Ha_close 80 = .ok (.istore_n 2, 1) := by decide +kernel
theorem d_Ha_close_81 : decode b_Ha_close 81 = .ok (.iload_n 2, 1) := by decide +kernel
theorem d_Ha_close_82 : decode b_Ha_close 82 = .ok (.iconst 4, 1) := by decide +kernel
theorem d_Ha_close_83 : decode b_Ha_close 83 = .ok (.if_icmp .ge 25, 3) := by decide +kernel
theorem d_Ha_close_86 : decode b_Ha_close 86 = .ok (.aload_n 0, 1) := by decide +kernel
theorem d_Ha_close_87 : decode b_Ha_close 87 = .ok (.getfield 13, 3) := by decide +kernel
theorem d_Ha_close_90 : decode b_Ha_close 90 = .ok (.bipush 63, 2) := by decide +kernel
theorem d_Ha_close_92 : decode b_Ha_close 92 = .ok (.iload_n 2, 1) := by decide +kernel
theorem d_Ha_close_93 : decode b_Ha_close 93 = .ok (.isub, 1) := by decide +kernel
theorem d_Ha_close_94 : decode b_Ha_close 94 = .ok (.iload_n 1, 1) := by decide +kernel
theorem d_Ha_close_95 : decode b_Ha_close 95 = .ok (.bipush 8, 2) := by decide +kernel
theorem d_Ha_close_97 : decode b_Ha_close 97 = .ok (.iload_n 2, 1) := by decide +kernel
theorem d_Ha_close_98 : decode b_Ha_close 98 = .ok (.imul, 1) := by decide +kernel
theorem d_Ha_close_99 : decode b_Ha_close 99 = .ok (.ishr, 1) := by decide +kernel
theorem d_Ha_close_100 : decode b_Ha_close 100 = .ok (.i2b, 1) := by decide +kernel
theorem d_Ha_close_101 : decode b_Ha_close 101 = .ok (.bastore, 1) := by decide +kernel
theorem d_Ha_close_102 : decode b_Ha_close 102 = .ok (.iinc 2 1, 3) := by decide +kernel
theorem d_Ha_close_105 : decode b_Ha_close 105 = .ok (.goto (-24), 3) := by decide +kernel
theorem d_Ha_close_108 : decode b_Ha_close 108 = .ok (.aload_n 0, 1) := by decide +kernel
theorem d_Ha_close_109 : decode b_Ha_close 109 = .ok (.invokevirtual 44, 3) := by decide +kernel
theorem d_Ha_close_112 : decode b_Ha_close 112 = .ok (.iconst 0, 1) := by decide +kernel
theorem d_Ha_close_113 : decode b_Ha_close 113 = .ok (.istore_n 2, 1) := by decide +kernel
theorem d_Ha_close_114 : decode b_Ha_close 114 = .ok (.iload_n 2, 1) := by decide +kernel
theorem d_Ha_close_115 : decode b_Ha_close 115 = .ok (.bipush 20, 2) := by decide +kernel
theorem d_Ha_close_117 : decode b_Ha_close 117 = .ok (.if_icmp .ge 34, 3) := by decide +kernel
theorem d_Ha_close_120 : decode b_Ha_close 120 = .ok (.aload_n 0, 1) := by decide +kernel
theorem d_Ha_close_121 : decode b_Ha_close 121 = .ok (.getfield 26, 3) := by decide +kernel
theorem d_Ha_close_124 : decode b_Ha_close 124 = .ok (.iload_n 2, 1) := by decide +kernel
theorem d_Ha_close_125 : decode b_Ha_close 125 = .ok (.aload_n 0, 1) := by decide +kernel
theorem d_Ha_close_126 : decode b_Ha_close 126 = .ok (.getfield 17, 3) := by decide +kernel
theorem d_Ha_close_129 : decode b_Ha_close 129 = .ok (.iload_n 2, 1) := by decide +kernel
theorem d_Ha_close_130 : decode b_Ha_close 130 = .ok (.iconst 4, 1) := by decide +kernel
theorem d_Ha_close_131 : decode b_Ha_close 131 = .ok (.idiv, 1) := by decide +kernel
theorem d_Ha_close_132 : decode b_Ha_close 132 = .ok (.iaload, 1) := by decide +kernel
theorem d_Ha_close_133 : decode b_Ha_close 133 = .ok (.bipush 24, 2) := by decide +kernel
theorem d_Ha_close_135 : decode b_Ha_close 135 = .ok (.iload_n 2, 1) := by decide +kernel
theorem d_Ha_close_136 : decode b_Ha_close 136 = .ok (.iconst 4, 1) := by decide +kernel
theorem d_Ha_close_137 : decode b_Ha_close 137 = .ok (.irem, 1) := by decide +kernel
theorem d_Ha_close_138 : decode b_Ha_close 138 = .ok (.bipush 8, 2) := by decide +kernel
theorem d_Ha_close_140 : decode b_Ha_close 140 = .ok (.imul, 1) := by decide +kernel
theorem d_Ha_close_141 : decode b_Ha_close 141 = .ok (.isub, 1) := by decide +kernel
theorem d_Ha_close_142 : decode b_Ha_close 142 = .ok (.ishr, 1) := by decide +kernel
theorem d_Ha_close_143 : decode b_Ha_close 143 = .ok (.i2b, 1) := by decide +kernel
theorem d_Ha_close_144 : decode b_Ha_close 144 = .ok (.bastore, 1) := by decide +kernel
theorem d_Ha_close_145 : decode b_Ha_close 145 = .ok (.iinc 2 1, 3) := by decide +kernel
theorem d_Ha_close_148 : decode b_Ha_close 148 = .ok (.goto (-34), 3) := by decide +kernel
theorem d_Ha_close_151 : decode b_Ha_close 151 = .ok (.return_, 1) := by decide +kernel
abbrev b_Ha_compress : ByteArray := prog_7_method_8_code
def y_Ha_compress : MethodName := ⟨R_Ha, "compress", "()V"⟩
abbrev k_Ha_compress : Cond := .code y_Ha_compress b_Ha_compress 9 none
theorem ki_Ha_compress : k_Ha_compress ∈ lw_tg := in_t 600 (by decide +kernel)
theorem ks_Ha_compress : Cond.instanceMethod y_Ha_compress ∈ lw_tg := in_t 599 (by decide +kernel)
theorem kx_Ha_compress : Cond.selects R_Ha y_Ha_compress y_Ha_compress ∈ lw_tg := List.mem_filter.mpr ⟨List.mem_append_left _ (List.mem_of_getElem? (i := 1) (by decide +kernel)), rfl⟩
theorem kl_Ha_Ha_compress : Cond.methodLink R_Ha 44 y_Ha_compress ∈ lw_tg := in_t 597 (by decide +kernel)
theorem hd_Ha_compress : y_Ha_compress.cls = R_Ha ∧ y_Ha_compress.cls ≠ "java/lang/invoke/MethodHandle" ∧ y_Ha_compress.cls ≠ "java/lang/invoke/VarHandle" ∧ (parseMethodDescriptor y_Ha_compress.desc).map (fun d => d.parameters.length) = some 0 := by decide +kernel
theorem d_Ha_compress_0 : decode b_Ha_compress 0 = .ok (.iconst 0, 1) := by decide +kernel
theorem d_Ha_compress_1 : decode b_Ha_compress 1 = .ok (.istore_n 1, 1) := by decide +kernel
theorem d_Ha_compress_2 : decode b_Ha_compress 2 = .ok (.iload_n 1, 1) := by decide +kernel
theorem d_Ha_compress_3 : decode b_Ha_compress 3 = .ok (.bipush 16, 2) := by decide +kernel
theorem d_Ha_compress_5 : decode b_Ha_compress 5 = .ok (.if_icmp .ge 77, 3) := by decide +kernel
theorem d_Ha_compress_8 : decode b_Ha_compress 8 = .ok (.aload_n 0, 1) := by decide +kernel
theorem d_Ha_compress_9 : decode b_Ha_compress 9 = .ok (.getfield 7, 3) := by decide +kernel
theorem d_Ha_compress_12 : decode b_Ha_compress 12 = .ok (.iload_n 1, 1) := by decide +kernel
theorem d_Ha_compress_13 : decode b_Ha_compress 13 = .ok (.aload_n 0, 1) := by decide +kernel
theorem d_Ha_compress_14 : decode b_Ha_compress 14 = .ok (.getfield 13, 3) := by decide +kernel
theorem d_Ha_compress_17 : decode b_Ha_compress 17 = .ok (.iconst 4, 1) := by decide +kernel
theorem d_Ha_compress_18 : decode b_Ha_compress 18 = .ok (.iload_n 1, 1) := by decide +kernel
theorem d_Ha_compress_19 : decode b_Ha_compress 19 = .ok (.imul, 1) := by decide +kernel
theorem d_Ha_compress_20 : decode b_Ha_compress 20 = .ok (.baload, 1) := by decide +kernel
theorem d_Ha_compress_21 : decode b_Ha_compress 21 = .ok (.bipush 24, 2) := by decide +kernel
theorem d_Ha_compress_23 : decode b_Ha_compress 23 = .ok (.ishl, 1) := by decide +kernel
theorem d_Ha_compress_24 : decode b_Ha_compress 24 = .ok (.aload_n 0, 1) := by decide +kernel
theorem d_Ha_compress_25 : decode b_Ha_compress 25 = .ok (.getfield 13, 3) := by decide +kernel
theorem d_Ha_compress_28 : decode b_Ha_compress 28 = .ok (.iconst 4, 1) := by decide +kernel
theorem d_Ha_compress_29 : decode b_Ha_compress 29 = .ok (.iload_n 1, 1) := by decide +kernel
theorem d_Ha_compress_30 : decode b_Ha_compress 30 = .ok (.imul, 1) := by decide +kernel
theorem d_Ha_compress_31 : decode b_Ha_compress 31 = .ok (.iconst 1, 1) := by decide +kernel
theorem d_Ha_compress_32 : decode b_Ha_compress 32 = .ok (.iadd, 1) := by decide +kernel
theorem d_Ha_compress_33 : decode b_Ha_compress 33 = .ok (.baload, 1) := by decide +kernel
theorem d_Ha_compress_34 : decode b_Ha_compress 34 = .ok (.sipush 255, 3) := by decide +kernel
theorem d_Ha_compress_37 : decode b_Ha_compress 37 = .ok (.iand, 1) := by decide +kernel
theorem d_Ha_compress_38 : decode b_Ha_compress 38 = .ok (.bipush 16, 2) := by decide +kernel
theorem d_Ha_compress_40 : decode b_Ha_compress 40 = .ok (.ishl, 1) := by decide +kernel
theorem d_Ha_compress_41 : decode b_Ha_compress 41 = .ok (.ior, 1) := by decide +kernel
theorem d_Ha_compress_42 : decode b_Ha_compress 42 = .ok (.aload_n 0, 1) := by decide +kernel
theorem d_Ha_compress_43 : decode b_Ha_compress 43 = .ok (.getfield 13, 3) := by decide +kernel
theorem d_Ha_compress_46 : decode b_Ha_compress 46 = .ok (.iconst 4, 1) := by decide +kernel
theorem d_Ha_compress_47 : decode b_Ha_compress 47 = .ok (.iload_n 1, 1) := by decide +kernel
theorem d_Ha_compress_48 : decode b_Ha_compress 48 = .ok (.imul, 1) := by decide +kernel
theorem d_Ha_compress_49 : decode b_Ha_compress 49 = .ok (.iconst 2, 1) := by decide +kernel
theorem d_Ha_compress_50 : decode b_Ha_compress 50 = .ok (.iadd, 1) := by decide +kernel
theorem d_Ha_compress_51 : decode b_Ha_compress 51 = .ok (.baload, 1) := by decide +kernel
theorem d_Ha_compress_52 : decode b_Ha_compress 52 = .ok (.sipush 255, 3) := by decide +kernel
theorem d_Ha_compress_55 : decode b_Ha_compress 55 = .ok (.iand, 1) := by decide +kernel
theorem d_Ha_compress_56 : decode b_Ha_compress 56 = .ok (.bipush 8, 2) := by decide +kernel
theorem d_Ha_compress_58 : decode b_Ha_compress 58 = .ok (.ishl, 1) := by decide +kernel
theorem d_Ha_compress_59 : decode b_Ha_compress 59 = .ok (.ior, 1) := by decide +kernel
theorem d_Ha_compress_60 : decode b_Ha_compress 60 = .ok (.aload_n 0, 1) := by decide +kernel
theorem d_Ha_compress_61 : decode b_Ha_compress 61 = .ok (.getfield 13, 3) := by decide +kernel
theorem d_Ha_compress_64 : decode b_Ha_compress 64 = .ok (.iconst 4, 1) := by decide +kernel
theorem d_Ha_compress_65 : decode b_Ha_compress 65 = .ok (.iload_n 1, 1) := by decide +kernel
theorem d_Ha_compress_66 : decode b_Ha_compress 66 = .ok (.imul, 1) := by decide +kernel
theorem d_Ha_compress_67 : decode b_Ha_compress 67 = .ok (.iconst 3, 1) := by decide +kernel
theorem d_Ha_compress_68 : decode b_Ha_compress 68 = .ok (.iadd, 1) := by decide +kernel
theorem d_Ha_compress_69 : decode b_Ha_compress 69 = .ok (.baload, 1) := by decide +kernel
theorem d_Ha_compress_70 : decode b_Ha_compress 70 = .ok (.sipush 255, 3) := by decide +kernel
theorem d_Ha_compress_73 : decode b_Ha_compress 73 = .ok (.iand, 1) := by decide +kernel
theorem d_Ha_compress_74 : decode b_Ha_compress 74 = .ok (.ior, 1) := by decide +kernel
theorem d_Ha_compress_75 : decode b_Ha_compress 75 = .ok (.iastore, 1) := by decide +kernel
theorem d_Ha_compress_76 : decode b_Ha_compress 76 = .ok (.iinc 1 1, 3) := by decide +kernel
theorem d_Ha_compress_79 : decode b_Ha_compress 79 = .ok (.goto (-77), 3) := by decide +kernel
theorem d_Ha_compress_82 : decode b_Ha_compress 82 = .ok (.bipush 16, 2) := by decide +kernel
theorem d_Ha_compress_84 : decode b_Ha_compress 84 = .ok (.istore_n 1, 1) := by decide +kernel
theorem d_Ha_compress_85 : decode b_Ha_compress 85 = .ok (.iload_n 1, 1) := by decide +kernel
theorem d_Ha_compress_86 : decode b_Ha_compress 86 = .ok (.bipush 80, 2) := by decide +kernel
theorem d_Ha_compress_88 : decode b_Ha_compress 88 = .ok (.if_icmp .ge 62, 3) := by decide +kernel
theorem d_Ha_compress_91 : decode b_Ha_compress 91 = .ok (.aload_n 0, 1) := by decide +kernel
theorem d_Ha_compress_92 : decode b_Ha_compress 92 = .ok (.getfield 7, 3) := by decide +kernel
theorem d_Ha_compress_95 : decode b_Ha_compress 95 = .ok (.iload_n 1, 1) := by decide +kernel
theorem d_Ha_compress_96 : decode b_Ha_compress 96 = .ok (.iconst 3, 1) := by decide +kernel
theorem d_Ha_compress_97 : decode b_Ha_compress 97 = .ok (.isub, 1) := by decide +kernel
theorem d_Ha_compress_98 : decode b_Ha_compress 98 = .ok (.iaload, 1) := by decide +kernel
theorem d_Ha_compress_99 : decode b_Ha_compress 99 = .ok (.aload_n 0, 1) := by decide +kernel
theorem d_Ha_compress_100 : decode b_Ha_compress 100 = .ok (.getfield 7, 3) := by decide +kernel
theorem d_Ha_compress_103 : decode b_Ha_compress 103 = .ok (.iload_n 1, 1) := by decide +kernel
theorem d_Ha_compress_104 : decode b_Ha_compress 104 = .ok (.bipush 8, 2) := by decide +kernel
theorem d_Ha_compress_106 : decode b_Ha_compress 106 = .ok (.isub, 1) := by decide +kernel
theorem d_Ha_compress_107 : decode b_Ha_compress 107 = .ok (.iaload, 1) := by decide +kernel
theorem d_Ha_compress_108 : decode b_Ha_compress 108 = .ok (.ixor, 1) := by decide +kernel
theorem d_Ha_compress_109 : decode b_Ha_compress 109 = .ok (.aload_n 0, 1) := by decide +kernel
theorem d_Ha_compress_110 : decode b_Ha_compress 110 = .ok (.getfield 7, 3) := by decide +kernel
theorem d_Ha_compress_113 : decode b_Ha_compress 113 = .ok (.iload_n 1, 1) := by decide +kernel
theorem d_Ha_compress_114 : decode b_Ha_compress 114 = .ok (.bipush 14, 2) := by decide +kernel
theorem d_Ha_compress_116 : decode b_Ha_compress 116 = .ok (.isub, 1) := by decide +kernel
theorem d_Ha_compress_117 : decode b_Ha_compress 117 = .ok (.iaload, 1) := by decide +kernel
theorem d_Ha_compress_118 : decode b_Ha_compress 118 = .ok (.ixor, 1) := by decide +kernel
theorem d_Ha_compress_119 : decode b_Ha_compress 119 = .ok (.aload_n 0, 1) := by decide +kernel
theorem d_Ha_compress_120 : decode b_Ha_compress 120 = .ok (.getfield 7, 3) := by decide +kernel
theorem d_Ha_compress_123 : decode b_Ha_compress 123 = .ok (.iload_n 1, 1) := by decide +kernel
theorem d_Ha_compress_124 : decode b_Ha_compress 124 = .ok (.bipush 16, 2) := by decide +kernel
theorem d_Ha_compress_126 : decode b_Ha_compress 126 = .ok (.isub, 1) := by decide +kernel
theorem d_Ha_compress_127 : decode b_Ha_compress 127 = .ok (.iaload, 1) := by decide +kernel
theorem d_Ha_compress_128 : decode b_Ha_compress 128 = .ok (.ixor, 1) := by decide +kernel
theorem d_Ha_compress_129 : decode b_Ha_compress 129 = .ok (.istore_n 2, 1) := by decide +kernel
theorem d_Ha_compress_130 : decode b_Ha_compress 130 = .ok (.aload_n 0, 1) := by decide +kernel
theorem d_Ha_compress_131 : decode b_Ha_compress 131 = .ok (.getfield 7, 3) := by decide +kernel
theorem d_Ha_compress_134 : decode b_Ha_compress 134 = .ok (.iload_n 1, 1) := by decide +kernel
theorem d_Ha_compress_135 : decode b_Ha_compress 135 = .ok (.iload_n 2, 1) := by decide +kernel
theorem d_Ha_compress_136 : decode b_Ha_compress 136 = .ok (.iconst 1, 1) := by decide +kernel
theorem d_Ha_compress_137 : decode b_Ha_compress 137 = .ok (.ishl, 1) := by decide +kernel
theorem d_Ha_compress_138 : decode b_Ha_compress 138 = .ok (.iload_n 2, 1) := by decide +kernel
theorem d_Ha_compress_139 : decode b_Ha_compress 139 = .ok (.bipush 31, 2) := by decide +kernel
theorem d_Ha_compress_141 : decode b_Ha_compress 141 = .ok (.iushr, 1) := by decide +kernel
theorem d_Ha_compress_142 : decode b_Ha_compress 142 = .ok (.ior, 1) := by decide +kernel
theorem d_Ha_compress_143 : decode b_Ha_compress 143 = .ok (.iastore, 1) := by decide +kernel
theorem d_Ha_compress_144 : decode b_Ha_compress 144 = .ok (.iinc 1 1, 3) := by decide +kernel
theorem d_Ha_compress_147 : decode b_Ha_compress 147 = .ok (.goto (-62), 3) := by decide +kernel
theorem d_Ha_compress_150 : decode b_Ha_compress 150 = .ok (.aload_n 0, 1) := by decide +kernel
theorem d_Ha_compress_151 : decode b_Ha_compress 151 = .ok (.getfield 17, 3) := by decide +kernel
theorem d_Ha_compress_154 : decode b_Ha_compress 154 = .ok (.iconst 0, 1) := by decide +kernel
theorem d_Ha_compress_155 : decode b_Ha_compress 155 = .ok (.iaload, 1) := by decide +kernel
theorem d_Ha_compress_156 : decode b_Ha_compress 156 = .ok (.istore_n 1, 1) := by decide +kernel
theorem d_Ha_compress_157 : decode b_Ha_compress 157 = .ok (.aload_n 0, 1) := by decide +kernel
theorem d_Ha_compress_158 : decode b_Ha_compress 158 = .ok (.getfield 17, 3) := by decide +kernel
theorem d_Ha_compress_161 : decode b_Ha_compress 161 = .ok (.iconst 1, 1) := by decide +kernel
theorem d_Ha_compress_162 : decode b_Ha_compress 162 = .ok (.iaload, 1) := by decide +kernel
theorem d_Ha_compress_163 : decode b_Ha_compress 163 = .ok (.istore_n 2, 1) := by decide +kernel
theorem d_Ha_compress_164 : decode b_Ha_compress 164 = .ok (.aload_n 0, 1) := by decide +kernel
theorem d_Ha_compress_165 : decode b_Ha_compress 165 = .ok (.getfield 17, 3) := by decide +kernel
theorem d_Ha_compress_168 : decode b_Ha_compress 168 = .ok (.iconst 2, 1) := by decide +kernel
theorem d_Ha_compress_169 : decode b_Ha_compress 169 = .ok (.iaload, 1) := by decide +kernel
theorem d_Ha_compress_170 : decode b_Ha_compress 170 = .ok (.istore_n 3, 1) := by decide +kernel
theorem d_Ha_compress_171 : decode b_Ha_compress 171 = .ok (.aload_n 0, 1) := by decide +kernel
theorem d_Ha_compress_172 : decode b_Ha_compress 172 = .ok (.getfield 17, 3) := by decide +kernel
theorem d_Ha_compress_175 : decode b_Ha_compress 175 = .ok (.iconst 3, 1) := by decide +kernel
theorem d_Ha_compress_176 : decode b_Ha_compress 176 = .ok (.iaload, 1) := by decide +kernel
theorem d_Ha_compress_177 : decode b_Ha_compress 177 = .ok (.istore 4, 2) := by decide +kernel
theorem d_Ha_compress_179 : decode b_Ha_compress 179 = .ok (.aload_n 0, 1) := by decide +kernel
theorem d_Ha_compress_180 : decode b_Ha_compress 180 = .ok (.getfield 17, 3) := by decide +kernel
theorem d_Ha_compress_183 : decode b_Ha_compress 183 = .ok (.iconst 4, 1) := by decide +kernel
theorem d_Ha_compress_184 : decode b_Ha_compress 184 = .ok (.iaload, 1) := by decide +kernel
theorem d_Ha_compress_185 : decode b_Ha_compress 185 = .ok (.istore 5, 2) := by decide +kernel
theorem d_Ha_compress_187 : decode b_Ha_compress 187 = .ok (.iconst 0, 1) := by decide +kernel
theorem d_Ha_compress_188 : decode b_Ha_compress 188 = .ok (.istore 6, 2) := by decide +kernel
theorem d_Ha_compress_190 : decode b_Ha_compress 190 = .ok (.iload 6, 2) := by decide +kernel
theorem d_Ha_compress_192 : decode b_Ha_compress 192 = .ok (.bipush 80, 2) := by decide +kernel
theorem d_Ha_compress_194 : decode b_Ha_compress 194 = .ok (.if_icmp .ge 139, 3) := by decide +kernel
theorem d_Ha_compress_197 : decode b_Ha_compress 197 = .ok (.iload 6, 2) := by decide +kernel
theorem d_Ha_compress_199 : decode b_Ha_compress 199 = .ok (.bipush 20, 2) := by decide +kernel
theorem d_Ha_compress_201 : decode b_Ha_compress 201 = .ok (.if_icmp .ge 21, 3) := by decide +kernel
theorem d_Ha_compress_204 : decode b_Ha_compress 204 = .ok (.iload_n 2, 1) := by decide +kernel
theorem d_Ha_compress_205 : decode b_Ha_compress 205 = .ok (.iload_n 3, 1) := by decide +kernel
theorem d_Ha_compress_206 : decode b_Ha_compress 206 = .ok (.iand, 1) := by decide +kernel
theorem d_Ha_compress_207 : decode b_Ha_compress 207 = .ok (.iload_n 2, 1) := by decide +kernel
theorem d_Ha_compress_208 : decode b_Ha_compress 208 = .ok (.iconst (-1), 1) := by decide +kernel
theorem d_Ha_compress_209 : decode b_Ha_compress 209 = .ok (.ixor, 1) := by decide +kernel
theorem d_Ha_compress_210 : decode b_Ha_compress 210 = .ok (.iload 4, 2) := by decide +kernel
theorem d_Ha_compress_212 : decode b_Ha_compress 212 = .ok (.iand, 1) := by decide +kernel
theorem d_Ha_compress_213 : decode b_Ha_compress 213 = .ok (.ior, 1) := by decide +kernel
theorem d_Ha_compress_214 : decode b_Ha_compress 214 = .ok (.ldc 57, 2) := by decide +kernel
theorem d_Ha_compress_216 : decode b_Ha_compress 216 = .ok (.iadd, 1) := by decide +kernel
theorem d_Ha_compress_217 : decode b_Ha_compress 217 = .ok (.istore 7, 2) := by decide +kernel
theorem d_Ha_compress_219 : decode b_Ha_compress 219 = .ok (.goto 63, 3) := by decide +kernel
theorem d_Ha_compress_222 : decode b_Ha_compress 222 = .ok (.iload 6, 2) := by decide +kernel
theorem d_Ha_compress_224 : decode b_Ha_compress 224 = .ok (.bipush 40, 2) := by decide +kernel
theorem d_Ha_compress_226 : decode b_Ha_compress 226 = .ok (.if_icmp .ge 17, 3) := by decide +kernel
theorem d_Ha_compress_229 : decode b_Ha_compress 229 = .ok (.iload_n 2, 1) := by decide +kernel
theorem d_Ha_compress_230 : decode b_Ha_compress 230 = .ok (.iload_n 3, 1) := by decide +kernel
theorem d_Ha_compress_231 : decode b_Ha_compress 231 = .ok (.ixor, 1) := by decide +kernel
theorem d_Ha_compress_232 : decode b_Ha_compress 232 = .ok (.iload 4, 2) := by decide +kernel
theorem d_Ha_compress_234 : decode b_Ha_compress 234 = .ok (.ixor, 1) := by decide +kernel
theorem d_Ha_compress_235 : decode b_Ha_compress 235 = .ok (.ldc 58, 2) := by decide +kernel
theorem d_Ha_compress_237 : decode b_Ha_compress 237 = .ok (.iadd, 1) := by decide +kernel
theorem d_Ha_compress_238 : decode b_Ha_compress 238 = .ok (.istore 7, 2) := by decide +kernel
theorem d_Ha_compress_240 : decode b_Ha_compress 240 = .ok (.goto 42, 3) := by decide +kernel
theorem d_Ha_compress_243 : decode b_Ha_compress 243 = .ok (.iload 6, 2) := by decide +kernel
theorem d_Ha_compress_245 : decode b_Ha_compress 245 = .ok (.bipush 60, 2) := by decide +kernel
theorem d_Ha_compress_247 : decode b_Ha_compress 247 = .ok (.if_icmp .ge 24, 3) := by decide +kernel
theorem d_Ha_compress_250 : decode b_Ha_compress 250 = .ok (.iload_n 2, 1) := by decide +kernel
theorem d_Ha_compress_251 : decode b_Ha_compress 251 = .ok (.iload_n 3, 1) := by decide +kernel
theorem d_Ha_compress_252 : decode b_Ha_compress 252 = .ok (.iand, 1) := by decide +kernel
theorem d_Ha_compress_253 : decode b_Ha_compress 253 = .ok (.iload_n 2, 1) := by decide +kernel
theorem d_Ha_compress_254 : decode b_Ha_compress 254 = .ok (.iload 4, 2) := by decide +kernel
theorem d_Ha_compress_256 : decode b_Ha_compress 256 = .ok (.iand, 1) := by decide +kernel
theorem d_Ha_compress_257 : decode b_Ha_compress 257 = .ok (.ior, 1) := by decide +kernel
theorem d_Ha_compress_258 : decode b_Ha_compress 258 = .ok (.iload_n 3, 1) := by decide +kernel
theorem d_Ha_compress_259 : decode b_Ha_compress 259 = .ok (.iload 4, 2) := by decide +kernel
theorem d_Ha_compress_261 : decode b_Ha_compress 261 = .ok (.iand, 1) := by decide +kernel
theorem d_Ha_compress_262 : decode b_Ha_compress 262 = .ok (.ior, 1) := by decide +kernel
theorem d_Ha_compress_263 : decode b_Ha_compress 263 = .ok (.ldc 59, 2) := by decide +kernel
theorem d_Ha_compress_265 : decode b_Ha_compress 265 = .ok (.iadd, 1) := by decide +kernel
theorem d_Ha_compress_266 : decode b_Ha_compress 266 = .ok (.istore 7, 2) := by decide +kernel
theorem d_Ha_compress_268 : decode b_Ha_compress 268 = .ok (.goto 14, 3) := by decide +kernel
theorem d_Ha_compress_271 : decode b_Ha_compress 271 = .ok (.iload_n 2, 1) := by decide +kernel
theorem d_Ha_compress_272 : decode b_Ha_compress 272 = .ok (.iload_n 3, 1) := by decide +kernel
theorem d_Ha_compress_273 : decode b_Ha_compress 273 = .ok (.ixor, 1) := by decide +kernel
theorem d_Ha_compress_274 : decode b_Ha_compress 274 = .ok (.iload 4, 2) := by decide +kernel
theorem d_Ha_compress_276 : decode b_Ha_compress 276 = .ok (.ixor, 1) := by decide +kernel
theorem d_Ha_compress_277 : decode b_Ha_compress 277 = .ok (.ldc 60, 2) := by decide +kernel
theorem d_Ha_compress_279 : decode b_Ha_compress 279 = .ok (.iadd, 1) := by decide +kernel
theorem d_Ha_compress_280 : decode b_Ha_compress 280 = .ok (.istore 7, 2) := by decide +kernel
theorem d_Ha_compress_282 : decode b_Ha_compress 282 = .ok (.iload_n 1, 1) := by decide +kernel
theorem d_Ha_compress_283 : decode b_Ha_compress 283 = .ok (.iconst 5, 1) := by decide +kernel
theorem d_Ha_compress_284 : decode b_Ha_compress 284 = .ok (.ishl, 1) := by decide +kernel
theorem d_Ha_compress_285 : decode b_Ha_compress 285 = .ok (.iload_n 1, 1) := by decide +kernel
theorem d_Ha_compress_286 : decode b_Ha_compress 286 = .ok (.bipush 27, 2) := by decide +kernel
theorem d_Ha_compress_288 : decode b_Ha_compress 288 = .ok (.iushr, 1) := by decide +kernel
theorem d_Ha_compress_289 : decode b_Ha_compress 289 = .ok (.ior, 1) := by decide +kernel
theorem d_Ha_compress_290 : decode b_Ha_compress 290 = .ok (.iload 7, 2) := by decide +kernel
theorem d_Ha_compress_292 : decode b_Ha_compress 292 = .ok (.iadd, 1) := by decide +kernel
theorem d_Ha_compress_293 : decode b_Ha_compress 293 = .ok (.iload 5, 2) := by decide +kernel
theorem d_Ha_compress_295 : decode b_Ha_compress 295 = .ok (.iadd, 1) := by decide +kernel
theorem d_Ha_compress_296 : decode b_Ha_compress 296 = .ok (.aload_n 0, 1) := by decide +kernel
theorem d_Ha_compress_297 : decode b_Ha_compress 297 = .ok (.getfield 7, 3) := by decide +kernel
theorem d_Ha_compress_300 : decode b_Ha_compress 300 = .ok (.iload 6, 2) := by decide +kernel
theorem d_Ha_compress_302 : decode b_Ha_compress 302 = .ok (.iaload, 1) := by decide +kernel
theorem d_Ha_compress_303 : decode b_Ha_compress 303 = .ok (.iadd, 1) := by decide +kernel
theorem d_Ha_compress_304 : decode b_Ha_compress 304 = .ok (.istore 8, 2) := by decide +kernel
theorem d_Ha_compress_306 : decode b_Ha_compress 306 = .ok (.iload 4, 2) := by decide +kernel
theorem d_Ha_compress_308 : decode b_Ha_compress 308 = .ok (.istore 5, 2) := by decide +kernel
theorem d_Ha_compress_310 : decode b_Ha_compress 310 = .ok (.iload_n 3, 1) := by decide +kernel
theorem d_Ha_compress_311 : decode b_Ha_compress 311 = .ok (.istore 4, 2) := by decide +kernel
theorem d_Ha_compress_313 : decode b_Ha_compress 313 = .ok (.iload_n 2, 1) := by decide +kernel
theorem d_Ha_compress_314 : decode b_Ha_compress 314 = .ok (.bipush 30, 2) := by decide +kernel
theorem d_Ha_compress_316 : decode b_Ha_compress 316 = .ok (.ishl, 1) := by decide +kernel
theorem d_Ha_compress_317 : decode b_Ha_compress 317 = .ok (.iload_n 2, 1) := by decide +kernel
theorem d_Ha_compress_318 : decode b_Ha_compress 318 = .ok (.iconst 2, 1) := by decide +kernel
theorem d_Ha_compress_319 : decode b_Ha_compress 319 = .ok (.iushr, 1) := by decide +kernel
theorem d_Ha_compress_320 : decode b_Ha_compress 320 = .ok (.ior, 1) := by decide +kernel
theorem d_Ha_compress_321 : decode b_Ha_compress 321 = .ok (.istore_n 3, 1) := by decide +kernel
theorem d_Ha_compress_322 : decode b_Ha_compress 322 = .ok (.iload_n 1, 1) := by decide +kernel
theorem d_Ha_compress_323 : decode b_Ha_compress 323 = .ok (.istore_n 2, 1) := by decide +kernel
theorem d_Ha_compress_324 : decode b_Ha_compress 324 = .ok (.iload 8, 2) := by decide +kernel
theorem d_Ha_compress_326 : decode b_Ha_compress 326 = .ok (.istore_n 1, 1) := by decide +kernel
theorem d_Ha_compress_327 : decode b_Ha_compress 327 = .ok (.iinc 6 1, 3) := by decide +kernel
theorem d_Ha_compress_330 : decode b_Ha_compress 330 = .ok (.goto (-140), 3) := by decide +kernel
theorem d_Ha_compress_333 : decode b_Ha_compress 333 = .ok (.aload_n 0, 1) := by decide +kernel
theorem d_Ha_compress_334 : decode b_Ha_compress 334 = .ok (.getfield 17, 3) := by decide +kernel
theorem d_Ha_compress_337 : decode b_Ha_compress 337 = .ok (.iconst 0, 1) := by decide +kernel
theorem d_Ha_compress_338 : decode b_Ha_compress 338 = .ok (.dup2, 1) := by decide +kernel
theorem d_Ha_compress_339 : decode b_Ha_compress 339 = .ok (.iaload, 1) := by decide +kernel
theorem d_Ha_compress_340 : decode b_Ha_compress 340 = .ok (.iload_n 1, 1) := by decide +kernel
theorem d_Ha_compress_341 : decode b_Ha_compress 341 = .ok (.iadd, 1) := by decide +kernel
theorem d_Ha_compress_342 : decode b_Ha_compress 342 = .ok (.iastore, 1) := by decide +kernel
theorem d_Ha_compress_343 : decode b_Ha_compress 343 = .ok (.aload_n 0, 1) := by decide +kernel
theorem d_Ha_compress_344 : decode b_Ha_compress 344 = .ok (.getfield 17, 3) := by decide +kernel
theorem d_Ha_compress_347 : decode b_Ha_compress 347 = .ok (.iconst 1, 1) := by decide +kernel
theorem d_Ha_compress_348 : decode b_Ha_compress 348 = .ok (.dup2, 1) := by decide +kernel
theorem d_Ha_compress_349 : decode b_Ha_compress 349 = .ok (.iaload, 1) := by decide +kernel
theorem d_Ha_compress_350 : decode b_Ha_compress 350 = .ok (.iload_n 2, 1) := by decide +kernel
theorem d_Ha_compress_351 : decode b_Ha_compress 351 = .ok (.iadd, 1) := by decide +kernel
theorem d_Ha_compress_352 : decode b_Ha_compress 352 = .ok (.iastore, 1) := by decide +kernel
theorem d_Ha_compress_353 : decode b_Ha_compress 353 = .ok (.aload_n 0, 1) := by decide +kernel
theorem d_Ha_compress_354 : decode b_Ha_compress 354 = .ok (.getfield 17, 3) := by decide +kernel
theorem d_Ha_compress_357 : decode b_Ha_compress 357 = .ok (.iconst 2, 1) := by decide +kernel
theorem d_Ha_compress_358 : decode b_Ha_compress 358 = .ok (.dup2, 1) := by decide +kernel
theorem d_Ha_compress_359 : decode b_Ha_compress 359 = .ok (.iaload, 1) := by decide +kernel
theorem d_Ha_compress_360 : decode b_Ha_compress 360 = .ok (.iload_n 3, 1) := by decide +kernel
theorem d_Ha_compress_361 : decode b_Ha_compress 361 = .ok (.iadd, 1) := by decide +kernel
theorem d_Ha_compress_362 : decode b_Ha_compress 362 = .ok (.iastore, 1) := by decide +kernel
theorem d_Ha_compress_363 : decode b_Ha_compress 363 = .ok (.aload_n 0, 1) := by decide +kernel
theorem d_Ha_compress_364 : decode b_Ha_compress 364 = .ok (.getfield 17, 3) := by decide +kernel
theorem d_Ha_compress_367 : decode b_Ha_compress 367 = .ok (.iconst 3, 1) := by decide +kernel
theorem d_Ha_compress_368 : decode b_Ha_compress 368 = .ok (.dup2, 1) := by decide +kernel
theorem d_Ha_compress_369 : decode b_Ha_compress 369 = .ok (.iaload, 1) := by decide +kernel
theorem d_Ha_compress_370 : decode b_Ha_compress 370 = .ok (.iload 4, 2) := by decide +kernel
theorem d_Ha_compress_372 : decode b_Ha_compress 372 = .ok (.iadd, 1) := by decide +kernel
theorem d_Ha_compress_373 : decode b_Ha_compress 373 = .ok (.iastore, 1) := by decide +kernel
theorem d_Ha_compress_374 : decode b_Ha_compress 374 = .ok (.aload_n 0, 1) := by decide +kernel
theorem d_Ha_compress_375 : decode b_Ha_compress 375 = .ok (.getfield 17, 3) := by decide +kernel
theorem d_Ha_compress_378 : decode b_Ha_compress 378 = .ok (.iconst 4, 1) := by decide +kernel
theorem d_Ha_compress_379 : decode b_Ha_compress 379 = .ok (.dup2, 1) := by decide +kernel
theorem d_Ha_compress_380 : decode b_Ha_compress 380 = .ok (.iaload, 1) := by decide +kernel
theorem d_Ha_compress_381 : decode b_Ha_compress 381 = .ok (.iload 5, 2) := by decide +kernel
theorem d_Ha_compress_383 : decode b_Ha_compress 383 = .ok (.iadd, 1) := by decide +kernel
theorem d_Ha_compress_384 : decode b_Ha_compress 384 = .ok (.iastore, 1) := by decide +kernel
theorem d_Ha_compress_385 : decode b_Ha_compress 385 = .ok (.return_, 1) := by decide +kernel
