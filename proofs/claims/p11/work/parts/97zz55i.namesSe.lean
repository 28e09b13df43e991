abbrev b_Se_init : ByteArray := prog_9_method_1_code
def y_Se_init : MethodName := ⟨R_Se, "<init>", "()V"⟩
abbrev k_Se_init : Cond := .code y_Se_init b_Se_init 1 none
theorem ki_Se_init : k_Se_init ∈ lw_tg := in_t 223 (by decide +kernel)
theorem ks_Se_init : Cond.instanceMethod y_Se_init ∈ lw_tg := in_t 222 (by decide +kernel)
theorem hd_Se_init : y_Se_init.cls = R_Se ∧ y_Se_init.cls ≠ "java/lang/invoke/MethodHandle" ∧ y_Se_init.cls ≠ "java/lang/invoke/VarHandle" ∧ (parseMethodDescriptor y_Se_init.desc).map (fun d => d.parameters.length) = some 0 := by decide +kernel
theorem d_Se_init_0 : decode b_Se_init 0 = .ok (.aload_n 0, 1) := by decide +kernel
theorem d_Se_init_1 : decode b_Se_init 1 = .ok (.invokespecial 3, 3) := by decide +kernel
theorem d_Se_init_4 : decode b_Se_init 4 = .ok (.aload_n 0, 1) := by decide +kernel
theorem d_Se_init_5 : decode b_Se_init 5 = .ok (.sipush 1280, 3) := by decide +kernel
theorem d_Se_init_8 : decode b_Se_init 8 = .ok (.newarray .byte, 2) := by decide +kernel
theorem d_Se_init_10 : decode b_Se_init 10 = .ok (.putfield 9, 3) := by decide +kernel
theorem d_Se_init_13 : decode b_Se_init 13 = .ok (.aload_n 0, 1) := by decide +kernel
theorem d_Se_init_14 : decode b_Se_init 14 = .ok (.bipush 32, 2) := by decide +kernel
theorem d_Se_init_16 : decode b_Se_init 16 = .ok (.newarray .int, 2) := by decide +kernel
theorem d_Se_init_18 : decode b_Se_init 18 = .ok (.putfield 15, 3) := by decide +kernel
theorem d_Se_init_21 : decode b_Se_init 21 = .ok (.aload_n 0, 1) := by decide +kernel
theorem d_Se_init_22 : decode b_Se_init 22 = .ok (.bipush 32, 2) := by decide +kernel
theorem d_Se_init_24 : decode b_Se_init 24 = .ok (.newarray .int, 2) := by decide +kernel
theorem d_Se_init_26 : decode b_Se_init 26 = .ok (.putfield 19, 3) := by decide +kernel
theorem d_Se_init_29 : decode b_Se_init 29 = .ok (.aload_n 0, 1) := by decide +kernel
theorem d_Se_init_30 : decode b_Se_init 30 = .ok (.bipush 32, 2) := by decide +kernel
theorem d_Se_init_32 : decode b_Se_init 32 = .ok (.newarray .int, 2) := by decide +kernel
theorem d_Se_init_34 : decode b_Se_init 34 = .ok (.putfield 22, 3) := by decide +kernel
theorem d_Se_init_37 : decode b_Se_init 37 = .ok (.return_, 1) := by decide +kernel
abbrev b_Se_forget : ByteArray := prog_9_method_2_code
def y_Se_forget : MethodName := ⟨R_Se, "forget", "(I)V"⟩
abbrev k_Se_forget : Cond := .code y_Se_forget b_Se_forget 4 none
theorem ki_Se_forget : k_Se_forget ∈ lw_tg := in_t 1082 (by decide +kernel)
theorem ks_Se_forget : Cond.instanceMethod y_Se_forget ∈ lw_tg := in_t 1080 (by decide +kernel)
theorem kx_Se_forget : Cond.selects R_Se y_Se_forget y_Se_forget ∈ lw_tg := in_t 1081 (by decide +kernel)
theorem kl_Ga_Se_forget : Cond.methodLink R_Ga 139 y_Se_forget ∈ lw_tg := in_t 1079 (by decide +kernel)
theorem hd_Se_forget : y_Se_forget.cls = R_Se ∧ y_Se_forget.cls ≠ "java/lang/invoke/MethodHandle" ∧ y_Se_forget.cls ≠ "java/lang/invoke/VarHandle" ∧ (parseMethodDescriptor y_Se_forget.desc).map (fun d => d.parameters.length) = some 1 := by decide +kernel
theorem d_Se_forget_0 : decode b_Se_forget 0 = .ok (.iconst 0, 1) := by decide +kernel
theorem d_Se_forget_1 : decode b_Se_forget 1 = .ok (.istore_n 2, 1) := by decide +kernel
theorem d_Se_forget_2 : decode b_Se_forget 2 = .ok (.iconst 0, 1) := by decide +kernel
theorem d_Se_forget_3 : decode b_Se_forget 3 = .ok (.istore_n 3, 1) := by decide +kernel
theorem d_Se_forget_4 : decode b_Se_forget 4 = .ok (.iload_n 3, 1) := by decide +kernel
theorem d_Se_forget_5 : decode b_Se_forget 5 = .ok (.aload_n 0, 1) := by decide +kernel
theorem d_Se_forget_6 : decode b_Se_forget 6 = .ok (.getfield 25, 3) := by decide +kernel
theorem d_Se_forget_9 : decode b_Se_forget 9 = .ok (.if_icmp .ge 83, 3) := by decide +kernel
theorem d_Se_forget_12 : decode b_Se_forget 12 = .ok (.aload_n 0, 1) := by decide +kernel
theorem d_Se_forget_13 : decode b_Se_forget 13 = .ok (.getfield 19, 3) := by decide +kernel
theorem d_Se_forget_16 : decode b_Se_forget 16 = .ok (.iload_n 3, 1) := by decide +kernel
theorem d_Se_forget_17 : decode b_Se_forget 17 = .ok (.iaload, 1) := by decide +kernel
theorem d_Se_forget_18 : decode b_Se_forget 18 = .ok (.iload_n 1, 1) := by decide +kernel
theorem d_Se_forget_19 : decode b_Se_forget 19 = .ok (.sipush 300, 3) := by decide +kernel
theorem d_Se_forget_22 : decode b_Se_forget 22 = .ok (.isub, 1) := by decide +kernel
theorem d_Se_forget_23 : decode b_Se_forget 23 = .ok (.if_icmp .lt 63, 3) := by decide +kernel
theorem d_Se_forget_26 : decode b_Se_forget 26 = .ok (.aload_n 0, 1) := by decide +kernel
theorem d_Se_forget_27 : decode b_Se_forget 27 = .ok (.getfield 9, 3) := by decide +kernel
theorem d_Se_forget_30 : decode b_Se_forget 30 = .ok (.iload_n 3, 1) := by decide +kernel
theorem d_Se_forget_31 : decode b_Se_forget 31 = .ok (.bipush 40, 2) := by decide +kernel
theorem d_Se_forget_33 : decode b_Se_forget 33 = .ok (.imul, 1) := by decide +kernel
theorem d_Se_forget_34 : decode b_Se_forget 34 = .ok (.aload_n 0, 1) := by decide +kernel
theorem d_Se_forget_35 : decode b_Se_forget 35 = .ok (.getfield 9, 3) := by decide +kernel
theorem d_Se_forget_38 : decode b_Se_forget 38 = .ok (.iload_n 2, 1) := by decide +kernel
theorem d_Se_forget_39 : decode b_Se_forget 39 = .ok (.bipush 40, 2) := by decide +kernel
theorem d_Se_forget_41 : decode b_Se_forget 41 = .ok (.imul, 1) := by decide +kernel
theorem d_Se_forget_42 : decode b_Se_forget 42 = .ok (.bipush 40, 2) := by decide +kernel
theorem d_Se_forget_44 : decode b_Se_forget 44 = .ok (.invokestatic 29, 3) := by decide +kernel
theorem d_Se_forget_47 : decode b_Se_forget 47 = .ok (.aload_n 0, 1) := by decide +kernel
theorem d_Se_forget_48 : decode b_Se_forget 48 = .ok (.getfield 15, 3) := by decide +kernel
theorem d_Se_forget_51 : decode b_Se_forget 51 = .ok (.iload_n 2, 1) := by decide +kernel
theorem d_Se_forget_52 : decode b_Se_forget 52 = .ok (.aload_n 0, 1) := by decide +kernel
theorem d_Se_forget_53 : decode b_Se_forget 53 = .ok (.getfield 15, 3) := by decide +kernel
theorem d_Se_forget_56 : decode b_Se_forget 56 = .ok (.iload_n 3, 1) := by decide +kernel
theorem d_Se_forget_57 : decode b_Se_forget 57 = .ok (.iaload, 1) := by decide +kernel
theorem d_Se_forget_58 : decode b_Se_forget 58 = .ok (.iastore, 1) := by decide +kernel
theorem d_Se_forget_59 : decode b_Se_forget 59 = .ok (.aload_n 0, 1) := by decide +kernel
theorem d_Se_forget_60 : decode b_Se_forget 60 = .ok (.getfield 19, 3) := by decide +kernel
theorem d_Se_forget_63 : decode b_Se_forget 63 = .ok (.iload_n 2, 1) := by decide +kernel
theorem d_Se_forget_64 : decode b_Se_forget 64 = .ok (.aload_n 0, 1) := by decide +kernel
theorem d_Se_forget_65 : decode b_Se_forget 65 = .ok (.getfield 19, 3) := by decide +kernel
theorem d_Se_forget_68 : decode b_Se_forget 68 = .ok (.iload_n 3, 1) := by decide +kernel
theorem d_Se_forget_69 : decode b_Se_forget 69 = .ok (.iaload, 1) := by decide +kernel
theorem d_Se_forget_70 : decode b_Se_forget 70 = .ok (.iastore, 1) := by decide +kernel
theorem d_Se_forget_71 : decode b_Se_forget 71 = .ok (.aload_n 0, 1) := by decide +kernel
theorem d_Se_forget_72 : decode b_Se_forget 72 = .ok (.getfield 22, 3) := by decide +kernel
theorem d_Se_forget_75 : decode b_Se_forget 75 = .ok (.iload_n 2, 1) := by decide +kernel
theorem d_Se_forget_76 : decode b_Se_forget 76 = .ok (.aload_n 0, 1) := by decide +kernel
theorem d_Se_forget_77 : decode b_Se_forget 77 = .ok (.getfield 22, 3) := by decide +kernel
theorem d_Se_forget_80 : decode b_Se_forget 80 = .ok (.iload_n 3, 1) := by decide +kernel
theorem d_Se_forget_81 : decode b_Se_forget 81 = .ok (.iaload, 1) := by decide +kernel
theorem d_Se_forget_82 : decode b_Se_forget 82 = .ok (.iastore, 1) := by decide +kernel
theorem d_Se_forget_83 : decode b_Se_forget 83 = .ok (.iinc 2 1, 3) := by decide +kernel
theorem d_Se_forget_86 : decode b_Se_forget 86 = .ok (.iinc 3 1, 3) := by decide +kernel
theorem d_Se_forget_89 : decode b_Se_forget 89 = .ok (.goto (-85), 3) := by decide +kernel
theorem d_Se_forget_92 : decode b_Se_forget 92 = .ok (.aload_n 0, 1) := by decide +kernel
theorem d_Se_forget_93 : decode b_Se_forget 93 = .ok (.iload_n 2, 1) := by decide +kernel
theorem d_Se_forget_94 : decode b_Se_forget 94 = .ok (.putfield 25, 3) := by decide +kernel
theorem d_Se_forget_97 : decode b_Se_forget 97 = .ok (.return_, 1) := by decide +kernel
abbrev b_Se_has : ByteArray := prog_9_method_3_code
def y_Se_has : MethodName := ⟨R_Se, "has", "(LRealmHouse$Bytes;IIII)Z"⟩
abbrev k_Se_has : Cond := .code y_Se_has b_Se_has 7 (some .boolean)
theorem ki_Se_has : k_Se_has ∈ lw_tg := in_t 1087 (by decide +kernel)
theorem ks_Se_has : Cond.instanceMethod y_Se_has ∈ lw_tg := in_t 1085 (by decide +kernel)
theorem kx_Se_has : Cond.selects R_Se y_Se_has y_Se_has ∈ lw_tg := in_t 1086 (by decide +kernel)
theorem kl_Ga_Se_has : Cond.methodLink R_Ga 144 y_Se_has ∈ lw_tg := in_t 1084 (by decide +kernel)
theorem hd_Se_has : y_Se_has.cls = R_Se ∧ y_Se_has.cls ≠ "java/lang/invoke/MethodHandle" ∧ y_Se_has.cls ≠ "java/lang/invoke/VarHandle" ∧ (parseMethodDescriptor y_Se_has.desc).map (fun d => d.parameters.length) = some 5 := by decide +kernel
theorem d_Se_has_0 : decode b_Se_has 0 = .ok (.iconst 0, 1) := by decide +kernel
theorem d_Se_has_1 : decode b_Se_has 1 = .ok (.istore 6, 2) := by decide +kernel
theorem d_Se_has_3 : decode b_Se_has 3 = .ok (.iload 6, 2) := by decide +kernel
theorem d_Se_has_5 : decode b_Se_has 5 = .ok (.aload_n 0, 1) := by decide +kernel
theorem d_Se_has_6 : decode b_Se_has 6 = .ok (.getfield 25, 3) := by decide +kernel
theorem d_Se_has_9 : decode b_Se_has 9 = .ok (.if_icmp .ge 47, 3) := by decide +kernel
theorem d_Se_has_12 : decode b_Se_has 12 = .ok (.aload_n 0, 1) := by decide +kernel
theorem d_Se_has_13 : decode b_Se_has 13 = .ok (.getfield 19, 3) := by decide +kernel
theorem d_Se_has_16 : decode b_Se_has 16 = .ok (.iload 6, 2) := by decide +kernel
theorem d_Se_has_18 : decode b_Se_has 18 = .ok (.iaload, 1) := by decide +kernel
theorem d_Se_has_19 : decode b_Se_has 19 = .ok (.iload 4, 2) := by decide +kernel
theorem d_Se_has_21 : decode b_Se_has 21 = .ok (.if_icmp .ne 29, 3) := by decide +kernel
theorem d_Se_has_24 : decode b_Se_has 24 = .ok (.aload_n 0, 1) := by decide +kernel
theorem d_Se_has_25 : decode b_Se_has 25 = .ok (.getfield 22, 3) := by decide +kernel
theorem d_Se_has_28 : decode b_Se_has 28 = .ok (.iload 6, 2) := by decide +kernel
theorem d_Se_has_30 : decode b_Se_has 30 = .ok (.iaload, 1) := by decide +kernel
theorem d_Se_has_31 : decode b_Se_has 31 = .ok (.iload 5, 2) := by decide +kernel
theorem d_Se_has_33 : decode b_Se_has 33 = .ok (.if_icmp .ne 17, 3) := by decide +kernel
theorem d_Se_has_36 : decode b_Se_has 36 = .ok (.aload_n 0, 1) := by decide +kernel
theorem d_Se_has_37 : decode b_Se_has 37 = .ok (.iload 6, 2) := by decide +kernel
theorem d_Se_has_39 : decode b_Se_has 39 = .ok (.aload_n 1, 1) := by decide +kernel
theorem d_Se_has_40 : decode b_Se_has 40 = .ok (.iload_n 2, 1) := by decide +kernel
theorem d_Se_has_41 : decode b_Se_has 41 = .ok (.iload_n 3, 1) := by decide +kernel
theorem d_Se_has_42 : decode b_Se_has 42 = .ok (.invokevirtual 35, 3) := by decide +kernel
theorem d_Se_has_45 : decode b_Se_has 45 = .ok (.ifCond .eq 5, 3) := by decide +kernel
theorem d_Se_has_48 : decode b_Se_has 48 = .ok (.iconst 1, 1) := by decide +kernel
theorem d_Se_has_49 : decode b_Se_has 49 = .ok (.ireturn, 1) := by decide +kernel
theorem d_Se_has_50 : decode b_Se_has 50 = .ok (.iinc 6 1, 3) := by decide +kernel
theorem d_Se_has_53 : decode b_Se_has 53 = .ok (.goto (-50), 3) := by decide +kernel
theorem d_Se_has_56 : decode b_Se_has 56 = .ok (.iconst 0, 1) := by decide +kernel
theorem d_Se_has_57 : decode b_Se_has 57 = .ok (.ireturn, 1) := by decide +kernel
abbrev b_Se_isName : ByteArray := prog_9_method_4_code
def y_Se_isName : MethodName := ⟨R_Se, "isName", "(ILRealmHouse$Bytes;II)Z"⟩
abbrev k_Se_isName : Cond := .code y_Se_isName b_Se_isName 6 (some .boolean)
theorem ki_Se_isName : k_Se_isName ∈ lw_tg := in_t 1091 (by decide +kernel)
theorem ks_Se_isName : Cond.instanceMethod y_Se_isName ∈ lw_tg := in_t 1090 (by decide +kernel)
theorem kx_Se_isName : Cond.selects R_Se y_Se_isName y_Se_isName ∈ lw_tg := List.mem_filter.mpr ⟨List.mem_append_left _ (List.mem_of_getElem? (i := 26) (by decide +kernel)), rfl⟩
theorem kl_Se_Se_isName : Cond.methodLink R_Se 35 y_Se_isName ∈ lw_tg := in_t 1088 (by decide +kernel)
theorem hd_Se_isName : y_Se_isName.cls = R_Se ∧ y_Se_isName.cls ≠ "java/lang/invoke/MethodHandle" ∧ y_Se_isName.cls ≠ "java/lang/invoke/VarHandle" ∧ (parseMethodDescriptor y_Se_isName.desc).map (fun d => d.parameters.length) = some 4 := by decide +kernel
theorem d_Se_isName_0 : decode b_Se_isName 0 = .ok (.aload_n 0, 1) := by decide +kernel
theorem d_Se_isName_1 : decode b_Se_isName 1 = .ok (.getfield 15, 3) := by decide +kernel
theorem d_Se_isName_4 : decode b_Se_isName 4 = .ok (.iload_n 1, 1) := by decide +kernel
theorem d_Se_isName_5 : decode b_Se_isName 5 = .ok (.iaload, 1) := by decide +kernel
theorem d_Se_isName_6 : decode b_Se_isName 6 = .ok (.iload 4, 2) := by decide +kernel
theorem d_Se_isName_8 : decode b_Se_isName 8 = .ok (.iload_n 3, 1) := by decide +kernel
theorem d_Se_isName_9 : decode b_Se_isName 9 = .ok (.isub, 1) := by decide +kernel
theorem d_Se_isName_10 : decode b_Se_isName 10 = .ok (.if_icmp .eq 5, 3) := by decide +kernel
theorem d_Se_isName_13 : decode b_Se_isName 13 = .ok (.iconst 0, 1) := by decide +kernel
theorem d_Se_isName_14 : decode b_Se_isName 14 = .ok (.ireturn, 1) := by decide +kernel
theorem d_Se_isName_15 : decode b_Se_isName 15 = .ok (.iconst 0, 1) := by decide +kernel
theorem d_Se_isName_16 : decode b_Se_isName 16 = .ok (.istore 5, 2) := by decide +kernel
theorem d_Se_isName_18 : decode b_Se_isName 18 = .ok (.iload 5, 2) := by decide +kernel
theorem d_Se_isName_20 : decode b_Se_isName 20 = .ok (.aload_n 0, 1) := by decide +kernel
theorem d_Se_isName_21 : decode b_Se_isName 21 = .ok (.getfield 15, 3) := by decide +kernel
theorem d_Se_isName_24 : decode b_Se_isName 24 = .ok (.iload_n 1, 1) := by decide +kernel
theorem d_Se_isName_25 : decode b_Se_isName 25 = .ok (.iaload, 1) := by decide +kernel
theorem d_Se_isName_26 : decode b_Se_isName 26 = .ok (.if_icmp .ge 38, 3) := by decide +kernel
theorem d_Se_isName_29 : decode b_Se_isName 29 = .ok (.aload_n 0, 1) := by decide +kernel
theorem d_Se_isName_30 : decode b_Se_isName 30 = .ok (.getfield 9, 3) := by decide +kernel
theorem d_Se_isName_33 : decode b_Se_isName 33 = .ok (.iload_n 1, 1) := by decide +kernel
theorem d_Se_isName_34 : decode b_Se_isName 34 = .ok (.bipush 40, 2) := by decide +kernel
theorem d_Se_isName_36 : decode b_Se_isName 36 = .ok (.imul, 1) := by decide +kernel
theorem d_Se_isName_37 : decode b_Se_isName 37 = .ok (.iload 5, 2) := by decide +kernel
theorem d_Se_isName_39 : decode b_Se_isName 39 = .ok (.iadd, 1) := by decide +kernel
theorem d_Se_isName_40 : decode b_Se_isName 40 = .ok (.baload, 1) := by decide +kernel
theorem d_Se_isName_41 : decode b_Se_isName 41 = .ok (.sipush 255, 3) := by decide +kernel
theorem d_Se_isName_44 : decode b_Se_isName 44 = .ok (.iand, 1) := by decide +kernel
theorem d_Se_isName_45 : decode b_Se_isName 45 = .ok (.aload_n 2, 1) := by decide +kernel
theorem d_Se_isName_46 : decode b_Se_isName 46 = .ok (.iload_n 3, 1) := by decide +kernel
theorem d_Se_isName_47 : decode b_Se_isName 47 = .ok (.iload 5, 2) := by decide +kernel
theorem d_Se_isName_49 : decode b_Se_isName 49 = .ok (.iadd, 1) := by decide +kernel
theorem d_Se_isName_50 : decode b_Se_isName 50 = .ok (.invokevirtual 39, 3) := by decide +kernel
theorem d_Se_isName_53 : decode b_Se_isName 53 = .ok (.if_icmp .eq 5, 3) := by decide +kernel
theorem d_Se_isName_56 : decode b_Se_isName 56 = .ok (.iconst 0, 1) := by decide +kernel
theorem d_Se_isName_57 : decode b_Se_isName 57 = .ok (.ireturn, 1) := by decide +kernel
theorem d_Se_isName_58 : decode b_Se_isName 58 = .ok (.iinc 5 1, 3) := by decide +kernel
theorem d_Se_isName_61 : decode b_Se_isName 61 = .ok (.goto (-43), 3) := by decide +kernel
theorem d_Se_isName_64 : decode b_Se_isName 64 = .ok (.iconst 1, 1) := by decide +kernel
theorem d_Se_isName_65 : decode b_Se_isName 65 = .ok (.ireturn, 1) := by decide +kernel
abbrev b_Se_keep : ByteArray := prog_9_method_5_code
def y_Se_keep : MethodName := ⟨R_Se, "keep", "(LRealmHouse$Bytes;IIIII)Z"⟩
abbrev k_Se_keep : Cond := .code y_Se_keep b_Se_keep 8 (some .boolean)
theorem ki_Se_keep : k_Se_keep ∈ lw_tg := in_t 1096 (by decide +kernel)
theorem ks_Se_keep : Cond.instanceMethod y_Se_keep ∈ lw_tg := in_t 1094 (by decide +kernel)
theorem kx_Se_keep : Cond.selects R_Se y_Se_keep y_Se_keep ∈ lw_tg := in_t 1095 (by decide +kernel)
theorem kl_Ga_Se_keep : Cond.methodLink R_Ga 148 y_Se_keep ∈ lw_tg := in_t 1093 (by decide +kernel)
theorem hd_Se_keep : y_Se_keep.cls = R_Se ∧ y_Se_keep.cls ≠ "java/lang/invoke/MethodHandle" ∧ y_Se_keep.cls ≠ "java/lang/invoke/VarHandle" ∧ (parseMethodDescriptor y_Se_keep.desc).map (fun d => d.parameters.length) = some 6 := by decide +kernel
theorem d_Se_keep_0 : decode b_Se_keep 0 = .ok (.aload_n 0, 1) := by decide +kernel
theorem d_Se_keep_1 : decode b_Se_keep 1 = .ok (.getfield 25, 3) := by decide +kernel
theorem d_Se_keep_4 : decode b_Se_keep 4 = .ok (.iload 6, 2) := by decide +kernel
theorem d_Se_keep_6 : decode b_Se_keep 6 = .ok (.if_icmp .ge 20, 3) := by decide +kernel
theorem d_Se_keep_9 : decode b_Se_keep 9 = .ok (.aload_n 0, 1) := by decide +kernel
theorem d_Se_keep_10 : decode b_Se_keep 10 = .ok (.getfield 25, 3) := by decide +kernel
theorem d_Se_keep_13 : decode b_Se_keep 13 = .ok (.bipush 32, 2) := by decide +kernel
theorem d_Se_keep_15 : decode b_Se_keep 15 = .ok (.if_icmp .ge 11, 3) := by decide +kernel
theorem d_Se_keep_18 : decode b_Se_keep 18 = .ok (.iload_n 3, 1) := by decide +kernel
theorem d_Se_keep_19 : decode b_Se_keep 19 = .ok (.iload_n 2, 1) := by decide +kernel
theorem d_Se_keep_20 : decode b_Se_keep 20 = .ok (.isub, 1) := by decide +kernel
theorem d_Se_keep_21 : decode b_Se_keep 21 = .ok (.bipush 40, 2) := by decide +kernel
theorem d_Se_keep_23 : decode b_Se_keep 23 = .ok (.if_icmp .le 5, 3) := by decide +kernel
theorem d_Se_keep_26 : decode b_Se_keep 26 = .ok (.iconst 0, 1) := by decide +kernel
theorem d_Se_keep_27 : decode b_Se_keep 27 = .ok (.ireturn, 1) := by decide +kernel
theorem d_Se_keep_28 : decode b_Se_keep 28 = .ok (.iconst 0, 1) := by decide +kernel
theorem d_Se_keep_29 : decode b_Se_keep 29 = .ok (.istore 7, 2) := by decide +kernel
theorem d_Se_keep_31 : decode b_Se_keep 31 = .ok (.iload 7, 2) := by decide +kernel
theorem d_Se_keep_33 : decode b_Se_keep 33 = .ok (.iload_n 3, 1) := by decide +kernel
theorem d_Se_keep_34 : decode b_Se_keep 34 = .ok (.iload_n 2, 1) := by decide +kernel
theorem d_Se_keep_35 : decode b_Se_keep 35 = .ok (.isub, 1) := by decide +kernel
theorem d_Se_keep_36 : decode b_Se_keep 36 = .ok (.if_icmp .ge 33, 3) := by decide +kernel
theorem d_Se_keep_39 : decode b_Se_keep 39 = .ok (.aload_n 0, 1) := by decide +kernel
theorem d_Se_keep_40 : decode b_Se_keep 40 = .ok (.getfield 9, 3) := by decide +kernel
theorem d_Se_keep_43 : decode b_Se_keep 43 = .ok (.aload_n 0, 1) := by decide +kernel
theorem d_Se_keep_44 : decode b_Se_keep 44 = .ok (.getfield 25, 3) := by decide +kernel
theorem d_Se_keep_47 : decode b_Se_keep 47 = .ok (.bipush 40, 2) := by decide +kernel
theorem d_Se_keep_49 : decode b_Se_keep 49 = .ok (.imul, 1) := by decide +kernel
theorem d_Se_keep_50 : decode b_Se_keep 50 = .ok (.iload 7, 2) := by decide +kernel
theorem d_Se_keep_52 : decode b_Se_keep 52 = .ok (.iadd, 1) := by decide +kernel
theorem d_Se_keep_53 : decode b_Se_keep 53 = .ok (.aload_n 1, 1) := by decide +kernel
theorem d_Se_keep_54 : decode b_Se_keep 54 = .ok (.iload_n 2, 1) := by decide +kernel
theorem d_Se_keep_55 : decode b_Se_keep 55 = .ok (.iload 7, 2) := by decide +kernel
theorem d_Se_keep_57 : decode b_Se_keep 57 = .ok (.iadd, 1) := by decide +kernel
theorem d_Se_keep_58 : decode b_Se_keep 58 = .ok (.invokevirtual 39, 3) := by decide +kernel
theorem d_Se_keep_61 : decode b_Se_keep 61 = .ok (.i2b, 1) := by decide +kernel
theorem d_Se_keep_62 : decode b_Se_keep 62 = .ok (.bastore, 1) := by decide +kernel
theorem d_Se_keep_63 : decode b_Se_keep 63 = .ok (.iinc 7 1, 3) := by decide +kernel
theorem d_Se_keep_66 : decode b_Se_keep 66 = .ok (.goto (-35), 3) := by decide +kernel
theorem d_Se_keep_69 : decode b_Se_keep 69 = .ok (.aload_n 0, 1) := by decide +kernel
theorem d_Se_keep_70 : decode b_Se_keep 70 = .ok (.getfield 15, 3) := by decide +kernel
theorem d_Se_keep_73 : decode b_Se_keep 73 = .ok (.aload_n 0, 1) := by decide +kernel
theorem d_Se_keep_74 : decode b_Se_keep 74 = .ok (.getfield 25, 3) := by decide +kernel
theorem d_Se_keep_77 : decode b_Se_keep 77 = .ok (.iload_n 3, 1) := by decide +kernel
theorem d_Se_keep_78 : decode b_Se_keep 78 = .ok (.iload_n 2, 1) := by decide +kernel
theorem d_Se_keep_79 : decode b_Se_keep 79 = .ok (.isub, 1) := by decide +kernel
theorem d_Se_keep_80 : decode b_Se_keep 80 = .ok (.iastore, 1) := by decide +kernel
theorem d_Se_keep_81 : decode b_Se_keep 81 = .ok (.aload_n 0, 1) := by decide +kernel
theorem d_Se_keep_82 : decode b_Se_keep 82 = .ok (.getfield 19, 3) := by decide +kernel
theorem d_Se_keep_85 : decode b_Se_keep 85 = .ok (.aload_n 0, 1) := by decide +kernel
theorem d_Se_keep_86 : decode b_Se_keep 86 = .ok (.getfield 25, 3) := by decide +kernel
theorem d_Se_keep_89 : decode b_Se_keep 89 = .ok (.iload 4, 2) := by decide +kernel
theorem d_Se_keep_91 : decode b_Se_keep 91 = .ok (.iastore, 1) := by decide +kernel
theorem d_Se_keep_92 : decode b_Se_keep 92 = .ok (.aload_n 0, 1) := by decide +kernel
theorem d_Se_keep_93 : decode b_Se_keep 93 = .ok (.getfield 22, 3) := by decide +kernel
theorem d_Se_keep_96 : decode b_Se_keep 96 = .ok (.aload_n 0, 1) := by decide +kernel
theorem d_Se_keep_97 : decode b_Se_keep 97 = .ok (.getfield 25, 3) := by decide +kernel
theorem d_Se_keep_100 : decode b_Se_keep 100 = .ok (.iload 5, 2) := by decide +kernel
theorem d_Se_keep_102 : decode b_Se_keep 102 = .ok (.iastore, 1) := by decide +kernel
theorem d_Se_keep_103 : decode b_Se_keep 103 = .ok (.aload_n 0, 1) := by decide +kernel
theorem d_Se_keep_104 : decode b_Se_keep 104 = .ok (.dup, 1) := by decide +kernel
theorem d_Se_keep_105 : decode b_Se_keep 105 = .ok (.getfield 25, 3) := by decide +kernel
theorem d_Se_keep_108 : decode b_Se_keep 108 = .ok (.iconst 1, 1) := by decide +kernel
theorem d_Se_keep_109 : decode b_Se_keep 109 = .ok (.iadd, 1) := by decide +kernel
theorem d_Se_keep_110 : decode b_Se_keep 110 = .ok (.putfield 25, 3) := by decide +kernel
theorem d_Se_keep_113 : decode b_Se_keep 113 = .ok (.iconst 1, 1) := by decide +kernel
theorem d_Se_keep_114 : decode b_Se_keep 114 = .ok (.ireturn, 1) := by decide +kernel
