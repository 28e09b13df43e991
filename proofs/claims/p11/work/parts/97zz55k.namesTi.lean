abbrev b_Ti_init : ByteArray := prog_11_method_1_code
def y_Ti_init : MethodName := ⟨R_Ti, "<init>", "()V"⟩
abbrev k_Ti_init : Cond := .code y_Ti_init b_Ti_init 1 none
theorem ki_Ti_init : k_Ti_init ∈ lw_tg := in_t 310 (by decide +kernel)
theorem ks_Ti_init : Cond.instanceMethod y_Ti_init ∈ lw_tg := in_t 309 (by decide +kernel)
theorem hd_Ti_init : y_Ti_init.cls = R_Ti ∧ y_Ti_init.cls ≠ "java/lang/invoke/MethodHandle" ∧ y_Ti_init.cls ≠ "java/lang/invoke/VarHandle" ∧ (parseMethodDescriptor y_Ti_init.desc).map (fun d => d.parameters.length) = some 0 := by decide +kernel
theorem d_Ti_init_0 : decode b_Ti_init 0 = .ok (.aload_n 0, 1) := by decide +kernel
theorem d_Ti_init_1 : decode b_Ti_init 1 = .ok (.invokespecial 3, 3) := by decide +kernel
theorem d_Ti_init_4 : decode b_Ti_init 4 = .ok (.aload_n 0, 1) := by decide +kernel
theorem d_Ti_init_5 : decode b_Ti_init 5 = .ok (.new 9, 3) := by decide +kernel
theorem d_Ti_init_8 : decode b_Ti_init 8 = .ok (.dup, 1) := by decide +kernel
theorem d_Ti_init_9 : decode b_Ti_init 9 = .ok (.iconst 0, 1) := by decide +kernel
theorem d_Ti_init_10 : decode b_Ti_init 10 = .ok (.invokespecial 11, 3) := by decide +kernel
theorem d_Ti_init_13 : decode b_Ti_init 13 = .ok (.putfield 14, 3) := by decide +kernel
theorem d_Ti_init_16 : decode b_Ti_init 16 = .ok (.aload_n 0, 1) := by decide +kernel
theorem d_Ti_init_17 : decode b_Ti_init 17 = .ok (.new 9, 3) := by decide +kernel
theorem d_Ti_init_20 : decode b_Ti_init 20 = .ok (.dup, 1) := by decide +kernel
theorem d_Ti_init_21 : decode b_Ti_init 21 = .ok (.bipush 40, 2) := by decide +kernel
theorem d_Ti_init_23 : decode b_Ti_init 23 = .ok (.invokespecial 11, 3) := by decide +kernel
theorem d_Ti_init_26 : decode b_Ti_init 26 = .ok (.putfield 20, 3) := by decide +kernel
theorem d_Ti_init_29 : decode b_Ti_init 29 = .ok (.aload_n 0, 1) := by decide +kernel
theorem d_Ti_init_30 : decode b_Ti_init 30 = .ok (.getstatic 23, 3) := by decide +kernel
theorem d_Ti_init_33 : decode b_Ti_init 33 = .ok (.putfield 27, 3) := by decide +kernel
theorem d_Ti_init_36 : decode b_Ti_init 36 = .ok (.return_, 1) := by decide +kernel
abbrev b_Ti_tell : ByteArray := prog_11_method_2_code
def y_Ti_tell : MethodName := ⟨R_Ti, "tell", "(I)I"⟩
abbrev k_Ti_tell : Cond := .code y_Ti_tell b_Ti_tell 2 (some .int)
theorem ki_Ti_tell : k_Ti_tell ∈ lw_tg := in_t 1541 (by decide +kernel)
theorem ks_Ti_tell : Cond.instanceMethod y_Ti_tell ∈ lw_tg := in_t 1539 (by decide +kernel)
theorem kx_Ti_tell : Cond.selects R_Ti y_Ti_tell y_Ti_tell ∈ lw_tg := in_t 1540 (by decide +kernel)
theorem kl_H_Ti_tell : Cond.methodLink R_H 229 y_Ti_tell ∈ lw_tg := in_t 1538 (by decide +kernel)
theorem hd_Ti_tell : y_Ti_tell.cls = R_Ti ∧ y_Ti_tell.cls ≠ "java/lang/invoke/MethodHandle" ∧ y_Ti_tell.cls ≠ "java/lang/invoke/VarHandle" ∧ (parseMethodDescriptor y_Ti_tell.desc).map (fun d => d.parameters.length) = some 1 := by decide +kernel
theorem d_Ti_tell_0 : decode b_Ti_tell 0 = .ok (.iload_n 1, 1) := by decide +kernel
theorem d_Ti_tell_1 : decode b_Ti_tell 1 = .ok (.tableswitch 72 0 5 #[39, 44, 49, 54, 59, 64], 39) := by decide +kernel
theorem d_Ti_tell_40 : decode b_Ti_tell 40 = .ok (.aload_n 0, 1) := by decide +kernel
theorem d_Ti_tell_41 : decode b_Ti_tell 41 = .ok (.getfield 30, 3) := by decide +kernel
theorem d_Ti_tell_44 : decode b_Ti_tell 44 = .ok (.ireturn, 1) := by decide +kernel
theorem d_Ti_tell_45 : decode b_Ti_tell 45 = .ok (.aload_n 0, 1) := by decide +kernel
theorem d_Ti_tell_46 : decode b_Ti_tell 46 = .ok (.getfield 34, 3) := by decide +kernel
theorem d_Ti_tell_49 : decode b_Ti_tell 49 = .ok (.ireturn, 1) := by decide +kernel
theorem d_Ti_tell_50 : decode b_Ti_tell 50 = .ok (.aload_n 0, 1) := by decide +kernel
theorem d_Ti_tell_51 : decode b_Ti_tell 51 = .ok (.getfield 37, 3) := by decide +kernel
theorem d_Ti_tell_54 : decode b_Ti_tell 54 = .ok (.ireturn, 1) := by decide +kernel
theorem d_Ti_tell_55 : decode b_Ti_tell 55 = .ok (.aload_n 0, 1) := by decide +kernel
theorem d_Ti_tell_56 : decode b_Ti_tell 56 = .ok (.getfield 40, 3) := by decide +kernel
theorem d_Ti_tell_59 : decode b_Ti_tell 59 = .ok (.ireturn, 1) := by decide +kernel
theorem d_Ti_tell_60 : decode b_Ti_tell 60 = .ok (.aload_n 0, 1) := by decide +kernel
theorem d_Ti_tell_61 : decode b_Ti_tell 61 = .ok (.getfield 43, 3) := by decide +kernel
theorem d_Ti_tell_64 : decode b_Ti_tell 64 = .ok (.ireturn, 1) := by decide +kernel
theorem d_Ti_tell_65 : decode b_Ti_tell 65 = .ok (.aload_n 0, 1) := by decide +kernel
theorem d_Ti_tell_66 : decode b_Ti_tell 66 = .ok (.getfield 27, 3) := by decide +kernel
theorem d_Ti_tell_69 : decode b_Ti_tell 69 = .ok (.invokestatic 46, 3) := by decide +kernel
theorem d_Ti_tell_72 : decode b_Ti_tell 72 = .ok (.ireturn, 1) := by decide +kernel
theorem d_Ti_tell_73 : decode b_Ti_tell 73 = .ok (.iconst (-1), 1) := by decide +kernel
theorem d_Ti_tell_74 : decode b_Ti_tell 74 = .ok (.ireturn, 1) := by decide +kernel
abbrev b_Ti_setName : ByteArray := prog_11_method_3_code
def y_Ti_setName : MethodName := ⟨R_Ti, "setName", "(LRealmHouse$Bytes;I)V"⟩
abbrev k_Ti_setName : Cond := .code y_Ti_setName b_Ti_setName 5 none
theorem ki_Ti_setName : k_Ti_setName ∈ lw_tg := in_t 1520 (by decide +kernel)
theorem ks_Ti_setName : Cond.instanceMethod y_Ti_setName ∈ lw_tg := in_t 1518 (by decide +kernel)
theorem kx_Ti_setName : Cond.selects R_Ti y_Ti_setName y_Ti_setName ∈ lw_tg := in_t 1519 (by decide +kernel)
theorem kl_Ag_Ti_setName : Cond.methodLink R_Ag 295 y_Ti_setName ∈ lw_tg := in_t 1517 (by decide +kernel)
theorem hd_Ti_setName : y_Ti_setName.cls = R_Ti ∧ y_Ti_setName.cls ≠ "java/lang/invoke/MethodHandle" ∧ y_Ti_setName.cls ≠ "java/lang/invoke/VarHandle" ∧ (parseMethodDescriptor y_Ti_setName.desc).map (fun d => d.parameters.length) = some 2 := by decide +kernel
theorem d_Ti_setName_0 : decode b_Ti_setName 0 = .ok (.aload_n 1, 1) := by decide +kernel
theorem d_Ti_setName_1 : decode b_Ti_setName 1 = .ok (.iload_n 2, 1) := by decide +kernel
theorem d_Ti_setName_2 : decode b_Ti_setName 2 = .ok (.iconst 1, 1) := by decide +kernel
theorem d_Ti_setName_3 : decode b_Ti_setName 3 = .ok (.invokevirtual 52, 3) := by decide +kernel
theorem d_Ti_setName_6 : decode b_Ti_setName 6 = .ok (.istore_n 3, 1) := by decide +kernel
theorem d_Ti_setName_7 : decode b_Ti_setName 7 = .ok (.aload_n 1, 1) := by decide +kernel
theorem d_Ti_setName_8 : decode b_Ti_setName 8 = .ok (.iload_n 3, 1) := by decide +kernel
theorem d_Ti_setName_9 : decode b_Ti_setName 9 = .ok (.invokevirtual 56, 3) := by decide +kernel
theorem d_Ti_setName_12 : decode b_Ti_setName 12 = .ok (.istore 4, 2) := by decide +kernel
theorem d_Ti_setName_14 : decode b_Ti_setName 14 = .ok (.aload_n 0, 1) := by decide +kernel
theorem d_Ti_setName_15 : decode b_Ti_setName 15 = .ok (.aload_n 1, 1) := by decide +kernel
theorem d_Ti_setName_16 : decode b_Ti_setName 16 = .ok (.aload_n 1, 1) := by decide +kernel
theorem d_Ti_setName_17 : decode b_Ti_setName 17 = .ok (.iload_n 2, 1) := by decide +kernel
theorem d_Ti_setName_18 : decode b_Ti_setName 18 = .ok (.iconst 0, 1) := by decide +kernel
theorem d_Ti_setName_19 : decode b_Ti_setName 19 = .ok (.invokevirtual 52, 3) := by decide +kernel
theorem d_Ti_setName_22 : decode b_Ti_setName 22 = .ok (.invokevirtual 60, 3) := by decide +kernel
theorem d_Ti_setName_25 : decode b_Ti_setName 25 = .ok (.l2i, 1) := by decide +kernel
theorem d_Ti_setName_26 : decode b_Ti_setName 26 = .ok (.putfield 64, 3) := by decide +kernel
theorem d_Ti_setName_29 : decode b_Ti_setName 29 = .ok (.aload_n 0, 1) := by decide +kernel
theorem d_Ti_setName_30 : decode b_Ti_setName 30 = .ok (.getfield 20, 3) := by decide +kernel
theorem d_Ti_setName_33 : decode b_Ti_setName 33 = .ok (.invokevirtual 67, 3) := by decide +kernel
theorem d_Ti_setName_36 : decode b_Ti_setName 36 = .ok (.aload_n 0, 1) := by decide +kernel
theorem d_Ti_setName_37 : decode b_Ti_setName 37 = .ok (.getfield 20, 3) := by decide +kernel
theorem d_Ti_setName_40 : decode b_Ti_setName 40 = .ok (.aload_n 1, 1) := by decide +kernel
theorem d_Ti_setName_41 : decode b_Ti_setName 41 = .ok (.getfield 70, 3) := by decide +kernel
theorem d_Ti_setName_44 : decode b_Ti_setName 44 = .ok (.iload 4, 2) := by decide +kernel
theorem d_Ti_setName_46 : decode b_Ti_setName 46 = .ok (.aload_n 1, 1) := by decide +kernel
theorem d_Ti_setName_47 : decode b_Ti_setName 47 = .ok (.iload_n 3, 1) := by decide +kernel
theorem d_Ti_setName_48 : decode b_Ti_setName 48 = .ok (.aload_n 1, 1) := by decide +kernel
theorem d_Ti_setName_49 : decode b_Ti_setName 49 = .ok (.getfield 73, 3) := by decide +kernel
theorem d_Ti_setName_52 : decode b_Ti_setName 52 = .ok (.invokevirtual 76, 3) := by decide +kernel
theorem d_Ti_setName_55 : decode b_Ti_setName 55 = .ok (.iload 4, 2) := by decide +kernel
theorem d_Ti_setName_57 : decode b_Ti_setName 57 = .ok (.isub, 1) := by decide +kernel
theorem d_Ti_setName_58 : decode b_Ti_setName 58 = .ok (.invokevirtual 79, 3) := by decide +kernel
theorem d_Ti_setName_61 : decode b_Ti_setName 61 = .ok (.return_, 1) := by decide +kernel
abbrev b_Ti_setRaw : ByteArray := prog_11_method_4_code
def y_Ti_setRaw : MethodName := ⟨R_Ti, "setRaw", "(LRealmHouse$Bytes;I)V"⟩
abbrev k_Ti_setRaw : Cond := .code y_Ti_setRaw b_Ti_setRaw 4 none
theorem ki_Ti_setRaw : k_Ti_setRaw ∈ lw_tg := in_t 1513 (by decide +kernel)
theorem ks_Ti_setRaw : Cond.instanceMethod y_Ti_setRaw ∈ lw_tg := in_t 1511 (by decide +kernel)
theorem kx_Ti_setRaw : Cond.selects R_Ti y_Ti_setRaw y_Ti_setRaw ∈ lw_tg := in_t 1512 (by decide +kernel)
theorem kl_Ag_Ti_setRaw : Cond.methodLink R_Ag 291 y_Ti_setRaw ∈ lw_tg := in_t 1510 (by decide +kernel)
theorem hd_Ti_setRaw : y_Ti_setRaw.cls = R_Ti ∧ y_Ti_setRaw.cls ≠ "java/lang/invoke/MethodHandle" ∧ y_Ti_setRaw.cls ≠ "java/lang/invoke/VarHandle" ∧ (parseMethodDescriptor y_Ti_setRaw.desc).map (fun d => d.parameters.length) = some 2 := by decide +kernel
theorem d_Ti_setRaw_0 : decode b_Ti_setRaw 0 = .ok (.aload_n 1, 1) := by decide +kernel
theorem d_Ti_setRaw_1 : decode b_Ti_setRaw 1 = .ok (.iload_n 2, 1) := by decide +kernel
theorem d_Ti_setRaw_2 : decode b_Ti_setRaw 2 = .ok (.aload_n 1, 1) := by decide +kernel
theorem d_Ti_setRaw_3 : decode b_Ti_setRaw 3 = .ok (.getfield 73, 3) := by decide +kernel
theorem d_Ti_setRaw_6 : decode b_Ti_setRaw 6 = .ok (.invokevirtual 76, 3) := by decide +kernel
theorem d_Ti_setRaw_9 : decode b_Ti_setRaw 9 = .ok (.iload_n 2, 1) := by decide +kernel
theorem d_Ti_setRaw_10 : decode b_Ti_setRaw 10 = .ok (.isub, 1) := by decide +kernel
theorem d_Ti_setRaw_11 : decode b_Ti_setRaw 11 = .ok (.istore_n 3, 1) := by decide +kernel
theorem d_Ti_setRaw_12 : decode b_Ti_setRaw 12 = .ok (.iload_n 3, 1) := by decide +kernel
theorem d_Ti_setRaw_13 : decode b_Ti_setRaw 13 = .ok (.aload_n 0, 1) := by decide +kernel
theorem d_Ti_setRaw_14 : decode b_Ti_setRaw 14 = .ok (.getfield 14, 3) := by decide +kernel
theorem d_Ti_setRaw_17 : decode b_Ti_setRaw 17 = .ok (.getfield 70, 3) := by decide +kernel
theorem d_Ti_setRaw_20 : decode b_Ti_setRaw 20 = .ok (.arraylength, 1) := by decide +kernel
theorem d_Ti_setRaw_21 : decode b_Ti_setRaw 21 = .ok (.if_icmp .le 15, 3) := by decide +kernel
theorem d_Ti_setRaw_24 : decode b_Ti_setRaw 24 = .ok (.aload_n 0, 1) := by decide +kernel
theorem d_Ti_setRaw_25 : decode b_Ti_setRaw 25 = .ok (.new 9, 3) := by decide +kernel
theorem d_Ti_setRaw_28 : decode b_Ti_setRaw 28 = .ok (.dup, 1) := by decide +kernel
theorem d_Ti_setRaw_29 : decode b_Ti_setRaw 29 = .ok (.iload_n 3, 1) := by decide +kernel
theorem d_Ti_setRaw_30 : decode b_Ti_setRaw 30 = .ok (.invokespecial 11, 3) := by decide +kernel
theorem d_Ti_setRaw_33 : decode b_Ti_setRaw 33 = .ok (.putfield 14, 3) := by decide +kernel
theorem d_Ti_setRaw_36 : decode b_Ti_setRaw 36 = .ok (.aload_n 0, 1) := by decide +kernel
theorem d_Ti_setRaw_37 : decode b_Ti_setRaw 37 = .ok (.getfield 14, 3) := by decide +kernel
theorem d_Ti_setRaw_40 : decode b_Ti_setRaw 40 = .ok (.invokevirtual 67, 3) := by decide +kernel
theorem d_Ti_setRaw_43 : decode b_Ti_setRaw 43 = .ok (.aload_n 0, 1) := by decide +kernel
theorem d_Ti_setRaw_44 : decode b_Ti_setRaw 44 = .ok (.getfield 14, 3) := by decide +kernel
theorem d_Ti_setRaw_47 : decode b_Ti_setRaw 47 = .ok (.aload_n 1, 1) := by decide +kernel
theorem d_Ti_setRaw_48 : decode b_Ti_setRaw 48 = .ok (.getfield 70, 3) := by decide +kernel
theorem d_Ti_setRaw_51 : decode b_Ti_setRaw 51 = .ok (.iload_n 2, 1) := by decide +kernel
theorem d_Ti_setRaw_52 : decode b_Ti_setRaw 52 = .ok (.iload_n 3, 1) := by decide +kernel
theorem d_Ti_setRaw_53 : decode b_Ti_setRaw 53 = .ok (.invokevirtual 79, 3) := by decide +kernel
theorem d_Ti_setRaw_56 : decode b_Ti_setRaw 56 = .ok (.return_, 1) := by decide +kernel
abbrev b_Ti_setTold : ByteArray := prog_11_method_5_code
def y_Ti_setTold : MethodName := ⟨R_Ti, "setTold", "([BLRealmHouse$Bytes;II)V"⟩
abbrev k_Ti_setTold : Cond := .code y_Ti_setTold b_Ti_setTold 5 none
theorem ki_Ti_setTold : k_Ti_setTold ∈ lw_tg := in_t 1527 (by decide +kernel)
theorem ks_Ti_setTold : Cond.instanceMethod y_Ti_setTold ∈ lw_tg := in_t 1525 (by decide +kernel)
theorem kx_Ti_setTold : Cond.selects R_Ti y_Ti_setTold y_Ti_setTold ∈ lw_tg := in_t 1526 (by decide +kernel)
theorem kl_Ag_Ti_setTold : Cond.methodLink R_Ag 298 y_Ti_setTold ∈ lw_tg := in_t 1524 (by decide +kernel)
theorem hd_Ti_setTold : y_Ti_setTold.cls = R_Ti ∧ y_Ti_setTold.cls ≠ "java/lang/invoke/MethodHandle" ∧ y_Ti_setTold.cls ≠ "java/lang/invoke/VarHandle" ∧ (parseMethodDescriptor y_Ti_setTold.desc).map (fun d => d.parameters.length) = some 4 := by decide +kernel
theorem d_Ti_setTold_0 : decode b_Ti_setTold 0 = .ok (.aload_n 0, 1) := by decide +kernel
theorem d_Ti_setTold_1 : decode b_Ti_setTold 1 = .ok (.aload_n 1, 1) := by decide +kernel
theorem d_Ti_setTold_2 : decode b_Ti_setTold 2 = .ok (.putfield 27, 3) := by decide +kernel
theorem d_Ti_setTold_5 : decode b_Ti_setTold 5 = .ok (.aload_n 0, 1) := by decide +kernel
theorem d_Ti_setTold_6 : decode b_Ti_setTold 6 = .ok (.aload_n 2, 1) := by decide +kernel
theorem d_Ti_setTold_7 : decode b_Ti_setTold 7 = .ok (.aload_n 2, 1) := by decide +kernel
theorem d_Ti_setTold_8 : decode b_Ti_setTold 8 = .ok (.iload_n 3, 1) := by decide +kernel
theorem d_Ti_setTold_9 : decode b_Ti_setTold 9 = .ok (.iload 4, 2) := by decide +kernel
theorem d_Ti_setTold_11 : decode b_Ti_setTold 11 = .ok (.invokevirtual 52, 3) := by decide +kernel
theorem d_Ti_setTold_14 : decode b_Ti_setTold 14 = .ok (.invokevirtual 83, 3) := by decide +kernel
theorem d_Ti_setTold_17 : decode b_Ti_setTold 17 = .ok (.putfield 30, 3) := by decide +kernel
theorem d_Ti_setTold_20 : decode b_Ti_setTold 20 = .ok (.aload_n 0, 1) := by decide +kernel
theorem d_Ti_setTold_21 : decode b_Ti_setTold 21 = .ok (.aload_n 2, 1) := by decide +kernel
theorem d_Ti_setTold_22 : decode b_Ti_setTold 22 = .ok (.aload_n 2, 1) := by decide +kernel
theorem d_Ti_setTold_23 : decode b_Ti_setTold 23 = .ok (.iload_n 3, 1) := by decide +kernel
theorem d_Ti_setTold_24 : decode b_Ti_setTold 24 = .ok (.iload 4, 2) := by decide +kernel
theorem d_Ti_setTold_26 : decode b_Ti_setTold 26 = .ok (.iconst 1, 1) := by decide +kernel
theorem d_Ti_setTold_27 : decode b_Ti_setTold 27 = .ok (.iadd, 1) := by decide +kernel
theorem d_Ti_setTold_28 : decode b_Ti_setTold 28 = .ok (.invokevirtual 52, 3) := by decide +kernel
theorem d_Ti_setTold_31 : decode b_Ti_setTold 31 = .ok (.invokevirtual 86, 3) := by decide +kernel
theorem d_Ti_setTold_34 : decode b_Ti_setTold 34 = .ok (.putfield 34, 3) := by decide +kernel
theorem d_Ti_setTold_37 : decode b_Ti_setTold 37 = .ok (.aload_n 0, 1) := by decide +kernel
theorem d_Ti_setTold_38 : decode b_Ti_setTold 38 = .ok (.aload_n 2, 1) := by decide +kernel
theorem d_Ti_setTold_39 : decode b_Ti_setTold 39 = .ok (.aload_n 2, 1) := by decide +kernel
theorem d_Ti_setTold_40 : decode b_Ti_setTold 40 = .ok (.iload_n 3, 1) := by decide +kernel
theorem d_Ti_setTold_41 : decode b_Ti_setTold 41 = .ok (.iload 4, 2) := by decide +kernel
theorem d_Ti_setTold_43 : decode b_Ti_setTold 43 = .ok (.iconst 2, 1) := by decide +kernel
theorem d_Ti_setTold_44 : decode b_Ti_setTold 44 = .ok (.iadd, 1) := by decide +kernel
theorem d_Ti_setTold_45 : decode b_Ti_setTold 45 = .ok (.invokevirtual 52, 3) := by decide +kernel
theorem d_Ti_setTold_48 : decode b_Ti_setTold 48 = .ok (.invokevirtual 86, 3) := by decide +kernel
theorem d_Ti_setTold_51 : decode b_Ti_setTold 51 = .ok (.putfield 37, 3) := by decide +kernel
theorem d_Ti_setTold_54 : decode b_Ti_setTold 54 = .ok (.aload_n 0, 1) := by decide +kernel
theorem d_Ti_setTold_55 : decode b_Ti_setTold 55 = .ok (.aload_n 2, 1) := by decide +kernel
theorem d_Ti_setTold_56 : decode b_Ti_setTold 56 = .ok (.aload_n 2, 1) := by decide +kernel
theorem d_Ti_setTold_57 : decode b_Ti_setTold 57 = .ok (.iload_n 3, 1) := by decide +kernel
theorem d_Ti_setTold_58 : decode b_Ti_setTold 58 = .ok (.iload 4, 2) := by decide +kernel
theorem d_Ti_setTold_60 : decode b_Ti_setTold 60 = .ok (.iconst 3, 1) := by decide +kernel
theorem d_Ti_setTold_61 : decode b_Ti_setTold 61 = .ok (.iadd, 1) := by decide +kernel
theorem d_Ti_setTold_62 : decode b_Ti_setTold 62 = .ok (.invokevirtual 52, 3) := by decide +kernel
theorem d_Ti_setTold_65 : decode b_Ti_setTold 65 = .ok (.invokevirtual 86, 3) := by decide +kernel
theorem d_Ti_setTold_68 : decode b_Ti_setTold 68 = .ok (.putfield 40, 3) := by decide +kernel
theorem d_Ti_setTold_71 : decode b_Ti_setTold 71 = .ok (.aload_n 0, 1) := by decide +kernel
theorem d_Ti_setTold_72 : decode b_Ti_setTold 72 = .ok (.aload_n 2, 1) := by decide +kernel
theorem d_Ti_setTold_73 : decode b_Ti_setTold 73 = .ok (.aload_n 2, 1) := by decide +kernel
theorem d_Ti_setTold_74 : decode b_Ti_setTold 74 = .ok (.iload_n 3, 1) := by decide +kernel
theorem d_Ti_setTold_75 : decode b_Ti_setTold 75 = .ok (.iload 4, 2) := by decide +kernel
theorem d_Ti_setTold_77 : decode b_Ti_setTold 77 = .ok (.iconst 4, 1) := by decide +kernel
theorem d_Ti_setTold_78 : decode b_Ti_setTold 78 = .ok (.iadd, 1) := by decide +kernel
theorem d_Ti_setTold_79 : decode b_Ti_setTold 79 = .ok (.invokevirtual 52, 3) := by decide +kernel
theorem d_Ti_setTold_82 : decode b_Ti_setTold 82 = .ok (.invokevirtual 86, 3) := by decide +kernel
theorem d_Ti_setTold_85 : decode b_Ti_setTold 85 = .ok (.putfield 43, 3) := by decide +kernel
theorem d_Ti_setTold_88 : decode b_Ti_setTold 88 = .ok (.aload_n 0, 1) := by decide +kernel
theorem d_Ti_setTold_89 : decode b_Ti_setTold 89 = .ok (.iconst 1, 1) := by decide +kernel
theorem d_Ti_setTold_90 : decode b_Ti_setTold 90 = .ok (.putfield 89, 3) := by decide +kernel
theorem d_Ti_setTold_93 : decode b_Ti_setTold 93 = .ok (.return_, 1) := by decide +kernel
abbrev b_Ti_putInfo : ByteArray := prog_11_method_6_code
def y_Ti_putInfo : MethodName := ⟨R_Ti, "putInfo", "(LRealmHouse$Bytes;)V"⟩
abbrev k_Ti_putInfo : Cond := .code y_Ti_putInfo b_Ti_putInfo 3 none
theorem ki_Ti_putInfo : k_Ti_putInfo ∈ lw_tg := in_t 1716 (by decide +kernel)
theorem ks_Ti_putInfo : Cond.instanceMethod y_Ti_putInfo ∈ lw_tg := in_t 1714 (by decide +kernel)
theorem kx_Ti_putInfo : Cond.selects R_Ti y_Ti_putInfo y_Ti_putInfo ∈ lw_tg := in_t 1715 (by decide +kernel)
theorem kl_So_Ti_putInfo : Cond.methodLink R_So 222 y_Ti_putInfo ∈ lw_tg := in_t 1713 (by decide +kernel)
theorem hd_Ti_putInfo : y_Ti_putInfo.cls = R_Ti ∧ y_Ti_putInfo.cls ≠ "java/lang/invoke/MethodHandle" ∧ y_Ti_putInfo.cls ≠ "java/lang/invoke/VarHandle" ∧ (parseMethodDescriptor y_Ti_putInfo.desc).map (fun d => d.parameters.length) = some 1 := by decide +kernel
theorem d_Ti_putInfo_0 : decode b_Ti_putInfo 0 = .ok (.aload_n 1, 1) := by decide +kernel
theorem d_Ti_putInfo_1 : decode b_Ti_putInfo 1 = .ok (.bipush 48, 2) := by decide +kernel
theorem d_Ti_putInfo_3 : decode b_Ti_putInfo 3 = .ok (.invokevirtual 93, 3) := by decide +kernel
theorem d_Ti_putInfo_6 : decode b_Ti_putInfo 6 = .ok (.istore_n 2, 1) := by decide +kernel
theorem d_Ti_putInfo_7 : decode b_Ti_putInfo 7 = .ok (.aload_n 1, 1) := by decide +kernel
theorem d_Ti_putInfo_8 : decode b_Ti_putInfo 8 = .ok (.iconst 0, 1) := by decide +kernel
theorem d_Ti_putInfo_9 : decode b_Ti_putInfo 9 = .ok (.aload_n 0, 1) := by decide +kernel
theorem d_Ti_putInfo_10 : decode b_Ti_putInfo 10 = .ok (.getfield 27, 3) := by decide +kernel
theorem d_Ti_putInfo_13 : decode b_Ti_putInfo 13 = .ok (.invokevirtual 96, 3) := by decide +kernel
theorem d_Ti_putInfo_16 : decode b_Ti_putInfo 16 = .ok (.aload_n 1, 1) := by decide +kernel
theorem d_Ti_putInfo_17 : decode b_Ti_putInfo 17 = .ok (.iconst 1, 1) := by decide +kernel
theorem d_Ti_putInfo_18 : decode b_Ti_putInfo 18 = .ok (.invokevirtual 100, 3) := by decide +kernel
theorem d_Ti_putInfo_21 : decode b_Ti_putInfo 21 = .ok (.aload_n 1, 1) := by decide +kernel
theorem d_Ti_putInfo_22 : decode b_Ti_putInfo 22 = .ok (.iconst 2, 1) := by decide +kernel
theorem d_Ti_putInfo_23 : decode b_Ti_putInfo 23 = .ok (.aload_n 0, 1) := by decide +kernel
theorem d_Ti_putInfo_24 : decode b_Ti_putInfo 24 = .ok (.getfield 64, 3) := by decide +kernel
theorem d_Ti_putInfo_27 : decode b_Ti_putInfo 27 = .ok (.aload_n 0, 1) := by decide +kernel
theorem d_Ti_putInfo_28 : decode b_Ti_putInfo 28 = .ok (.getfield 20, 3) := by decide +kernel
theorem d_Ti_putInfo_31 : decode b_Ti_putInfo 31 = .ok (.invokevirtual 103, 3) := by decide +kernel
theorem d_Ti_putInfo_34 : decode b_Ti_putInfo 34 = .ok (.aload_n 1, 1) := by decide +kernel
theorem d_Ti_putInfo_35 : decode b_Ti_putInfo 35 = .ok (.iconst 3, 1) := by decide +kernel
theorem d_Ti_putInfo_36 : decode b_Ti_putInfo 36 = .ok (.aload_n 0, 1) := by decide +kernel
theorem d_Ti_putInfo_37 : decode b_Ti_putInfo 37 = .ok (.getfield 30, 3) := by decide +kernel
theorem d_Ti_putInfo_40 : decode b_Ti_putInfo 40 = .ok (.invokevirtual 107, 3) := by decide +kernel
theorem d_Ti_putInfo_43 : decode b_Ti_putInfo 43 = .ok (.aload_n 1, 1) := by decide +kernel
theorem d_Ti_putInfo_44 : decode b_Ti_putInfo 44 = .ok (.iconst 4, 1) := by decide +kernel
theorem d_Ti_putInfo_45 : decode b_Ti_putInfo 45 = .ok (.aload_n 0, 1) := by decide +kernel
theorem d_Ti_putInfo_46 : decode b_Ti_putInfo 46 = .ok (.getfield 34, 3) := by decide +kernel
theorem d_Ti_putInfo_49 : decode b_Ti_putInfo 49 = .ok (.invokevirtual 111, 3) := by decide +kernel
theorem d_Ti_putInfo_52 : decode b_Ti_putInfo 52 = .ok (.aload_n 0, 1) := by decide +kernel
theorem d_Ti_putInfo_53 : decode b_Ti_putInfo 53 = .ok (.getfield 37, 3) := by decide +kernel
theorem d_Ti_putInfo_56 : decode b_Ti_putInfo 56 = .ok (.ifCond .lt 12, 3) := by decide +kernel
theorem d_Ti_putInfo_59 : decode b_Ti_putInfo 59 = .ok (.aload_n 1, 1) := by decide +kernel
theorem d_Ti_putInfo_60 : decode b_Ti_putInfo 60 = .ok (.iconst 5, 1) := by decide +kernel
theorem d_Ti_putInfo_61 : decode b_Ti_putInfo 61 = .ok (.aload_n 0, 1) := by decide +kernel
theorem d_Ti_putInfo_62 : decode b_Ti_putInfo 62 = .ok (.getfield 37, 3) := by decide +kernel
theorem d_Ti_putInfo_65 : decode b_Ti_putInfo 65 = .ok (.invokevirtual 111, 3) := by decide +kernel
theorem d_Ti_putInfo_68 : decode b_Ti_putInfo 68 = .ok (.aload_n 1, 1) := by decide +kernel
theorem d_Ti_putInfo_69 : decode b_Ti_putInfo 69 = .ok (.bipush 6, 2) := by decide +kernel
theorem d_Ti_putInfo_71 : decode b_Ti_putInfo 71 = .ok (.aload_n 0, 1) := by decide +kernel
theorem d_Ti_putInfo_72 : decode b_Ti_putInfo 72 = .ok (.getfield 40, 3) := by decide +kernel
theorem d_Ti_putInfo_75 : decode b_Ti_putInfo 75 = .ok (.invokevirtual 111, 3) := by decide +kernel
theorem d_Ti_putInfo_78 : decode b_Ti_putInfo 78 = .ok (.aload_n 0, 1) := by decide +kernel
theorem d_Ti_putInfo_79 : decode b_Ti_putInfo 79 = .ok (.getfield 43, 3) := by decide +kernel
theorem d_Ti_putInfo_82 : decode b_Ti_putInfo 82 = .ok (.ifCond .lt 13, 3) := by decide +kernel
theorem d_Ti_putInfo_85 : decode b_Ti_putInfo 85 = .ok (.aload_n 1, 1) := by decide +kernel
theorem d_Ti_putInfo_86 : decode b_Ti_putInfo 86 = .ok (.bipush 7, 2) := by decide +kernel
theorem d_Ti_putInfo_88 : decode b_Ti_putInfo 88 = .ok (.aload_n 0, 1) := by decide +kernel
theorem d_Ti_putInfo_89 : decode b_Ti_putInfo 89 = .ok (.getfield 43, 3) := by decide +kernel
theorem d_Ti_putInfo_92 : decode b_Ti_putInfo 92 = .ok (.invokevirtual 111, 3) := by decide +kernel
theorem d_Ti_putInfo_95 : decode b_Ti_putInfo 95 = .ok (.aload_n 1, 1) := by decide +kernel
theorem d_Ti_putInfo_96 : decode b_Ti_putInfo 96 = .ok (.bipush 8, 2) := by decide +kernel
theorem d_Ti_putInfo_98 : decode b_Ti_putInfo 98 = .ok (.invokevirtual 100, 3) := by decide +kernel
theorem d_Ti_putInfo_101 : decode b_Ti_putInfo 101 = .ok (.aload_n 1, 1) := by decide +kernel
theorem d_Ti_putInfo_102 : decode b_Ti_putInfo 102 = .ok (.bipush 9, 2) := by decide +kernel
theorem d_Ti_putInfo_104 : decode b_Ti_putInfo 104 = .ok (.aload_n 0, 1) := by decide +kernel
theorem d_Ti_putInfo_105 : decode b_Ti_putInfo 105 = .ok (.getfield 14, 3) := by decide +kernel
theorem d_Ti_putInfo_108 : decode b_Ti_putInfo 108 = .ok (.aload_n 0, 1) := by decide +kernel
theorem d_Ti_putInfo_109 : decode b_Ti_putInfo 109 = .ok (.getfield 14, 3) := by decide +kernel
theorem d_Ti_putInfo_112 : decode b_Ti_putInfo 112 = .ok (.iconst 0, 1) := by decide +kernel
theorem d_Ti_putInfo_113 : decode b_Ti_putInfo 113 = .ok (.iconst 2, 1) := by decide +kernel
theorem d_Ti_putInfo_114 : decode b_Ti_putInfo 114 = .ok (.invokevirtual 52, 3) := by decide +kernel
theorem d_Ti_putInfo_117 : decode b_Ti_putInfo 117 = .ok (.invokevirtual 114, 3) := by decide +kernel
theorem d_Ti_putInfo_120 : decode b_Ti_putInfo 120 = .ok (.aload_n 1, 1) := by decide +kernel
theorem d_Ti_putInfo_121 : decode b_Ti_putInfo 121 = .ok (.iload_n 2, 1) := by decide +kernel
theorem d_Ti_putInfo_122 : decode b_Ti_putInfo 122 = .ok (.invokevirtual 118, 3) := by decide +kernel
theorem d_Ti_putInfo_125 : decode b_Ti_putInfo 125 = .ok (.return_, 1) := by decide +kernel
