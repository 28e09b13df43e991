abbrev b_Ag_init : ByteArray := prog_3_method_1_code
def y_Ag_init : MethodName := ⟨R_Ag, "<init>", "(LRealmHouse$Vault;)V"⟩
abbrev k_Ag_init : Cond := .code y_Ag_init b_Ag_init 3 none
theorem ki_Ag_init : k_Ag_init ∈ lw_tg := in_t 300 (by decide +kernel)
theorem ks_Ag_init : Cond.instanceMethod y_Ag_init ∈ lw_tg := in_t 299 (by decide +kernel)
theorem kl_H_Ag_init : Cond.methodLink R_H 53 y_Ag_init ∈ lw_tg := in_t 298 (by decide +kernel)
theorem hd_Ag_init : y_Ag_init.cls = R_Ag ∧ y_Ag_init.cls ≠ "java/lang/invoke/MethodHandle" ∧ y_Ag_init.cls ≠ "java/lang/invoke/VarHandle" ∧ (parseMethodDescriptor y_Ag_init.desc).map (fun d => d.parameters.length) = some 1 := by decide +kernel
theorem d_Ag_init_0 : decode b_Ag_init 0 = .ok (.aload_n 0, 1) := by decide +kernel
theorem d_Ag_init_1 : decode b_Ag_init 1 = .ok (.invokespecial 3, 3) := by decide +kernel
theorem d_Ag_init_4 : decode b_Ag_init 4 = .ok (.aload_n 0, 1) := by decide +kernel
theorem d_Ag_init_5 : decode b_Ag_init 5 = .ok (.new 9, 3) := by decide +kernel
theorem d_Ag_init_8 : decode b_Ag_init 8 = .ok (.dup, 1) := by decide +kernel
theorem d_Ag_init_9 : decode b_Ag_init 9 = .ok (.bipush 40, 2) := by decide +kernel
theorem d_Ag_init_11 : decode b_Ag_init 11 = .ok (.invokespecial 11, 3) := by decide +kernel
theorem d_Ag_init_14 : decode b_Ag_init 14 = .ok (.putfield 14, 3) := by decide +kernel
theorem d_Ag_init_17 : decode b_Ag_init 17 = .ok (.aload_n 0, 1) := by decide +kernel
theorem d_Ag_init_18 : decode b_Ag_init 18 = .ok (.getstatic 20, 3) := by decide +kernel
theorem d_Ag_init_21 : decode b_Ag_init 21 = .ok (.putfield 24, 3) := by decide +kernel
theorem d_Ag_init_24 : decode b_Ag_init 24 = .ok (.aload_n 0, 1) := by decide +kernel
theorem d_Ag_init_25 : decode b_Ag_init 25 = .ok (.getstatic 20, 3) := by decide +kernel
theorem d_Ag_init_28 : decode b_Ag_init 28 = .ok (.putfield 27, 3) := by decide +kernel
theorem d_Ag_init_31 : decode b_Ag_init 31 = .ok (.aload_n 0, 1) := by decide +kernel
theorem d_Ag_init_32 : decode b_Ag_init 32 = .ok (.new 9, 3) := by decide +kernel
theorem d_Ag_init_35 : decode b_Ag_init 35 = .ok (.dup, 1) := by decide +kernel
theorem d_Ag_init_36 : decode b_Ag_init 36 = .ok (.bipush 40, 2) := by decide +kernel
theorem d_Ag_init_38 : decode b_Ag_init 38 = .ok (.invokespecial 11, 3) := by decide +kernel
theorem d_Ag_init_41 : decode b_Ag_init 41 = .ok (.putfield 30, 3) := by decide +kernel
theorem d_Ag_init_44 : decode b_Ag_init 44 = .ok (.aload_n 0, 1) := by decide +kernel
theorem d_Ag_init_45 : decode b_Ag_init 45 = .ok (.new 9, 3) := by decide +kernel
theorem d_Ag_init_48 : decode b_Ag_init 48 = .ok (.dup, 1) := by decide +kernel
theorem d_Ag_init_49 : decode b_Ag_init 49 = .ok (.bipush 40, 2) := by decide +kernel
theorem d_Ag_init_51 : decode b_Ag_init 51 = .ok (.invokespecial 11, 3) := by decide +kernel
theorem d_Ag_init_54 : decode b_Ag_init 54 = .ok (.putfield 33, 3) := by decide +kernel
theorem d_Ag_init_57 : decode b_Ag_init 57 = .ok (.aload_n 0, 1) := by decide +kernel
theorem d_Ag_init_58 : decode b_Ag_init 58 = .ok (.getstatic 20, 3) := by decide +kernel
theorem d_Ag_init_61 : decode b_Ag_init 61 = .ok (.putfield 36, 3) := by decide +kernel
theorem d_Ag_init_64 : decode b_Ag_init 64 = .ok (.aload_n 0, 1) := by decide +kernel
theorem d_Ag_init_65 : decode b_Ag_init 65 = .ok (.getstatic 20, 3) := by decide +kernel
theorem d_Ag_init_68 : decode b_Ag_init 68 = .ok (.putfield 39, 3) := by decide +kernel
theorem d_Ag_init_71 : decode b_Ag_init 71 = .ok (.aload_n 0, 1) := by decide +kernel
theorem d_Ag_init_72 : decode b_Ag_init 72 = .ok (.aload_n 1, 1) := by decide +kernel
theorem d_Ag_init_73 : decode b_Ag_init 73 = .ok (.putfield 42, 3) := by decide +kernel
theorem d_Ag_init_76 : decode b_Ag_init 76 = .ok (.aload_n 0, 1) := by decide +kernel
theorem d_Ag_init_77 : decode b_Ag_init 77 = .ok (.bipush 8, 2) := by decide +kernel
theorem d_Ag_init_79 : decode b_Ag_init 79 = .ok (.anewarray 46, 3) := by decide +kernel
theorem d_Ag_init_82 : decode b_Ag_init 82 = .ok (.putfield 48, 3) := by decide +kernel
theorem d_Ag_init_85 : decode b_Ag_init 85 = .ok (.iconst 0, 1) := by decide +kernel
theorem d_Ag_init_86 : decode b_Ag_init 86 = .ok (.istore_n 2, 1) := by decide +kernel
theorem d_Ag_init_87 : decode b_Ag_init 87 = .ok (.iload_n 2, 1) := by decide +kernel
theorem d_Ag_init_88 : decode b_Ag_init 88 = .ok (.bipush 8, 2) := by decide +kernel
theorem d_Ag_init_90 : decode b_Ag_init 90 = .ok (.if_icmp .ge 22, 3) := by decide +kernel
theorem d_Ag_init_93 : decode b_Ag_init 93 = .ok (.aload_n 0, 1) := by decide +kernel
theorem d_Ag_init_94 : decode b_Ag_init 94 = .ok (.getfield 48, 3) := by decide +kernel
theorem d_Ag_init_97 : decode b_Ag_init 97 = .ok (.iload_n 2, 1) := by decide +kernel
theorem d_Ag_init_98 : decode b_Ag_init 98 = .ok (.new 46, 3) := by decide +kernel
theorem d_Ag_init_101 : decode b_Ag_init 101 = .ok (.dup, 1) := by decide +kernel
theorem d_Ag_init_102 : decode b_Ag_init 102 = .ok (.invokespecial 52, 3) := by decide +kernel
theorem d_Ag_init_105 : decode b_Ag_init 105 = .ok (.aastore, 1) := by decide +kernel
theorem d_Ag_init_106 : decode b_Ag_init 106 = .ok (.iinc 2 1, 3) := by decide +kernel
theorem d_Ag_init_109 : decode b_Ag_init 109 = .ok (.goto (-22), 3) := by decide +kernel
theorem d_Ag_init_112 : decode b_Ag_init 112 = .ok (.return_, 1) := by decide +kernel
abbrev b_Ag_begin : ByteArray := prog_3_method_2_code
def y_Ag_begin : MethodName := ⟨R_Ag, "begin", "(LRealmHouse$Bytes;LRealmHouse$Bytes;II)V"⟩
abbrev k_Ag_begin : Cond := .code y_Ag_begin b_Ag_begin 6 none
theorem ki_Ag_begin : k_Ag_begin ∈ lw_tg := in_t 1371 (by decide +kernel)
theorem ks_Ag_begin : Cond.instanceMethod y_Ag_begin ∈ lw_tg := in_t 1369 (by decide +kernel)
theorem kx_Ag_begin : Cond.selects R_Ag y_Ag_begin y_Ag_begin ∈ lw_tg := in_t 1370 (by decide +kernel)
theorem kl_H_Ag_begin : Cond.methodLink R_H 182 y_Ag_begin ∈ lw_tg := in_t 1368 (by decide +kernel)
theorem hd_Ag_begin : y_Ag_begin.cls = R_Ag ∧ y_Ag_begin.cls ≠ "java/lang/invoke/MethodHandle" ∧ y_Ag_begin.cls ≠ "java/lang/invoke/VarHandle" ∧ (parseMethodDescriptor y_Ag_begin.desc).map (fun d => d.parameters.length) = some 4 := by decide +kernel
theorem d_Ag_begin_0 : decode b_Ag_begin 0 = .ok (.aload_n 0, 1) := by decide +kernel
theorem d_Ag_begin_1 : decode b_Ag_begin 1 = .ok (.getfield 14, 3) := by decide +kernel
theorem d_Ag_begin_4 : decode b_Ag_begin 4 = .ok (.aload_n 1, 1) := by decide +kernel
theorem d_Ag_begin_5 : decode b_Ag_begin 5 = .ok (.invokevirtual 53, 3) := by decide +kernel
theorem d_Ag_begin_8 : decode b_Ag_begin 8 = .ok (.aload_n 0, 1) := by decide +kernel
theorem d_Ag_begin_9 : decode b_Ag_begin 9 = .ok (.aload_n 0, 1) := by decide +kernel
theorem d_Ag_begin_10 : decode b_Ag_begin 10 = .ok (.getfield 42, 3) := by decide +kernel
theorem d_Ag_begin_13 : decode b_Ag_begin 13 = .ok (.bipush 18, 2) := by decide +kernel
theorem d_Ag_begin_15 : decode b_Ag_begin 15 = .ok (.aload_n 0, 1) := by decide +kernel
theorem d_Ag_begin_16 : decode b_Ag_begin 16 = .ok (.getfield 14, 3) := by decide +kernel
theorem d_Ag_begin_19 : decode b_Ag_begin 19 = .ok (.aload_n 2, 1) := by decide +kernel
theorem d_Ag_begin_20 : decode b_Ag_begin 20 = .ok (.iload_n 3, 1) := by decide +kernel
theorem d_Ag_begin_21 : decode b_Ag_begin 21 = .ok (.iload 4, 2) := by decide +kernel
theorem d_Ag_begin_23 : decode b_Ag_begin 23 = .ok (.invokevirtual 57, 3) := by decide +kernel
theorem d_Ag_begin_26 : decode b_Ag_begin 26 = .ok (.putfield 24, 3) := by decide +kernel
theorem d_Ag_begin_29 : decode b_Ag_begin 29 = .ok (.aload_n 0, 1) := by decide +kernel
theorem d_Ag_begin_30 : decode b_Ag_begin 30 = .ok (.aload_n 0, 1) := by decide +kernel
theorem d_Ag_begin_31 : decode b_Ag_begin 31 = .ok (.getfield 42, 3) := by decide +kernel
theorem d_Ag_begin_34 : decode b_Ag_begin 34 = .ok (.bipush 17, 2) := by decide +kernel
theorem d_Ag_begin_36 : decode b_Ag_begin 36 = .ok (.aload_n 0, 1) := by decide +kernel
theorem d_Ag_begin_37 : decode b_Ag_begin 37 = .ok (.getfield 14, 3) := by decide +kernel
theorem d_Ag_begin_40 : decode b_Ag_begin 40 = .ok (.aload_n 2, 1) := by decide +kernel
theorem d_Ag_begin_41 : decode b_Ag_begin 41 = .ok (.iload_n 3, 1) := by decide +kernel
theorem d_Ag_begin_42 : decode b_Ag_begin 42 = .ok (.iload 4, 2) := by decide +kernel
theorem d_Ag_begin_44 : decode b_Ag_begin 44 = .ok (.invokevirtual 57, 3) := by decide +kernel
theorem d_Ag_begin_47 : decode b_Ag_begin 47 = .ok (.putfield 27, 3) := by decide +kernel
theorem d_Ag_begin_50 : decode b_Ag_begin 50 = .ok (.iconst 0, 1) := by decide +kernel
theorem d_Ag_begin_51 : decode b_Ag_begin 51 = .ok (.istore 5, 2) := by decide +kernel
theorem d_Ag_begin_53 : decode b_Ag_begin 53 = .ok (.iload 5, 2) := by decide +kernel
theorem d_Ag_begin_55 : decode b_Ag_begin 55 = .ok (.bipush 8, 2) := by decide +kernel
theorem d_Ag_begin_57 : decode b_Ag_begin 57 = .ok (.if_icmp .ge 20, 3) := by decide +kernel
theorem d_Ag_begin_60 : decode b_Ag_begin 60 = .ok (.aload_n 0, 1) := by decide +kernel
theorem d_Ag_begin_61 : decode b_Ag_begin 61 = .ok (.getfield 48, 3) := by decide +kernel
theorem d_Ag_begin_64 : decode b_Ag_begin 64 = .ok (.iload 5, 2) := by decide +kernel
theorem d_Ag_begin_66 : decode b_Ag_begin 66 = .ok (.aaload, 1) := by decide +kernel
theorem d_Ag_begin_67 : decode b_Ag_begin 67 = .ok (.iconst 0, 1) := by decide +kernel
theorem d_Ag_begin_68 : decode b_Ag_begin 68 = .ok (.putfield 63, 3) := by decide +kernel
theorem d_Ag_begin_71 : decode b_Ag_begin 71 = .ok (.iinc 5 1, 3) := by decide +kernel
theorem d_Ag_begin_74 : decode b_Ag_begin 74 = .ok (.goto (-21), 3) := by decide +kernel
theorem d_Ag_begin_77 : decode b_Ag_begin 77 = .ok (.aload_n 0, 1) := by decide +kernel
theorem d_Ag_begin_78 : decode b_Ag_begin 78 = .ok (.iconst 1, 1) := by decide +kernel
theorem d_Ag_begin_79 : decode b_Ag_begin 79 = .ok (.putfield 67, 3) := by decide +kernel
theorem d_Ag_begin_82 : decode b_Ag_begin 82 = .ok (.aload_n 0, 1) := by decide +kernel
theorem d_Ag_begin_83 : decode b_Ag_begin 83 = .ok (.iconst 0, 1) := by decide +kernel
theorem d_Ag_begin_84 : decode b_Ag_begin 84 = .ok (.putfield 68, 3) := by decide +kernel
theorem d_Ag_begin_87 : decode b_Ag_begin 87 = .ok (.aload_n 0, 1) := by decide +kernel
theorem d_Ag_begin_88 : decode b_Ag_begin 88 = .ok (.iconst 0, 1) := by decide +kernel
theorem d_Ag_begin_89 : decode b_Ag_begin 89 = .ok (.putfield 72, 3) := by decide +kernel
theorem d_Ag_begin_92 : decode b_Ag_begin 92 = .ok (.aload_n 0, 1) := by decide +kernel
theorem d_Ag_begin_93 : decode b_Ag_begin 93 = .ok (.iconst (-1), 1) := by decide +kernel
theorem d_Ag_begin_94 : decode b_Ag_begin 94 = .ok (.putfield 75, 3) := by decide +kernel
theorem d_Ag_begin_97 : decode b_Ag_begin 97 = .ok (.aload_n 0, 1) := by decide +kernel
theorem d_Ag_begin_98 : decode b_Ag_begin 98 = .ok (.ldc2_w 78, 3) := by decide +kernel
theorem d_Ag_begin_101 : decode b_Ag_begin 101 = .ok (.putfield 80, 3) := by decide +kernel
theorem d_Ag_begin_104 : decode b_Ag_begin 104 = .ok (.aload_n 0, 1) := by decide +kernel
theorem d_Ag_begin_105 : decode b_Ag_begin 105 = .ok (.lconst 0, 1) := by decide +kernel
theorem d_Ag_begin_106 : decode b_Ag_begin 106 = .ok (.putfield 84, 3) := by decide +kernel
theorem d_Ag_begin_109 : decode b_Ag_begin 109 = .ok (.aload_n 0, 1) := by decide +kernel
theorem d_Ag_begin_110 : decode b_Ag_begin 110 = .ok (.iconst 0, 1) := by decide +kernel
theorem d_Ag_begin_111 : decode b_Ag_begin 111 = .ok (.putfield 87, 3) := by decide +kernel
theorem d_Ag_begin_114 : decode b_Ag_begin 114 = .ok (.return_, 1) := by decide +kernel
abbrev b_Ag_time : ByteArray := prog_3_method_3_code
def y_Ag_time : MethodName := ⟨R_Ag, "time", "()I"⟩
abbrev k_Ag_time : Cond := .code y_Ag_time b_Ag_time 1 (some .int)
theorem ki_Ag_time : k_Ag_time ∈ lw_tg := in_t 1432 (by decide +kernel)
theorem ks_Ag_time : Cond.instanceMethod y_Ag_time ∈ lw_tg := in_t 1430 (by decide +kernel)
theorem kx_Ag_time : Cond.selects R_Ag y_Ag_time y_Ag_time ∈ lw_tg := in_t 1431 (by decide +kernel)
theorem kl_Ag_Ag_time : Cond.methodLink R_Ag 159 y_Ag_time ∈ lw_tg := in_t 1429 (by decide +kernel)
theorem kl_H_Ag_time : Cond.methodLink R_H 292 y_Ag_time ∈ lw_tg := in_t 1640 (by decide +kernel)
theorem hd_Ag_time : y_Ag_time.cls = R_Ag ∧ y_Ag_time.cls ≠ "java/lang/invoke/MethodHandle" ∧ y_Ag_time.cls ≠ "java/lang/invoke/VarHandle" ∧ (parseMethodDescriptor y_Ag_time.desc).map (fun d => d.parameters.length) = some 0 := by decide +kernel
theorem d_Ag_time_0 : decode b_Ag_time 0 = .ok (.iconst 0, 1) := by decide +kernel
theorem d_Ag_time_1 : decode b_Ag_time 1 = .ok (.ldc 90, 2) := by decide +kernel
theorem d_Ag_time_3 : decode b_Ag_time 3 = .ok (.aload_n 0, 1) := by decide +kernel
theorem d_Ag_time_4 : decode b_Ag_time 4 = .ok (.getfield 42, 3) := by decide +kernel
theorem d_Ag_time_7 : decode b_Ag_time 7 = .ok (.getfield 91, 3) := by decide +kernel
theorem d_Ag_time_10 : decode b_Ag_time 10 = .ok (.aload_n 0, 1) := by decide +kernel
theorem d_Ag_time_11 : decode b_Ag_time 11 = .ok (.getfield 68, 3) := by decide +kernel
theorem d_Ag_time_14 : decode b_Ag_time 14 = .ok (.iadd, 1) := by decide +kernel
theorem d_Ag_time_15 : decode b_Ag_time 15 = .ok (.invokestatic 94, 3) := by decide +kernel
theorem d_Ag_time_18 : decode b_Ag_time 18 = .ok (.invokestatic 100, 3) := by decide +kernel
theorem d_Ag_time_21 : decode b_Ag_time 21 = .ok (.ireturn, 1) := by decide +kernel
abbrev b_Ag_has : ByteArray := prog_3_method_4_code
def y_Ag_has : MethodName := ⟨R_Ag, "has", "(I)Z"⟩
abbrev k_Ag_has : Cond := .code y_Ag_has b_Ag_has 2 (some .boolean)
theorem ki_Ag_has : k_Ag_has ∈ lw_tg := in_t 1400 (by decide +kernel)
theorem ks_Ag_has : Cond.instanceMethod y_Ag_has ∈ lw_tg := in_t 1398 (by decide +kernel)
theorem kx_Ag_has : Cond.selects R_Ag y_Ag_has y_Ag_has ∈ lw_tg := in_t 1399 (by decide +kernel)
theorem kl_H_Ag_has : Cond.methodLink R_H 199 y_Ag_has ∈ lw_tg := in_t 1397 (by decide +kernel)
theorem kl_Ag_Ag_has : Cond.methodLink R_Ag 110 y_Ag_has ∈ lw_tg := in_t 1411 (by decide +kernel)
theorem hd_Ag_has : y_Ag_has.cls = R_Ag ∧ y_Ag_has.cls ≠ "java/lang/invoke/MethodHandle" ∧ y_Ag_has.cls ≠ "java/lang/invoke/VarHandle" ∧ (parseMethodDescriptor y_Ag_has.desc).map (fun d => d.parameters.length) = some 1 := by decide +kernel
theorem d_Ag_has_0 : decode b_Ag_has 0 = .ok (.iload_n 1, 1) := by decide +kernel
theorem d_Ag_has_1 : decode b_Ag_has 1 = .ok (.ifCond .lt 25, 3) := by decide +kernel
theorem d_Ag_has_4 : decode b_Ag_has 4 = .ok (.iload_n 1, 1) := by decide +kernel
theorem d_Ag_has_5 : decode b_Ag_has 5 = .ok (.bipush 8, 2) := by decide +kernel
theorem d_Ag_has_7 : decode b_Ag_has 7 = .ok (.if_icmp .ge 19, 3) := by decide +kernel
theorem d_Ag_has_10 : decode b_Ag_has 10 = .ok (.aload_n 0, 1) := by decide +kernel
theorem d_Ag_has_11 : decode b_Ag_has 11 = .ok (.getfield 48, 3) := by decide +kernel
theorem d_Ag_has_14 : decode b_Ag_has 14 = .ok (.iload_n 1, 1) := by decide +kernel
theorem d_Ag_has_15 : decode b_Ag_has 15 = .ok (.aaload, 1) := by decide +kernel
theorem d_Ag_has_16 : decode b_Ag_has 16 = .ok (.getfield 63, 3) := by decide +kernel
theorem d_Ag_has_19 : decode b_Ag_has 19 = .ok (.ifCond .eq 7, 3) := by decide +kernel
theorem d_Ag_has_22 : decode b_Ag_has 22 = .ok (.iconst 1, 1) := by decide +kernel
theorem d_Ag_has_23 : decode b_Ag_has 23 = .ok (.goto 4, 3) := by decide +kernel
theorem d_Ag_has_26 : decode b_Ag_has 26 = .ok (.iconst 0, 1) := by decide +kernel
theorem d_Ag_has_27 : decode b_Ag_has 27 = .ok (.ireturn, 1) := by decide +kernel
abbrev b_Ag_freePlace : ByteArray := prog_3_method_5_code
def y_Ag_freePlace : MethodName := ⟨R_Ag, "freePlace", "()I"⟩
abbrev k_Ag_freePlace : Cond := .code y_Ag_freePlace b_Ag_freePlace 2 (some .int)
theorem ki_Ag_freePlace : k_Ag_freePlace ∈ lw_tg := in_t 1509 (by decide +kernel)
theorem ks_Ag_freePlace : Cond.instanceMethod y_Ag_freePlace ∈ lw_tg := in_t 1508 (by decide +kernel)
theorem kx_Ag_freePlace : Cond.selects R_Ag y_Ag_freePlace y_Ag_freePlace ∈ lw_tg := List.mem_filter.mpr ⟨List.mem_append_left _ (List.mem_of_getElem? (i := 60) (by decide +kernel)), rfl⟩
theorem kl_Ag_Ag_freePlace : Cond.methodLink R_Ag 288 y_Ag_freePlace ∈ lw_tg := in_t 1506 (by decide +kernel)
theorem hd_Ag_freePlace : y_Ag_freePlace.cls = R_Ag ∧ y_Ag_freePlace.cls ≠ "java/lang/invoke/MethodHandle" ∧ y_Ag_freePlace.cls ≠ "java/lang/invoke/VarHandle" ∧ (parseMethodDescriptor y_Ag_freePlace.desc).map (fun d => d.parameters.length) = some 0 := by decide +kernel
theorem d_Ag_freePlace_0 : decode b_Ag_freePlace 0 = .ok (.iconst 0, 1) := by decide +kernel
theorem d_Ag_freePlace_1 : decode b_Ag_freePlace 1 = .ok (.istore_n 1, 1) := by decide +kernel
theorem d_Ag_freePlace_2 : decode b_Ag_freePlace 2 = .ok (.iload_n 1, 1) := by decide +kernel
theorem d_Ag_freePlace_3 : decode b_Ag_freePlace 3 = .ok (.bipush 8, 2) := by decide +kernel
theorem d_Ag_freePlace_5 : decode b_Ag_freePlace 5 = .ok (.if_icmp .ge 21, 3) := by decide +kernel
theorem d_Ag_freePlace_8 : decode b_Ag_freePlace 8 = .ok (.aload_n 0, 1) := by decide +kernel
theorem d_Ag_freePlace_9 : decode b_Ag_freePlace 9 = .ok (.getfield 48, 3) := by decide +kernel
theorem d_Ag_freePlace_12 : decode b_Ag_freePlace 12 = .ok (.iload_n 1, 1) := by decide +kernel
theorem d_Ag_freePlace_13 : decode b_Ag_freePlace 13 = .ok (.aaload, 1) := by decide +kernel
theorem d_Ag_freePlace_14 : decode b_Ag_freePlace 14 = .ok (.getfield 63, 3) := by decide +kernel
theorem d_Ag_freePlace_17 : decode b_Ag_freePlace 17 = .ok (.ifCond .eq 9, 3) := by decide +kernel
theorem d_Ag_freePlace_20 : decode b_Ag_freePlace 20 = .ok (.iinc 1 1, 3) := by decide +kernel
theorem d_Ag_freePlace_23 : decode b_Ag_freePlace 23 = .ok (.goto (-21), 3) := by decide +kernel
theorem d_Ag_freePlace_26 : decode b_Ag_freePlace 26 = .ok (.iload_n 1, 1) := by decide +kernel
theorem d_Ag_freePlace_27 : decode b_Ag_freePlace 27 = .ok (.bipush 8, 2) := by decide +kernel
theorem d_Ag_freePlace_29 : decode b_Ag_freePlace 29 = .ok (.if_icmp .ge 7, 3) := by decide +kernel
theorem d_Ag_freePlace_32 : decode b_Ag_freePlace 32 = .ok (.iload_n 1, 1) := by decide +kernel
theorem d_Ag_freePlace_33 : decode b_Ag_freePlace 33 = .ok (.goto 5, 3) := by decide +kernel
theorem d_Ag_freePlace_36 : decode b_Ag_freePlace 36 = .ok (.bipush (-2), 2) := by decide +kernel
theorem d_Ag_freePlace_38 : decode b_Ag_freePlace 38 = .ok (.ireturn, 1) := by decide +kernel
abbrev b_Ag_isAsked : ByteArray := prog_3_method_6_code
def y_Ag_isAsked : MethodName := ⟨R_Ag, "isAsked", "(J)Z"⟩
abbrev k_Ag_isAsked : Cond := .code y_Ag_isAsked b_Ag_isAsked 3 (some .boolean)
theorem ki_Ag_isAsked : k_Ag_isAsked ∈ lw_tg := in_t 1495 (by decide +kernel)
theorem ks_Ag_isAsked : Cond.instanceMethod y_Ag_isAsked ∈ lw_tg := in_t 1494 (by decide +kernel)
theorem kx_Ag_isAsked : Cond.selects R_Ag y_Ag_isAsked y_Ag_isAsked ∈ lw_tg := List.mem_filter.mpr ⟨List.mem_append_left _ (List.mem_of_getElem? (i := 58) (by decide +kernel)), rfl⟩
theorem kl_Ag_Ag_isAsked : Cond.methodLink R_Ag 263 y_Ag_isAsked ∈ lw_tg := in_t 1492 (by decide +kernel)
theorem hd_Ag_isAsked : y_Ag_isAsked.cls = R_Ag ∧ y_Ag_isAsked.cls ≠ "java/lang/invoke/MethodHandle" ∧ y_Ag_isAsked.cls ≠ "java/lang/invoke/VarHandle" ∧ (parseMethodDescriptor y_Ag_isAsked.desc).map (fun d => d.parameters.length) = some 1 := by decide +kernel
theorem d_Ag_isAsked_0 : decode b_Ag_isAsked 0 = .ok (.lload_n 1, 1) := by decide +kernel
theorem d_Ag_isAsked_1 : decode b_Ag_isAsked 1 = .ok (.ldc2_w 103, 3) := by decide +kernel
theorem d_Ag_isAsked_4 : decode b_Ag_isAsked 4 = .ok (.lcmp, 1) := by decide +kernel
theorem d_Ag_isAsked_5 : decode b_Ag_isAsked 5 = .ok (.ifCond .ne 11, 3) := by decide +kernel
theorem d_Ag_isAsked_8 : decode b_Ag_isAsked 8 = .ok (.aload_n 0, 1) := by decide +kernel
theorem d_Ag_isAsked_9 : decode b_Ag_isAsked 9 = .ok (.getfield 105, 3) := by decide +kernel
theorem d_Ag_isAsked_12 : decode b_Ag_isAsked 12 = .ok (.iconst 2, 1) := by decide +kernel
theorem d_Ag_isAsked_13 : decode b_Ag_isAsked 13 = .ok (.if_icmp .ne 19, 3) := by decide +kernel
theorem d_Ag_isAsked_16 : decode b_Ag_isAsked 16 = .ok (.lload_n 1, 1) := by decide +kernel
theorem d_Ag_isAsked_17 : decode b_Ag_isAsked 17 = .ok (.ldc2_w 108, 3) := by decide +kernel
theorem d_Ag_isAsked_20 : decode b_Ag_isAsked 20 = .ok (.lcmp, 1) := by decide +kernel
theorem d_Ag_isAsked_21 : decode b_Ag_isAsked 21 = .ok (.ifCond .ne 15, 3) := by decide +kernel
theorem d_Ag_isAsked_24 : decode b_Ag_isAsked 24 = .ok (.aload_n 0, 1) := by decide +kernel
theorem d_Ag_isAsked_25 : decode b_Ag_isAsked 25 = .ok (.getfield 105, 3) := by decide +kernel
theorem d_Ag_isAsked_28 : decode b_Ag_isAsked 28 = .ok (.iconst 1, 1) := by decide +kernel
theorem d_Ag_isAsked_29 : decode b_Ag_isAsked 29 = .ok (.if_icmp .eq 7, 3) := by decide +kernel
theorem d_Ag_isAsked_32 : decode b_Ag_isAsked 32 = .ok (.iconst 1, 1) := by decide +kernel
theorem d_Ag_isAsked_33 : decode b_Ag_isAsked 33 = .ok (.goto 4, 3) := by decide +kernel
theorem d_Ag_isAsked_36 : decode b_Ag_isAsked 36 = .ok (.iconst 0, 1) := by decide +kernel
theorem d_Ag_isAsked_37 : decode b_Ag_isAsked 37 = .ok (.ireturn, 1) := by decide +kernel
abbrev b_Ag_keyOf : ByteArray := prog_3_method_7_code
def y_Ag_keyOf : MethodName := ⟨R_Ag, "keyOf", "(J)[B"⟩
abbrev k_Ag_keyOf : Cond := .code y_Ag_keyOf b_Ag_keyOf 3 (some (.array .byte))
theorem ki_Ag_keyOf : k_Ag_keyOf ∈ lw_tg := in_t 1456 (by decide +kernel)
theorem ks_Ag_keyOf : Cond.instanceMethod y_Ag_keyOf ∈ lw_tg := in_t 1455 (by decide +kernel)
theorem kx_Ag_keyOf : Cond.selects R_Ag y_Ag_keyOf y_Ag_keyOf ∈ lw_tg := List.mem_filter.mpr ⟨List.mem_append_left _ (List.mem_of_getElem? (i := 54) (by decide +kernel)), rfl⟩
theorem kl_Ag_Ag_keyOf : Cond.methodLink R_Ag 200 y_Ag_keyOf ∈ lw_tg := in_t 1453 (by decide +kernel)
theorem hd_Ag_keyOf : y_Ag_keyOf.cls = R_Ag ∧ y_Ag_keyOf.cls ≠ "java/lang/invoke/MethodHandle" ∧ y_Ag_keyOf.cls ≠ "java/lang/invoke/VarHandle" ∧ (parseMethodDescriptor y_Ag_keyOf.desc).map (fun d => d.parameters.length) = some 1 := by decide +kernel
theorem d_Ag_keyOf_0 : decode b_Ag_keyOf 0 = .ok (.lload_n 1, 1) := by decide +kernel
theorem d_Ag_keyOf_1 : decode b_Ag_keyOf 1 = .ok (.ldc2_w 108, 3) := by decide +kernel
theorem d_Ag_keyOf_4 : decode b_Ag_keyOf 4 = .ok (.lcmp, 1) := by decide +kernel
theorem d_Ag_keyOf_5 : decode b_Ag_keyOf 5 = .ok (.ifCond .ne 10, 3) := by decide +kernel
theorem d_Ag_keyOf_8 : decode b_Ag_keyOf 8 = .ok (.aload_n 0, 1) := by decide +kernel
theorem d_Ag_keyOf_9 : decode b_Ag_keyOf 9 = .ok (.getfield 24, 3) := by decide +kernel
theorem d_Ag_keyOf_12 : decode b_Ag_keyOf 12 = .ok (.goto 7, 3) := by decide +kernel
theorem d_Ag_keyOf_15 : decode b_Ag_keyOf 15 = .ok (.aload_n 0, 1) := by decide +kernel
theorem d_Ag_keyOf_16 : decode b_Ag_keyOf 16 = .ok (.getfield 27, 3) := by decide +kernel
theorem d_Ag_keyOf_19 : decode b_Ag_keyOf 19 = .ok (.areturn, 1) := by decide +kernel
abbrev b_Ag_keepAsked : ByteArray := prog_3_method_8_code
def y_Ag_keepAsked : MethodName := ⟨R_Ag, "keepAsked", "(IIIILRealmHouse$Bytes;)V"⟩
abbrev k_Ag_keepAsked : Cond := .code y_Ag_keepAsked b_Ag_keepAsked 7 none
theorem ki_Ag_keepAsked : k_Ag_keepAsked ∈ lw_tg := in_t 1410 (by decide +kernel)
theorem ks_Ag_keepAsked : Cond.instanceMethod y_Ag_keepAsked ∈ lw_tg := in_t 1408 (by decide +kernel)
theorem kx_Ag_keepAsked : Cond.selects R_Ag y_Ag_keepAsked y_Ag_keepAsked ∈ lw_tg := in_t 1409 (by decide +kernel)
theorem kl_H_Ag_keepAsked : Cond.methodLink R_H 206 y_Ag_keepAsked ∈ lw_tg := in_t 1407 (by decide +kernel)
theorem hd_Ag_keepAsked : y_Ag_keepAsked.cls = R_Ag ∧ y_Ag_keepAsked.cls ≠ "java/lang/invoke/MethodHandle" ∧ y_Ag_keepAsked.cls ≠ "java/lang/invoke/VarHandle" ∧ (parseMethodDescriptor y_Ag_keepAsked.desc).map (fun d => d.parameters.length) = some 5 := by decide +kernel
theorem d_Ag_keepAsked_0 : decode b_Ag_keepAsked 0 = .ok (.iload_n 1, 1) := by decide +kernel
theorem d_Ag_keepAsked_1 : decode b_Ag_keepAsked 1 = .ok (.iconst 2, 1) := by decide +kernel
theorem d_Ag_keepAsked_2 : decode b_Ag_keepAsked 2 = .ok (.if_icmp .ne 15, 3) := by decide +kernel
theorem d_Ag_keepAsked_5 : decode b_Ag_keepAsked 5 = .ok (.aload_n 0, 1) := by decide +kernel
theorem d_Ag_keepAsked_6 : decode b_Ag_keepAsked 6 = .ok (.iload_n 2, 1) := by decide +kernel
theorem d_Ag_keepAsked_7 : decode b_Ag_keepAsked 7 = .ok (.invokevirtual 110, 3) := by decide +kernel
theorem d_Ag_keepAsked_10 : decode b_Ag_keepAsked 10 = .ok (.ifCond .eq 7, 3) := by decide +kernel
theorem d_Ag_keepAsked_13 : decode b_Ag_keepAsked 13 = .ok (.iconst 1, 1) := by decide +kernel
theorem d_Ag_keepAsked_14 : decode b_Ag_keepAsked 14 = .ok (.goto 4, 3) := by decide +kernel
theorem d_Ag_keepAsked_17 : decode b_Ag_keepAsked 17 = .ok (.iconst 0, 1) := by decide +kernel
theorem d_Ag_keepAsked_18 : decode b_Ag_keepAsked 18 = .ok (.istore 6, 2) := by decide +kernel
theorem d_Ag_keepAsked_20 : decode b_Ag_keepAsked 20 = .ok (.aload_n 0, 1) := by decide +kernel
theorem d_Ag_keepAsked_21 : decode b_Ag_keepAsked 21 = .ok (.iload_n 1, 1) := by decide +kernel
theorem d_Ag_keepAsked_22 : decode b_Ag_keepAsked 22 = .ok (.putfield 75, 3) := by decide +kernel
theorem d_Ag_keepAsked_25 : decode b_Ag_keepAsked 25 = .ok (.aload_n 0, 1) := by decide +kernel
theorem d_Ag_keepAsked_26 : decode b_Ag_keepAsked 26 = .ok (.iload 6, 2) := by decide +kernel
theorem d_Ag_keepAsked_28 : decode b_Ag_keepAsked 28 = .ok (.ifCond .eq 13, 3) := by decide +kernel
theorem d_Ag_keepAsked_31 : decode b_Ag_keepAsked 31 = .ok (.iload_n 3, 1) := by decide +kernel
theorem d_Ag_keepAsked_32 : decode b_Ag_keepAsked 32 = .ok (.iconst 2, 1) := by decide +kernel
theorem d_Ag_keepAsked_33 : decode b_Ag_keepAsked 33 = .ok (.iand, 1) := by decide +kernel
theorem d_Ag_keepAsked_34 : decode b_Ag_keepAsked 34 = .ok (.ifCond .eq 7, 3) := by decide +kernel
theorem d_Ag_keepAsked_37 : decode b_Ag_keepAsked 37 = .ok (.iconst 1, 1) := by decide +kernel
theorem d_Ag_keepAsked_38 : decode b_Ag_keepAsked 38 = .ok (.goto 4, 3) := by decide +kernel
theorem d_Ag_keepAsked_41 : decode b_Ag_keepAsked 41 = .ok (.iconst 0, 1) := by decide +kernel
theorem d_Ag_keepAsked_42 : decode b_Ag_keepAsked 42 = .ok (.putfield 114, 3) := by decide +kernel
theorem d_Ag_keepAsked_45 : decode b_Ag_keepAsked 45 = .ok (.aload_n 0, 1) := by decide +kernel
theorem d_Ag_keepAsked_46 : decode b_Ag_keepAsked 46 = .ok (.iload 4, 2) := by decide +kernel
theorem d_Ag_keepAsked_48 : decode b_Ag_keepAsked 48 = .ok (.putfield 105, 3) := by decide +kernel
theorem d_Ag_keepAsked_51 : decode b_Ag_keepAsked 51 = .ok (.aload_n 0, 1) := by decide +kernel
theorem d_Ag_keepAsked_52 : decode b_Ag_keepAsked 52 = .ok (.getfield 33, 3) := by decide +kernel
theorem d_Ag_keepAsked_55 : decode b_Ag_keepAsked 55 = .ok (.aload 5, 2) := by decide +kernel
theorem d_Ag_keepAsked_57 : decode b_Ag_keepAsked 57 = .ok (.invokevirtual 53, 3) := by decide +kernel
theorem d_Ag_keepAsked_60 : decode b_Ag_keepAsked 60 = .ok (.aload_n 0, 1) := by decide +kernel
theorem d_Ag_keepAsked_61 : decode b_Ag_keepAsked 61 = .ok (.getfield 30, 3) := by decide +kernel
theorem d_Ag_keepAsked_64 : decode b_Ag_keepAsked 64 = .ok (.iload 6, 2) := by decide +kernel
theorem d_Ag_keepAsked_66 : decode b_Ag_keepAsked 66 = .ok (.ifCond .eq 15, 3) := by decide +kernel
theorem d_Ag_keepAsked_69 : decode b_Ag_keepAsked 69 = .ok (.aload_n 0, 1) := by decide +kernel
theorem d_Ag_keepAsked_70 : decode b_Ag_keepAsked 70 = .ok (.getfield 48, 3) := by decide +kernel
theorem d_Ag_keepAsked_73 : decode b_Ag_keepAsked 73 = .ok (.iload_n 2, 1) := by decide +kernel
theorem d_Ag_keepAsked_74 : decode b_Ag_keepAsked 74 = .ok (.aaload, 1) := by decide +kernel
theorem d_Ag_keepAsked_75 : decode b_Ag_keepAsked 75 = .ok (.getfield 117, 3) := by decide +kernel
theorem d_Ag_keepAsked_78 : decode b_Ag_keepAsked 78 = .ok (.goto 7, 3) := by decide +kernel
theorem d_Ag_keepAsked_81 : decode b_Ag_keepAsked 81 = .ok (.aload_n 0, 1) := by decide +kernel
theorem d_Ag_keepAsked_82 : decode b_Ag_keepAsked 82 = .ok (.getfield 14, 3) := by decide +kernel
theorem d_Ag_keepAsked_85 : decode b_Ag_keepAsked 85 = .ok (.invokevirtual 53, 3) := by decide +kernel
theorem d_Ag_keepAsked_88 : decode b_Ag_keepAsked 88 = .ok (.aload_n 0, 1) := by decide +kernel
theorem d_Ag_keepAsked_89 : decode b_Ag_keepAsked 89 = .ok (.aload_n 0, 1) := by decide +kernel
theorem d_Ag_keepAsked_90 : decode b_Ag_keepAsked 90 = .ok (.getfield 42, 3) := by decide +kernel
theorem d_Ag_keepAsked_93 : decode b_Ag_keepAsked 93 = .ok (.invokevirtual 118, 3) := by decide +kernel
theorem d_Ag_keepAsked_96 : decode b_Ag_keepAsked 96 = .ok (.ldc 122, 2) := by decide +kernel
theorem d_Ag_keepAsked_98 : decode b_Ag_keepAsked 98 = .ok (.iand, 1) := by decide +kernel
theorem d_Ag_keepAsked_99 : decode b_Ag_keepAsked 99 = .ok (.putfield 123, 3) := by decide +kernel
theorem d_Ag_keepAsked_102 : decode b_Ag_keepAsked 102 = .ok (.aload_n 0, 1) := by decide +kernel
theorem d_Ag_keepAsked_103 : decode b_Ag_keepAsked 103 = .ok (.iload 6, 2) := by decide +kernel
theorem d_Ag_keepAsked_105 : decode b_Ag_keepAsked 105 = .ok (.ifCond .eq 25, 3) := by decide +kernel
theorem d_Ag_keepAsked_108 : decode b_Ag_keepAsked 108 = .ok (.aload_n 0, 1) := by decide +kernel
theorem d_Ag_keepAsked_109 : decode b_Ag_keepAsked 109 = .ok (.getfield 42, 3) := by decide +kernel
theorem d_Ag_keepAsked_112 : decode b_Ag_keepAsked 112 = .ok (.aload_n 0, 1) := by decide +kernel
theorem d_Ag_keepAsked_113 : decode b_Ag_keepAsked 113 = .ok (.getfield 48, 3) := by decide +kernel
theorem d_Ag_keepAsked_116 : decode b_Ag_keepAsked 116 = .ok (.iload_n 2, 1) := by decide +kernel
theorem d_Ag_keepAsked_117 : decode b_Ag_keepAsked 117 = .ok (.aaload, 1) := by decide +kernel
theorem d_Ag_keepAsked_118 : decode b_Ag_keepAsked 118 = .ok (.getfield 126, 3) := by decide +kernel
theorem d_Ag_keepAsked_121 : decode b_Ag_keepAsked 121 = .ok (.invokestatic 129, 3) := by decide +kernel
theorem d_Ag_keepAsked_124 : decode b_Ag_keepAsked 124 = .ok (.invokevirtual 133, 3) := by decide +kernel
theorem d_Ag_keepAsked_127 : decode b_Ag_keepAsked 127 = .ok (.goto 6, 3) := by decide +kernel
theorem d_Ag_keepAsked_130 : decode b_Ag_keepAsked 130 = .ok (.getstatic 20, 3) := by decide +kernel
theorem d_Ag_keepAsked_133 : decode b_Ag_keepAsked 133 = .ok (.putfield 36, 3) := by decide +kernel
theorem d_Ag_keepAsked_136 : decode b_Ag_keepAsked 136 = .ok (.return_, 1) := by decide +kernel
abbrev b_Ag_putBody : ByteArray := prog_3_method_9_code
def y_Ag_putBody : MethodName := ⟨R_Ag, "putBody", "(III)V"⟩
abbrev k_Ag_putBody : Cond := .code y_Ag_putBody b_Ag_putBody 9 none
theorem ki_Ag_putBody : k_Ag_putBody ∈ lw_tg := in_t 1422 (by decide +kernel)
theorem ks_Ag_putBody : Cond.instanceMethod y_Ag_putBody ∈ lw_tg := in_t 1420 (by decide +kernel)
theorem kx_Ag_putBody : Cond.selects R_Ag y_Ag_putBody y_Ag_putBody ∈ lw_tg := in_t 1421 (by decide +kernel)
theorem kl_H_Ag_putBody : Cond.methodLink R_H 210 y_Ag_putBody ∈ lw_tg := in_t 1419 (by decide +kernel)
theorem hd_Ag_putBody : y_Ag_putBody.cls = R_Ag ∧ y_Ag_putBody.cls ≠ "java/lang/invoke/MethodHandle" ∧ y_Ag_putBody.cls ≠ "java/lang/invoke/VarHandle" ∧ (parseMethodDescriptor y_Ag_putBody.desc).map (fun d => d.parameters.length) = some 3 := by decide +kernel
theorem d_Ag_putBody_0 : decode b_Ag_putBody 0 = .ok (.aload_n 0, 1) := by decide +kernel
theorem d_Ag_putBody_1 : decode b_Ag_putBody 1 = .ok (.getfield 42, 3) := by decide +kernel
theorem d_Ag_putBody_4 : decode b_Ag_putBody 4 = .ok (.getfield 137, 3) := by decide +kernel
theorem d_Ag_putBody_7 : decode b_Ag_putBody 7 = .ok (.astore 4, 2) := by decide +kernel
theorem d_Ag_putBody_9 : decode b_Ag_putBody 9 = .ok (.aload 4, 2) := by decide +kernel
theorem d_Ag_putBody_11 : decode b_Ag_putBody 11 = .ok (.invokevirtual 140, 3) := by decide +kernel
theorem d_Ag_putBody_14 : decode b_Ag_putBody 14 = .ok (.aload 4, 2) := by decide +kernel
theorem d_Ag_putBody_16 : decode b_Ag_putBody 16 = .ok (.bipush 48, 2) := by decide +kernel
theorem d_Ag_putBody_18 : decode b_Ag_putBody 18 = .ok (.invokevirtual 143, 3) := by decide +kernel
theorem d_Ag_putBody_21 : decode b_Ag_putBody 21 = .ok (.istore 5, 2) := by decide +kernel
theorem d_Ag_putBody_23 : decode b_Ag_putBody 23 = .ok (.aload 4, 2) := by decide +kernel
theorem d_Ag_putBody_25 : decode b_Ag_putBody 25 = .ok (.iconst 0, 1) := by decide +kernel
theorem d_Ag_putBody_26 : decode b_Ag_putBody 26 = .ok (.iload_n 1, 1) := by decide +kernel
theorem d_Ag_putBody_27 : decode b_Ag_putBody 27 = .ok (.invokevirtual 147, 3) := by decide +kernel
theorem d_Ag_putBody_30 : decode b_Ag_putBody 30 = .ok (.aload_n 0, 1) := by decide +kernel
theorem d_Ag_putBody_31 : decode b_Ag_putBody 31 = .ok (.getfield 75, 3) := by decide +kernel
theorem d_Ag_putBody_34 : decode b_Ag_putBody 34 = .ok (.iconst 2, 1) := by decide +kernel
theorem d_Ag_putBody_35 : decode b_Ag_putBody 35 = .ok (.if_icmp .eq 14, 3) := by decide +kernel
theorem d_Ag_putBody_38 : decode b_Ag_putBody 38 = .ok (.aload 4, 2) := by decide +kernel
theorem d_Ag_putBody_40 : decode b_Ag_putBody 40 = .ok (.iconst 1, 1) := by decide +kernel
theorem d_Ag_putBody_41 : decode b_Ag_putBody 41 = .ok (.iconst 1, 1) := by decide +kernel
theorem d_Ag_putBody_42 : decode b_Ag_putBody 42 = .ok (.aload_n 0, 1) := by decide +kernel
theorem d_Ag_putBody_43 : decode b_Ag_putBody 43 = .ok (.getfield 14, 3) := by decide +kernel
theorem d_Ag_putBody_46 : decode b_Ag_putBody 46 = .ok (.invokevirtual 151, 3) := by decide +kernel
theorem d_Ag_putBody_49 : decode b_Ag_putBody 49 = .ok (.aload 4, 2) := by decide +kernel
theorem d_Ag_putBody_51 : decode b_Ag_putBody 51 = .ok (.iconst 2, 1) := by decide +kernel
theorem d_Ag_putBody_52 : decode b_Ag_putBody 52 = .ok (.invokevirtual 155, 3) := by decide +kernel
theorem d_Ag_putBody_55 : decode b_Ag_putBody 55 = .ok (.aload 4, 2) := by decide +kernel
theorem d_Ag_putBody_57 : decode b_Ag_putBody 57 = .ok (.iconst 3, 1) := by decide +kernel
theorem d_Ag_putBody_58 : decode b_Ag_putBody 58 = .ok (.iconst 2, 1) := by decide +kernel
theorem d_Ag_putBody_59 : decode b_Ag_putBody 59 = .ok (.aload_n 0, 1) := by decide +kernel
theorem d_Ag_putBody_60 : decode b_Ag_putBody 60 = .ok (.getfield 33, 3) := by decide +kernel
theorem d_Ag_putBody_63 : decode b_Ag_putBody 63 = .ok (.invokevirtual 151, 3) := by decide +kernel
theorem d_Ag_putBody_66 : decode b_Ag_putBody 66 = .ok (.aload 4, 2) := by decide +kernel
theorem d_Ag_putBody_68 : decode b_Ag_putBody 68 = .ok (.iconst 5, 1) := by decide +kernel
theorem d_Ag_putBody_69 : decode b_Ag_putBody 69 = .ok (.iload_n 2, 1) := by decide +kernel
theorem d_Ag_putBody_70 : decode b_Ag_putBody 70 = .ok (.ifCond .ne 7, 3) := by decide +kernel
theorem d_Ag_putBody_73 : decode b_Ag_putBody 73 = .ok (.iconst 0, 1) := by decide +kernel
theorem d_Ag_putBody_74 : decode b_Ag_putBody 74 = .ok (.goto 14, 3) := by decide +kernel
theorem d_Ag_putBody_77 : decode b_Ag_putBody 77 = .ok (.ldc 158, 2) := by decide +kernel
theorem d_Ag_putBody_79 : decode b_Ag_putBody 79 = .ok (.aload_n 0, 1) := by decide +kernel
theorem d_Ag_putBody_80 : decode b_Ag_putBody 80 = .ok (.invokevirtual 159, 3) := by decide +kernel
theorem d_Ag_putBody_83 : decode b_Ag_putBody 83 = .ok (.iload_n 2, 1) := by decide +kernel
theorem d_Ag_putBody_84 : decode b_Ag_putBody 84 = .ok (.iadd, 1) := by decide +kernel
theorem d_Ag_putBody_85 : decode b_Ag_putBody 85 = .ok (.invokestatic 94, 3) := by decide +kernel
theorem d_Ag_putBody_88 : decode b_Ag_putBody 88 = .ok (.invokevirtual 162, 3) := by decide +kernel
theorem d_Ag_putBody_91 : decode b_Ag_putBody 91 = .ok (.iload_n 3, 1) := by decide +kernel
theorem d_Ag_putBody_92 : decode b_Ag_putBody 92 = .ok (.ifCond .le 21, 3) := by decide +kernel
theorem d_Ag_putBody_95 : decode b_Ag_putBody 95 = .ok (.aload 4, 2) := by decide +kernel
theorem d_Ag_putBody_97 : decode b_Ag_putBody 97 = .ok (.bipush 6, 2) := by decide +kernel
theorem d_Ag_putBody_99 : decode b_Ag_putBody 99 = .ok (.ldc 158, 2) := by decide +kernel
theorem d_Ag_putBody_101 : decode b_Ag_putBody 101 = .ok (.aload_n 0, 1) := by decide +kernel
theorem d_Ag_putBody_102 : decode b_Ag_putBody 102 = .ok (.invokevirtual 159, 3) := by decide +kernel
theorem d_Ag_putBody_105 : decode b_Ag_putBody 105 = .ok (.iload_n 3, 1) := by decide +kernel
theorem d_Ag_putBody_106 : decode b_Ag_putBody 106 = .ok (.iadd, 1) := by decide +kernel
theorem d_Ag_putBody_107 : decode b_Ag_putBody 107 = .ok (.invokestatic 94, 3) := by decide +kernel
theorem d_Ag_putBody_110 : decode b_Ag_putBody 110 = .ok (.invokevirtual 162, 3) := by decide +kernel
theorem d_Ag_putBody_113 : decode b_Ag_putBody 113 = .ok (.aload 4, 2) := by decide +kernel
theorem d_Ag_putBody_115 : decode b_Ag_putBody 115 = .ok (.bipush 7, 2) := by decide +kernel
theorem d_Ag_putBody_117 : decode b_Ag_putBody 117 = .ok (.aload_n 0, 1) := by decide +kernel
theorem d_Ag_putBody_118 : decode b_Ag_putBody 118 = .ok (.getfield 123, 3) := by decide +kernel
theorem d_Ag_putBody_121 : decode b_Ag_putBody 121 = .ok (.i2l, 1) := by decide +kernel
theorem d_Ag_putBody_122 : decode b_Ag_putBody 122 = .ok (.invokevirtual 165, 3) := by decide +kernel
theorem d_Ag_putBody_125 : decode b_Ag_putBody 125 = .ok (.aload 4, 2) := by decide +kernel
theorem d_Ag_putBody_127 : decode b_Ag_putBody 127 = .ok (.bipush 8, 2) := by decide +kernel
theorem d_Ag_putBody_129 : decode b_Ag_putBody 129 = .ok (.invokevirtual 169, 3) := by decide +kernel
theorem d_Ag_putBody_132 : decode b_Ag_putBody 132 = .ok (.istore 6, 2) := by decide +kernel
theorem d_Ag_putBody_134 : decode b_Ag_putBody 134 = .ok (.aload 4, 2) := by decide +kernel
theorem d_Ag_putBody_136 : decode b_Ag_putBody 136 = .ok (.bipush 48, 2) := by decide +kernel
theorem d_Ag_putBody_138 : decode b_Ag_putBody 138 = .ok (.invokevirtual 143, 3) := by decide +kernel
theorem d_Ag_putBody_141 : decode b_Ag_putBody 141 = .ok (.istore 7, 2) := by decide +kernel
theorem d_Ag_putBody_143 : decode b_Ag_putBody 143 = .ok (.aload_n 0, 1) := by decide +kernel
theorem d_Ag_putBody_144 : decode b_Ag_putBody 144 = .ok (.getfield 105, 3) := by decide +kernel
theorem d_Ag_putBody_147 : decode b_Ag_putBody 147 = .ok (.iconst 1, 1) := by decide +kernel
theorem d_Ag_putBody_148 : decode b_Ag_putBody 148 = .ok (.if_icmp .eq 11, 3) := by decide +kernel
theorem d_Ag_putBody_151 : decode b_Ag_putBody 151 = .ok (.aload_n 0, 1) := by decide +kernel
theorem d_Ag_putBody_152 : decode b_Ag_putBody 152 = .ok (.getfield 105, 3) := by decide +kernel
theorem d_Ag_putBody_155 : decode b_Ag_putBody 155 = .ok (.iconst 3, 1) := by decide +kernel
theorem d_Ag_putBody_156 : decode b_Ag_putBody 156 = .ok (.if_icmp .ne 8, 3) := by decide +kernel
theorem d_Ag_putBody_159 : decode b_Ag_putBody 159 = .ok (.bipush 17, 2) := by decide +kernel
theorem d_Ag_putBody_161 : decode b_Ag_putBody 161 = .ok (.goto 5, 3) := by decide +kernel
theorem d_Ag_putBody_164 : decode b_Ag_putBody 164 = .ok (.bipush 18, 2) := by decide +kernel
theorem d_Ag_putBody_166 : decode b_Ag_putBody 166 = .ok (.istore 8, 2) := by decide +kernel
theorem d_Ag_putBody_168 : decode b_Ag_putBody 168 = .ok (.aload 4, 2) := by decide +kernel
theorem d_Ag_putBody_170 : decode b_Ag_putBody 170 = .ok (.iload 8, 2) := by decide +kernel
theorem d_Ag_putBody_172 : decode b_Ag_putBody 172 = .ok (.i2l, 1) := by decide +kernel
theorem d_Ag_putBody_173 : decode b_Ag_putBody 173 = .ok (.invokevirtual 172, 3) := by decide +kernel
theorem d_Ag_putBody_176 : decode b_Ag_putBody 176 = .ok (.aload_n 0, 1) := by decide +kernel
theorem d_Ag_putBody_177 : decode b_Ag_putBody 177 = .ok (.getfield 105, 3) := by decide +kernel
theorem d_Ag_putBody_180 : decode b_Ag_putBody 180 = .ok (.iconst 2, 1) := by decide +kernel
theorem d_Ag_putBody_181 : decode b_Ag_putBody 181 = .ok (.if_icmp .le 14, 3) := by decide +kernel
theorem d_Ag_putBody_184 : decode b_Ag_putBody 184 = .ok (.aload 4, 2) := by decide +kernel
theorem d_Ag_putBody_186 : decode b_Ag_putBody 186 = .ok (.bipush 35, 2) := by decide +kernel
theorem d_Ag_putBody_188 : decode b_Ag_putBody 188 = .ok (.iload 8, 2) := by decide +kernel
theorem d_Ag_putBody_190 : decode b_Ag_putBody 190 = .ok (.isub, 1) := by decide +kernel
theorem d_Ag_putBody_191 : decode b_Ag_putBody 191 = .ok (.i2l, 1) := by decide +kernel
theorem d_Ag_putBody_192 : decode b_Ag_putBody 192 = .ok (.invokevirtual 172, 3) := by decide +kernel
theorem d_Ag_putBody_195 : decode b_Ag_putBody 195 = .ok (.aload 4, 2) := by decide +kernel
theorem d_Ag_putBody_197 : decode b_Ag_putBody 197 = .ok (.iload 7, 2) := by decide +kernel
theorem d_Ag_putBody_199 : decode b_Ag_putBody 199 = .ok (.invokevirtual 176, 3) := by decide +kernel
theorem d_Ag_putBody_202 : decode b_Ag_putBody 202 = .ok (.aload 4, 2) := by decide +kernel
theorem d_Ag_putBody_204 : decode b_Ag_putBody 204 = .ok (.iload 6, 2) := by decide +kernel
theorem d_Ag_putBody_206 : decode b_Ag_putBody 206 = .ok (.invokevirtual 176, 3) := by decide +kernel
theorem d_Ag_putBody_209 : decode b_Ag_putBody 209 = .ok (.aload 4, 2) := by decide +kernel
theorem d_Ag_putBody_211 : decode b_Ag_putBody 211 = .ok (.iload 5, 2) := by decide +kernel
theorem d_Ag_putBody_213 : decode b_Ag_putBody 213 = .ok (.invokevirtual 176, 3) := by decide +kernel
theorem d_Ag_putBody_216 : decode b_Ag_putBody 216 = .ok (.return_, 1) := by decide +kernel
abbrev b_Ag_putRequest : ByteArray := prog_3_method_10_code
def y_Ag_putRequest : MethodName := ⟨R_Ag, "putRequest", "(ILRealmHouse$Bytes;)V"⟩
abbrev k_Ag_putRequest : Cond := .code y_Ag_putRequest b_Ag_putRequest 11 none
theorem ki_Ag_putRequest : k_Ag_putRequest ∈ lw_tg := in_t 1444 (by decide +kernel)
theorem ks_Ag_putRequest : Cond.instanceMethod y_Ag_putRequest ∈ lw_tg := in_t 1442 (by decide +kernel)
theorem kx_Ag_putRequest : Cond.selects R_Ag y_Ag_putRequest y_Ag_putRequest ∈ lw_tg := in_t 1443 (by decide +kernel)
theorem kl_H_Ag_putRequest : Cond.methodLink R_H 214 y_Ag_putRequest ∈ lw_tg := in_t 1441 (by decide +kernel)
theorem hd_Ag_putRequest : y_Ag_putRequest.cls = R_Ag ∧ y_Ag_putRequest.cls ≠ "java/lang/invoke/MethodHandle" ∧ y_Ag_putRequest.cls ≠ "java/lang/invoke/VarHandle" ∧ (parseMethodDescriptor y_Ag_putRequest.desc).map (fun d => d.parameters.length) = some 2 := by decide +kernel
theorem d_Ag_putRequest_0 : decode b_Ag_putRequest 0 = .ok (.aload_n 0, 1) := by decide +kernel
theorem d_Ag_putRequest_1 : decode b_Ag_putRequest 1 = .ok (.getfield 75, 3) := by decide +kernel
theorem d_Ag_putRequest_4 : decode b_Ag_putRequest 4 = .ok (.iconst 2, 1) := by decide +kernel
theorem d_Ag_putRequest_5 : decode b_Ag_putRequest 5 = .ok (.if_icmp .ne 8, 3) := by decide +kernel
theorem d_Ag_putRequest_8 : decode b_Ag_putRequest 8 = .ok (.bipush 12, 2) := by decide +kernel
theorem d_Ag_putRequest_10 : decode b_Ag_putRequest 10 = .ok (.goto 5, 3) := by decide +kernel
theorem d_Ag_putRequest_13 : decode b_Ag_putRequest 13 = .ok (.bipush 10, 2) := by decide +kernel
theorem d_Ag_putRequest_15 : decode b_Ag_putRequest 15 = .ok (.istore_n 3, 1) := by decide +kernel
theorem d_Ag_putRequest_16 : decode b_Ag_putRequest 16 = .ok (.aload_n 2, 1) := by decide +kernel
theorem d_Ag_putRequest_17 : decode b_Ag_putRequest 17 = .ok (.invokevirtual 140, 3) := by decide +kernel
theorem d_Ag_putRequest_20 : decode b_Ag_putRequest 20 = .ok (.aload_n 2, 1) := by decide +kernel
theorem d_Ag_putRequest_21 : decode b_Ag_putRequest 21 = .ok (.bipush 96, 2) := by decide +kernel
theorem d_Ag_putRequest_23 : decode b_Ag_putRequest 23 = .ok (.iload_n 3, 1) := by decide +kernel
theorem d_Ag_putRequest_24 : decode b_Ag_putRequest 24 = .ok (.iadd, 1) := by decide +kernel
theorem d_Ag_putRequest_25 : decode b_Ag_putRequest 25 = .ok (.invokevirtual 143, 3) := by decide +kernel
theorem d_Ag_putRequest_28 : decode b_Ag_putRequest 28 = .ok (.istore 4, 2) := by decide +kernel
theorem d_Ag_putRequest_30 : decode b_Ag_putRequest 30 = .ok (.aload_n 2, 1) := by decide +kernel
theorem d_Ag_putRequest_31 : decode b_Ag_putRequest 31 = .ok (.bipush 48, 2) := by decide +kernel
theorem d_Ag_putRequest_33 : decode b_Ag_putRequest 33 = .ok (.invokevirtual 143, 3) := by decide +kernel
theorem d_Ag_putRequest_36 : decode b_Ag_putRequest 36 = .ok (.istore 5, 2) := by decide +kernel
theorem d_Ag_putRequest_38 : decode b_Ag_putRequest 38 = .ok (.aload_n 2, 1) := by decide +kernel
theorem d_Ag_putRequest_39 : decode b_Ag_putRequest 39 = .ok (.iconst 1, 1) := by decide +kernel
theorem d_Ag_putRequest_40 : decode b_Ag_putRequest 40 = .ok (.ldc2_w 179, 3) := by decide +kernel
theorem d_Ag_putRequest_43 : decode b_Ag_putRequest 43 = .ok (.invokevirtual 165, 3) := by decide +kernel
theorem d_Ag_putRequest_46 : decode b_Ag_putRequest 46 = .ok (.aload_n 2, 1) := by decide +kernel
theorem d_Ag_putRequest_47 : decode b_Ag_putRequest 47 = .ok (.iconst 2, 1) := by decide +kernel
theorem d_Ag_putRequest_48 : decode b_Ag_putRequest 48 = .ok (.iload_n 3, 1) := by decide +kernel
theorem d_Ag_putRequest_49 : decode b_Ag_putRequest 49 = .ok (.i2l, 1) := by decide +kernel
theorem d_Ag_putRequest_50 : decode b_Ag_putRequest 50 = .ok (.invokevirtual 165, 3) := by decide +kernel
theorem d_Ag_putRequest_53 : decode b_Ag_putRequest 53 = .ok (.aload_n 0, 1) := by decide +kernel
theorem d_Ag_putRequest_54 : decode b_Ag_putRequest 54 = .ok (.getfield 75, 3) := by decide +kernel
theorem d_Ag_putRequest_57 : decode b_Ag_putRequest 57 = .ok (.ifCond .le 144, 3) := by decide +kernel
theorem d_Ag_putRequest_60 : decode b_Ag_putRequest 60 = .ok (.aload_n 2, 1) := by decide +kernel
theorem d_Ag_putRequest_61 : decode b_Ag_putRequest 61 = .ok (.iconst 3, 1) := by decide +kernel
theorem d_Ag_putRequest_62 : decode b_Ag_putRequest 62 = .ok (.invokevirtual 169, 3) := by decide +kernel
theorem d_Ag_putRequest_65 : decode b_Ag_putRequest 65 = .ok (.istore 6, 2) := by decide +kernel
theorem d_Ag_putRequest_67 : decode b_Ag_putRequest 67 = .ok (.aload_n 2, 1) := by decide +kernel
theorem d_Ag_putRequest_68 : decode b_Ag_putRequest 68 = .ok (.bipush 48, 2) := by decide +kernel
theorem d_Ag_putRequest_70 : decode b_Ag_putRequest 70 = .ok (.invokevirtual 143, 3) := by decide +kernel
theorem d_Ag_putRequest_73 : decode b_Ag_putRequest 73 = .ok (.istore 7, 2) := by decide +kernel
theorem d_Ag_putRequest_75 : decode b_Ag_putRequest 75 = .ok (.aload_n 2, 1) := by decide +kernel
theorem d_Ag_putRequest_76 : decode b_Ag_putRequest 76 = .ok (.bipush 48, 2) := by decide +kernel
theorem d_Ag_putRequest_78 : decode b_Ag_putRequest 78 = .ok (.invokevirtual 143, 3) := by decide +kernel
theorem d_Ag_putRequest_81 : decode b_Ag_putRequest 81 = .ok (.istore 8, 2) := by decide +kernel
theorem d_Ag_putRequest_83 : decode b_Ag_putRequest 83 = .ok (.aload_n 2, 1) := by decide +kernel
theorem d_Ag_putRequest_84 : decode b_Ag_putRequest 84 = .ok (.iconst 1, 1) := by decide +kernel
theorem d_Ag_putRequest_85 : decode b_Ag_putRequest 85 = .ok (.iconst 3, 1) := by decide +kernel
theorem d_Ag_putRequest_86 : decode b_Ag_putRequest 86 = .ok (.aload_n 0, 1) := by decide +kernel
theorem d_Ag_putRequest_87 : decode b_Ag_putRequest 87 = .ok (.getfield 75, 3) := by decide +kernel
theorem d_Ag_putRequest_90 : decode b_Ag_putRequest 90 = .ok (.isub, 1) := by decide +kernel
theorem d_Ag_putRequest_91 : decode b_Ag_putRequest 91 = .ok (.i2l, 1) := by decide +kernel
theorem d_Ag_putRequest_92 : decode b_Ag_putRequest 92 = .ok (.invokevirtual 165, 3) := by decide +kernel
theorem d_Ag_putRequest_95 : decode b_Ag_putRequest 95 = .ok (.aload_n 2, 1) := by decide +kernel
theorem d_Ag_putRequest_96 : decode b_Ag_putRequest 96 = .ok (.iconst 2, 1) := by decide +kernel
theorem d_Ag_putRequest_97 : decode b_Ag_putRequest 97 = .ok (.invokevirtual 169, 3) := by decide +kernel
theorem d_Ag_putRequest_100 : decode b_Ag_putRequest 100 = .ok (.istore 9, 2) := by decide +kernel
theorem d_Ag_putRequest_102 : decode b_Ag_putRequest 102 = .ok (.aload_n 2, 1) := by decide +kernel
theorem d_Ag_putRequest_103 : decode b_Ag_putRequest 103 = .ok (.iconst 4, 1) := by decide +kernel
theorem d_Ag_putRequest_104 : decode b_Ag_putRequest 104 = .ok (.invokevirtual 143, 3) := by decide +kernel
theorem d_Ag_putRequest_107 : decode b_Ag_putRequest 107 = .ok (.istore 10, 2) := by decide +kernel
theorem d_Ag_putRequest_109 : decode b_Ag_putRequest 109 = .ok (.aload_n 0, 1) := by decide +kernel
theorem d_Ag_putRequest_110 : decode b_Ag_putRequest 110 = .ok (.getfield 75, 3) := by decide +kernel
theorem d_Ag_putRequest_113 : decode b_Ag_putRequest 113 = .ok (.iconst 1, 1) := by decide +kernel
theorem d_Ag_putRequest_114 : decode b_Ag_putRequest 114 = .ok (.if_icmp .ne 11, 3) := by decide +kernel
theorem d_Ag_putRequest_117 : decode b_Ag_putRequest 117 = .ok (.aload_n 0, 1) := by decide +kernel
theorem d_Ag_putRequest_118 : decode b_Ag_putRequest 118 = .ok (.aload_n 2, 1) := by decide +kernel
theorem d_Ag_putRequest_119 : decode b_Ag_putRequest 119 = .ok (.invokevirtual 181, 3) := by decide +kernel
theorem d_Ag_putRequest_122 : decode b_Ag_putRequest 122 = .ok (.goto 49, 3) := by decide +kernel
theorem d_Ag_putRequest_125 : decode b_Ag_putRequest 125 = .ok (.aload_n 0, 1) := by decide +kernel
theorem d_Ag_putRequest_126 : decode b_Ag_putRequest 126 = .ok (.iload_n 1, 1) := by decide +kernel
theorem d_Ag_putRequest_127 : decode b_Ag_putRequest 127 = .ok (.invokevirtual 110, 3) := by decide +kernel
theorem d_Ag_putRequest_130 : decode b_Ag_putRequest 130 = .ok (.ifCond .eq 41, 3) := by decide +kernel
theorem d_Ag_putRequest_133 : decode b_Ag_putRequest 133 = .ok (.aload_n 0, 1) := by decide +kernel
theorem d_Ag_putRequest_134 : decode b_Ag_putRequest 134 = .ok (.aload_n 0, 1) := by decide +kernel
theorem d_Ag_putRequest_135 : decode b_Ag_putRequest 135 = .ok (.getfield 48, 3) := by decide +kernel
theorem d_Ag_putRequest_138 : decode b_Ag_putRequest 138 = .ok (.iload_n 1, 1) := by decide +kernel
theorem d_Ag_putRequest_139 : decode b_Ag_putRequest 139 = .ok (.aaload, 1) := by decide +kernel
theorem d_Ag_putRequest_140 : decode b_Ag_putRequest 140 = .ok (.aload_n 0, 1) := by decide +kernel
theorem d_Ag_putRequest_141 : decode b_Ag_putRequest 141 = .ok (.getfield 36, 3) := by decide +kernel
theorem d_Ag_putRequest_144 : decode b_Ag_putRequest 144 = .ok (.aload_n 0, 1) := by decide +kernel
theorem d_Ag_putRequest_145 : decode b_Ag_putRequest 145 = .ok (.getfield 42, 3) := by decide +kernel
theorem d_Ag_putRequest_148 : decode b_Ag_putRequest 148 = .ok (.getfield 137, 3) := by decide +kernel
theorem d_Ag_putRequest_151 : decode b_Ag_putRequest 151 = .ok (.ldc2_w 78, 3) := by decide +kernel
theorem d_Ag_putRequest_154 : decode b_Ag_putRequest 154 = .ok (.invokevirtual 184, 3) := by decide +kernel
theorem d_Ag_putRequest_157 : decode b_Ag_putRequest 157 = .ok (.aload_n 0, 1) := by decide +kernel
theorem d_Ag_putRequest_158 : decode b_Ag_putRequest 158 = .ok (.aload_n 0, 1) := by decide +kernel
theorem d_Ag_putRequest_159 : decode b_Ag_putRequest 159 = .ok (.getfield 48, 3) := by decide +kernel
theorem d_Ag_putRequest_162 : decode b_Ag_putRequest 162 = .ok (.iload_n 1, 1) := by decide +kernel
theorem d_Ag_putRequest_163 : decode b_Ag_putRequest 163 = .ok (.aaload, 1) := by decide +kernel
theorem d_Ag_putRequest_164 : decode b_Ag_putRequest 164 = .ok (.iconst 0, 1) := by decide +kernel
theorem d_Ag_putRequest_165 : decode b_Ag_putRequest 165 = .ok (.bipush 7, 2) := by decide +kernel
theorem d_Ag_putRequest_167 : decode b_Ag_putRequest 167 = .ok (.aload_n 2, 1) := by decide +kernel
theorem d_Ag_putRequest_168 : decode b_Ag_putRequest 168 = .ok (.invokevirtual 188, 3) := by decide +kernel
theorem d_Ag_putRequest_171 : decode b_Ag_putRequest 171 = .ok (.aload_n 2, 1) := by decide +kernel
theorem d_Ag_putRequest_172 : decode b_Ag_putRequest 172 = .ok (.iload 10, 2) := by decide +kernel
theorem d_Ag_putRequest_174 : decode b_Ag_putRequest 174 = .ok (.invokevirtual 176, 3) := by decide +kernel
theorem d_Ag_putRequest_177 : decode b_Ag_putRequest 177 = .ok (.aload_n 2, 1) := by decide +kernel
theorem d_Ag_putRequest_178 : decode b_Ag_putRequest 178 = .ok (.iload 9, 2) := by decide +kernel
theorem d_Ag_putRequest_180 : decode b_Ag_putRequest 180 = .ok (.invokevirtual 176, 3) := by decide +kernel
theorem d_Ag_putRequest_183 : decode b_Ag_putRequest 183 = .ok (.aload_n 2, 1) := by decide +kernel
theorem d_Ag_putRequest_184 : decode b_Ag_putRequest 184 = .ok (.iload 8, 2) := by decide +kernel
theorem d_Ag_putRequest_186 : decode b_Ag_putRequest 186 = .ok (.invokevirtual 176, 3) := by decide +kernel
theorem d_Ag_putRequest_189 : decode b_Ag_putRequest 189 = .ok (.aload_n 2, 1) := by decide +kernel
theorem d_Ag_putRequest_190 : decode b_Ag_putRequest 190 = .ok (.iload 7, 2) := by decide +kernel
theorem d_Ag_putRequest_192 : decode b_Ag_putRequest 192 = .ok (.invokevirtual 176, 3) := by decide +kernel
theorem d_Ag_putRequest_195 : decode b_Ag_putRequest 195 = .ok (.aload_n 2, 1) := by decide +kernel
theorem d_Ag_putRequest_196 : decode b_Ag_putRequest 196 = .ok (.iload 6, 2) := by decide +kernel
theorem d_Ag_putRequest_198 : decode b_Ag_putRequest 198 = .ok (.invokevirtual 176, 3) := by decide +kernel
theorem d_Ag_putRequest_201 : decode b_Ag_putRequest 201 = .ok (.aload_n 2, 1) := by decide +kernel
theorem d_Ag_putRequest_202 : decode b_Ag_putRequest 202 = .ok (.iconst 4, 1) := by decide +kernel
theorem d_Ag_putRequest_203 : decode b_Ag_putRequest 203 = .ok (.aload_n 0, 1) := by decide +kernel
theorem d_Ag_putRequest_204 : decode b_Ag_putRequest 204 = .ok (.getfield 42, 3) := by decide +kernel
theorem d_Ag_putRequest_207 : decode b_Ag_putRequest 207 = .ok (.getfield 137, 3) := by decide +kernel
theorem d_Ag_putRequest_210 : decode b_Ag_putRequest 210 = .ok (.iconst 0, 1) := by decide +kernel
theorem d_Ag_putRequest_211 : decode b_Ag_putRequest 211 = .ok (.invokevirtual 192, 3) := by decide +kernel
theorem d_Ag_putRequest_214 : decode b_Ag_putRequest 214 = .ok (.aload_n 2, 1) := by decide +kernel
theorem d_Ag_putRequest_215 : decode b_Ag_putRequest 215 = .ok (.iload 5, 2) := by decide +kernel
theorem d_Ag_putRequest_217 : decode b_Ag_putRequest 217 = .ok (.invokevirtual 176, 3) := by decide +kernel
theorem d_Ag_putRequest_220 : decode b_Ag_putRequest 220 = .ok (.aload_n 2, 1) := by decide +kernel
theorem d_Ag_putRequest_221 : decode b_Ag_putRequest 221 = .ok (.iload 4, 2) := by decide +kernel
theorem d_Ag_putRequest_223 : decode b_Ag_putRequest 223 = .ok (.invokevirtual 176, 3) := by decide +kernel
theorem d_Ag_putRequest_226 : decode b_Ag_putRequest 226 = .ok (.return_, 1) := by decide +kernel
abbrev b_Ag_putShown : ByteArray := prog_3_method_11_code
def y_Ag_putShown : MethodName := ⟨R_Ag, "putShown", "(LRealmHouse$Bytes;)V"⟩
abbrev k_Ag_putShown : Cond := .code y_Ag_putShown b_Ag_putShown 4 none
theorem ki_Ag_putShown : k_Ag_putShown ∈ lw_tg := in_t 1449 (by decide +kernel)
theorem ks_Ag_putShown : Cond.instanceMethod y_Ag_putShown ∈ lw_tg := in_t 1448 (by decide +kernel)
theorem kx_Ag_putShown : Cond.selects R_Ag y_Ag_putShown y_Ag_putShown ∈ lw_tg := List.mem_filter.mpr ⟨List.mem_append_left _ (List.mem_of_getElem? (i := 53) (by decide +kernel)), rfl⟩
theorem kl_Ag_Ag_putShown : Cond.methodLink R_Ag 181 y_Ag_putShown ∈ lw_tg := in_t 1446 (by decide +kernel)
theorem hd_Ag_putShown : y_Ag_putShown.cls = R_Ag ∧ y_Ag_putShown.cls ≠ "java/lang/invoke/MethodHandle" ∧ y_Ag_putShown.cls ≠ "java/lang/invoke/VarHandle" ∧ (parseMethodDescriptor y_Ag_putShown.desc).map (fun d => d.parameters.length) = some 1 := by decide +kernel
theorem d_Ag_putShown_0 : decode b_Ag_putShown 0 = .ok (.aload_n 0, 1) := by decide +kernel
theorem d_Ag_putShown_1 : decode b_Ag_putShown 1 = .ok (.getfield 42, 3) := by decide +kernel
theorem d_Ag_putShown_4 : decode b_Ag_putShown 4 = .ok (.getfield 196, 3) := by decide +kernel
theorem d_Ag_putShown_7 : decode b_Ag_putShown 7 = .ok (.astore_n 2, 1) := by decide +kernel
theorem d_Ag_putShown_8 : decode b_Ag_putShown 8 = .ok (.aload_n 2, 1) := by decide +kernel
theorem d_Ag_putShown_9 : decode b_Ag_putShown 9 = .ok (.invokevirtual 140, 3) := by decide +kernel
theorem d_Ag_putShown_12 : decode b_Ag_putShown 12 = .ok (.aload_n 2, 1) := by decide +kernel
theorem d_Ag_putShown_13 : decode b_Ag_putShown 13 = .ok (.bipush 48, 2) := by decide +kernel
theorem d_Ag_putShown_15 : decode b_Ag_putShown 15 = .ok (.invokevirtual 143, 3) := by decide +kernel
theorem d_Ag_putShown_18 : decode b_Ag_putShown 18 = .ok (.istore_n 3, 1) := by decide +kernel
theorem d_Ag_putShown_19 : decode b_Ag_putShown 19 = .ok (.aload_n 2, 1) := by decide +kernel
theorem d_Ag_putShown_20 : decode b_Ag_putShown 20 = .ok (.iconst 0, 1) := by decide +kernel
theorem d_Ag_putShown_21 : decode b_Ag_putShown 21 = .ok (.aload_n 0, 1) := by decide +kernel
theorem d_Ag_putShown_22 : decode b_Ag_putShown 22 = .ok (.invokevirtual 159, 3) := by decide +kernel
theorem d_Ag_putShown_25 : decode b_Ag_putShown 25 = .ok (.invokevirtual 162, 3) := by decide +kernel
theorem d_Ag_putShown_28 : decode b_Ag_putShown 28 = .ok (.aload_n 2, 1) := by decide +kernel
theorem d_Ag_putShown_29 : decode b_Ag_putShown 29 = .ok (.iconst 1, 1) := by decide +kernel
theorem d_Ag_putShown_30 : decode b_Ag_putShown 30 = .ok (.aload_n 0, 1) := by decide +kernel
theorem d_Ag_putShown_31 : decode b_Ag_putShown 31 = .ok (.getfield 72, 3) := by decide +kernel
theorem d_Ag_putShown_34 : decode b_Ag_putShown 34 = .ok (.ldc 199, 2) := by decide +kernel
theorem d_Ag_putShown_36 : decode b_Ag_putShown 36 = .ok (.irem, 1) := by decide +kernel
theorem d_Ag_putShown_37 : decode b_Ag_putShown 37 = .ok (.i2l, 1) := by decide +kernel
theorem d_Ag_putShown_38 : decode b_Ag_putShown 38 = .ok (.invokevirtual 165, 3) := by decide +kernel
theorem d_Ag_putShown_41 : decode b_Ag_putShown 41 = .ok (.aload_n 2, 1) := by decide +kernel
theorem d_Ag_putShown_42 : decode b_Ag_putShown 42 = .ok (.iload_n 3, 1) := by decide +kernel
theorem d_Ag_putShown_43 : decode b_Ag_putShown 43 = .ok (.invokevirtual 176, 3) := by decide +kernel
theorem d_Ag_putShown_46 : decode b_Ag_putShown 46 = .ok (.aload_n 0, 1) := by decide +kernel
theorem d_Ag_putShown_47 : decode b_Ag_putShown 47 = .ok (.dup, 1) := by decide +kernel
theorem d_Ag_putShown_48 : decode b_Ag_putShown 48 = .ok (.getfield 72, 3) := by decide +kernel
theorem d_Ag_putShown_51 : decode b_Ag_putShown 51 = .ok (.iconst 1, 1) := by decide +kernel
theorem d_Ag_putShown_52 : decode b_Ag_putShown 52 = .ok (.iadd, 1) := by decide +kernel
theorem d_Ag_putShown_53 : decode b_Ag_putShown 53 = .ok (.putfield 72, 3) := by decide +kernel
theorem d_Ag_putShown_56 : decode b_Ag_putShown 56 = .ok (.aload_n 0, 1) := by decide +kernel
theorem d_Ag_putShown_57 : decode b_Ag_putShown 57 = .ok (.getfield 42, 3) := by decide +kernel
theorem d_Ag_putShown_60 : decode b_Ag_putShown 60 = .ok (.aload_n 1, 1) := by decide +kernel
theorem d_Ag_putShown_61 : decode b_Ag_putShown 61 = .ok (.aload_n 0, 1) := by decide +kernel
theorem d_Ag_putShown_62 : decode b_Ag_putShown 62 = .ok (.aload_n 0, 1) := by decide +kernel
theorem d_Ag_putShown_63 : decode b_Ag_putShown 63 = .ok (.getfield 105, 3) := by decide +kernel
theorem d_Ag_putShown_66 : decode b_Ag_putShown 66 = .ok (.iconst 1, 1) := by decide +kernel
theorem d_Ag_putShown_67 : decode b_Ag_putShown 67 = .ok (.if_icmp .eq 11, 3) := by decide +kernel
theorem d_Ag_putShown_70 : decode b_Ag_putShown 70 = .ok (.aload_n 0, 1) := by decide +kernel
theorem d_Ag_putShown_71 : decode b_Ag_putShown 71 = .ok (.getfield 105, 3) := by decide +kernel
theorem d_Ag_putShown_74 : decode b_Ag_putShown 74 = .ok (.iconst 3, 1) := by decide +kernel
theorem d_Ag_putShown_75 : decode b_Ag_putShown 75 = .ok (.if_icmp .ne 9, 3) := by decide +kernel
theorem d_Ag_putShown_78 : decode b_Ag_putShown 78 = .ok (.ldc2_w 103, 3) := by decide +kernel
theorem d_Ag_putShown_81 : decode b_Ag_putShown 81 = .ok (.goto 6, 3) := by decide +kernel
theorem d_Ag_putShown_84 : decode b_Ag_putShown 84 = .ok (.ldc2_w 108, 3) := by decide +kernel
theorem d_Ag_putShown_87 : decode b_Ag_putShown 87 = .ok (.invokevirtual 200, 3) := by decide +kernel
theorem d_Ag_putShown_90 : decode b_Ag_putShown 90 = .ok (.iconst 1, 1) := by decide +kernel
theorem d_Ag_putShown_91 : decode b_Ag_putShown 91 = .ok (.iconst 0, 1) := by decide +kernel
theorem d_Ag_putShown_92 : decode b_Ag_putShown 92 = .ok (.invokevirtual 204, 3) := by decide +kernel
theorem d_Ag_putShown_95 : decode b_Ag_putShown 95 = .ok (.return_, 1) := by decide +kernel
abbrev b_Ag_putAuthenticator : ByteArray := prog_3_method_12_code
def y_Ag_putAuthenticator : MethodName := ⟨R_Ag, "putAuthenticator", "(LRealmHouse$Ticket;[BLRealmHouse$Bytes;J)V"⟩
abbrev k_Ag_putAuthenticator : Cond := .code y_Ag_putAuthenticator b_Ag_putAuthenticator 9 none
theorem ki_Ag_putAuthenticator : k_Ag_putAuthenticator ∈ lw_tg := in_t 1461 (by decide +kernel)
theorem ks_Ag_putAuthenticator : Cond.instanceMethod y_Ag_putAuthenticator ∈ lw_tg := in_t 1460 (by decide +kernel)
theorem kx_Ag_putAuthenticator : Cond.selects R_Ag y_Ag_putAuthenticator y_Ag_putAuthenticator ∈ lw_tg := List.mem_filter.mpr ⟨List.mem_append_left _ (List.mem_of_getElem? (i := 55) (by decide +kernel)), rfl⟩
theorem kl_Ag_Ag_putAuthenticator : Cond.methodLink R_Ag 184 y_Ag_putAuthenticator ∈ lw_tg := in_t 1458 (by decide +kernel)
theorem hd_Ag_putAuthenticator : y_Ag_putAuthenticator.cls = R_Ag ∧ y_Ag_putAuthenticator.cls ≠ "java/lang/invoke/MethodHandle" ∧ y_Ag_putAuthenticator.cls ≠ "java/lang/invoke/VarHandle" ∧ (parseMethodDescriptor y_Ag_putAuthenticator.desc).map (fun d => d.parameters.length) = some 4 := by decide +kernel
theorem d_Ag_putAuthenticator_0 : decode b_Ag_putAuthenticator 0 = .ok (.aload_n 0, 1) := by decide +kernel
theorem d_Ag_putAuthenticator_1 : decode b_Ag_putAuthenticator 1 = .ok (.getfield 42, 3) := by decide +kernel
theorem d_Ag_putAuthenticator_4 : decode b_Ag_putAuthenticator 4 = .ok (.getfield 196, 3) := by decide +kernel
theorem d_Ag_putAuthenticator_7 : decode b_Ag_putAuthenticator 7 = .ok (.astore 6, 2) := by decide +kernel
theorem d_Ag_putAuthenticator_9 : decode b_Ag_putAuthenticator 9 = .ok (.aload 6, 2) := by decide +kernel
theorem d_Ag_putAuthenticator_11 : decode b_Ag_putAuthenticator 11 = .ok (.invokevirtual 140, 3) := by decide +kernel
theorem d_Ag_putAuthenticator_14 : decode b_Ag_putAuthenticator 14 = .ok (.aload 6, 2) := by decide +kernel
theorem d_Ag_putAuthenticator_16 : decode b_Ag_putAuthenticator 16 = .ok (.bipush 98, 2) := by decide +kernel
theorem d_Ag_putAuthenticator_18 : decode b_Ag_putAuthenticator 18 = .ok (.invokevirtual 143, 3) := by decide +kernel
theorem d_Ag_putAuthenticator_21 : decode b_Ag_putAuthenticator 21 = .ok (.istore 7, 2) := by decide +kernel
theorem d_Ag_putAuthenticator_23 : decode b_Ag_putAuthenticator 23 = .ok (.aload 6, 2) := by decide +kernel
theorem d_Ag_putAuthenticator_25 : decode b_Ag_putAuthenticator 25 = .ok (.bipush 48, 2) := by decide +kernel
theorem d_Ag_putAuthenticator_27 : decode b_Ag_putAuthenticator 27 = .ok (.invokevirtual 143, 3) := by decide +kernel
theorem d_Ag_putAuthenticator_30 : decode b_Ag_putAuthenticator 30 = .ok (.istore 8, 2) := by decide +kernel
theorem d_Ag_putAuthenticator_32 : decode b_Ag_putAuthenticator 32 = .ok (.aload 6, 2) := by decide +kernel
theorem d_Ag_putAuthenticator_34 : decode b_Ag_putAuthenticator 34 = .ok (.iconst 0, 1) := by decide +kernel
theorem d_Ag_putAuthenticator_35 : decode b_Ag_putAuthenticator 35 = .ok (.ldc2_w 179, 3) := by decide +kernel
theorem d_Ag_putAuthenticator_38 : decode b_Ag_putAuthenticator 38 = .ok (.invokevirtual 165, 3) := by decide +kernel
theorem d_Ag_putAuthenticator_41 : decode b_Ag_putAuthenticator 41 = .ok (.aload 6, 2) := by decide +kernel
theorem d_Ag_putAuthenticator_43 : decode b_Ag_putAuthenticator 43 = .ok (.iconst 1, 1) := by decide +kernel
theorem d_Ag_putAuthenticator_44 : decode b_Ag_putAuthenticator 44 = .ok (.invokevirtual 155, 3) := by decide +kernel
theorem d_Ag_putAuthenticator_47 : decode b_Ag_putAuthenticator 47 = .ok (.aload 6, 2) := by decide +kernel
theorem d_Ag_putAuthenticator_49 : decode b_Ag_putAuthenticator 49 = .ok (.iconst 2, 1) := by decide +kernel
theorem d_Ag_putAuthenticator_50 : decode b_Ag_putAuthenticator 50 = .ok (.aload_n 1, 1) := by decide +kernel
theorem d_Ag_putAuthenticator_51 : decode b_Ag_putAuthenticator 51 = .ok (.getfield 208, 3) := by decide +kernel
theorem d_Ag_putAuthenticator_54 : decode b_Ag_putAuthenticator 54 = .ok (.aload_n 1, 1) := by decide +kernel
theorem d_Ag_putAuthenticator_55 : decode b_Ag_putAuthenticator 55 = .ok (.getfield 117, 3) := by decide +kernel
theorem d_Ag_putAuthenticator_58 : decode b_Ag_putAuthenticator 58 = .ok (.invokevirtual 151, 3) := by decide +kernel
theorem d_Ag_putAuthenticator_61 : decode b_Ag_putAuthenticator 61 = .ok (.aload_n 3, 1) := by decide +kernel
theorem d_Ag_putAuthenticator_62 : decode b_Ag_putAuthenticator 62 = .ok (.getfield 211, 3) := by decide +kernel
theorem d_Ag_putAuthenticator_65 : decode b_Ag_putAuthenticator 65 = .ok (.ifCond .le 35, 3) := by decide +kernel
theorem d_Ag_putAuthenticator_68 : decode b_Ag_putAuthenticator 68 = .ok (.aload_n 0, 1) := by decide +kernel
theorem d_Ag_putAuthenticator_69 : decode b_Ag_putAuthenticator 69 = .ok (.getfield 42, 3) := by decide +kernel
theorem d_Ag_putAuthenticator_72 : decode b_Ag_putAuthenticator 72 = .ok (.aload_n 1, 1) := by decide +kernel
theorem d_Ag_putAuthenticator_73 : decode b_Ag_putAuthenticator 73 = .ok (.getfield 126, 3) := by decide +kernel
theorem d_Ag_putAuthenticator_76 : decode b_Ag_putAuthenticator 76 = .ok (.bipush 6, 2) := by decide +kernel
theorem d_Ag_putAuthenticator_78 : decode b_Ag_putAuthenticator 78 = .ok (.aload_n 3, 1) := by decide +kernel
theorem d_Ag_putAuthenticator_79 : decode b_Ag_putAuthenticator 79 = .ok (.iconst 0, 1) := by decide +kernel
theorem d_Ag_putAuthenticator_80 : decode b_Ag_putAuthenticator 80 = .ok (.aload_n 3, 1) := by decide +kernel
theorem d_Ag_putAuthenticator_81 : decode b_Ag_putAuthenticator 81 = .ok (.getfield 211, 3) := by decide +kernel
theorem d_Ag_putAuthenticator_84 : decode b_Ag_putAuthenticator 84 = .ok (.invokevirtual 214, 3) := by decide +kernel
theorem d_Ag_putAuthenticator_87 : decode b_Ag_putAuthenticator 87 = .ok (.aload_n 0, 1) := by decide +kernel
theorem d_Ag_putAuthenticator_88 : decode b_Ag_putAuthenticator 88 = .ok (.getfield 42, 3) := by decide +kernel
theorem d_Ag_putAuthenticator_91 : decode b_Ag_putAuthenticator 91 = .ok (.aload 6, 2) := by decide +kernel
theorem d_Ag_putAuthenticator_93 : decode b_Ag_putAuthenticator 93 = .ok (.aload_n 1, 1) := by decide +kernel
theorem d_Ag_putAuthenticator_94 : decode b_Ag_putAuthenticator 94 = .ok (.getfield 126, 3) := by decide +kernel
theorem d_Ag_putAuthenticator_97 : decode b_Ag_putAuthenticator 97 = .ok (.invokevirtual 218, 3) := by decide +kernel
theorem d_Ag_putAuthenticator_100 : decode b_Ag_putAuthenticator 100 = .ok (.aload 6, 2) := by decide +kernel
theorem d_Ag_putAuthenticator_102 : decode b_Ag_putAuthenticator 102 = .ok (.iconst 4, 1) := by decide +kernel
theorem d_Ag_putAuthenticator_103 : decode b_Ag_putAuthenticator 103 = .ok (.aload_n 0, 1) := by decide +kernel
theorem d_Ag_putAuthenticator_104 : decode b_Ag_putAuthenticator 104 = .ok (.getfield 72, 3) := by decide +kernel
theorem d_Ag_putAuthenticator_107 : decode b_Ag_putAuthenticator 107 = .ok (.ldc 199, 2) := by decide +kernel
theorem d_Ag_putAuthenticator_109 : decode b_Ag_putAuthenticator 109 = .ok (.irem, 1) := by decide +kernel
theorem d_Ag_putAuthenticator_110 : decode b_Ag_putAuthenticator 110 = .ok (.i2l, 1) := by decide +kernel
theorem d_Ag_putAuthenticator_111 : decode b_Ag_putAuthenticator 111 = .ok (.invokevirtual 165, 3) := by decide +kernel
theorem d_Ag_putAuthenticator_114 : decode b_Ag_putAuthenticator 114 = .ok (.aload 6, 2) := by decide +kernel
theorem d_Ag_putAuthenticator_116 : decode b_Ag_putAuthenticator 116 = .ok (.iconst 5, 1) := by decide +kernel
theorem d_Ag_putAuthenticator_117 : decode b_Ag_putAuthenticator 117 = .ok (.aload_n 0, 1) := by decide +kernel
theorem d_Ag_putAuthenticator_118 : decode b_Ag_putAuthenticator 118 = .ok (.invokevirtual 159, 3) := by decide +kernel
theorem d_Ag_putAuthenticator_121 : decode b_Ag_putAuthenticator 121 = .ok (.invokevirtual 162, 3) := by decide +kernel
theorem d_Ag_putAuthenticator_124 : decode b_Ag_putAuthenticator 124 = .ok (.aload_n 2, 1) := by decide +kernel
theorem d_Ag_putAuthenticator_125 : decode b_Ag_putAuthenticator 125 = .ok (.arraylength, 1) := by decide +kernel
theorem d_Ag_putAuthenticator_126 : decode b_Ag_putAuthenticator 126 = .ok (.ifCond .le 11, 3) := by decide +kernel
theorem d_Ag_putAuthenticator_129 : decode b_Ag_putAuthenticator 129 = .ok (.aload 6, 2) := by decide +kernel
theorem d_Ag_putAuthenticator_131 : decode b_Ag_putAuthenticator 131 = .ok (.bipush 6, 2) := by decide +kernel
theorem d_Ag_putAuthenticator_133 : decode b_Ag_putAuthenticator 133 = .ok (.aload_n 2, 1) := by decide +kernel
theorem d_Ag_putAuthenticator_134 : decode b_Ag_putAuthenticator 134 = .ok (.invokevirtual 222, 3) := by decide +kernel
theorem d_Ag_putAuthenticator_137 : decode b_Ag_putAuthenticator 137 = .ok (.lload 4, 2) := by decide +kernel
theorem d_Ag_putAuthenticator_139 : decode b_Ag_putAuthenticator 139 = .ok (.lconst 0, 1) := by decide +kernel
theorem d_Ag_putAuthenticator_140 : decode b_Ag_putAuthenticator 140 = .ok (.lcmp, 1) := by decide +kernel
theorem d_Ag_putAuthenticator_141 : decode b_Ag_putAuthenticator 141 = .ok (.ifCond .lt 12, 3) := by decide +kernel
theorem d_Ag_putAuthenticator_144 : decode b_Ag_putAuthenticator 144 = .ok (.aload 6, 2) := by decide +kernel
theorem d_Ag_putAuthenticator_146 : decode b_Ag_putAuthenticator 146 = .ok (.bipush 7, 2) := by decide +kernel
theorem d_Ag_putAuthenticator_148 : decode b_Ag_putAuthenticator 148 = .ok (.lload 4, 2) := by decide +kernel
theorem d_Ag_putAuthenticator_150 : decode b_Ag_putAuthenticator 150 = .ok (.invokevirtual 165, 3) := by decide +kernel
theorem d_Ag_putAuthenticator_153 : decode b_Ag_putAuthenticator 153 = .ok (.aload 6, 2) := by decide +kernel
theorem d_Ag_putAuthenticator_155 : decode b_Ag_putAuthenticator 155 = .ok (.iload 8, 2) := by decide +kernel
theorem d_Ag_putAuthenticator_157 : decode b_Ag_putAuthenticator 157 = .ok (.invokevirtual 176, 3) := by decide +kernel
theorem d_Ag_putAuthenticator_160 : decode b_Ag_putAuthenticator 160 = .ok (.aload 6, 2) := by decide +kernel
theorem d_Ag_putAuthenticator_162 : decode b_Ag_putAuthenticator 162 = .ok (.iload 7, 2) := by decide +kernel
theorem d_Ag_putAuthenticator_164 : decode b_Ag_putAuthenticator 164 = .ok (.invokevirtual 176, 3) := by decide +kernel
theorem d_Ag_putAuthenticator_167 : decode b_Ag_putAuthenticator 167 = .ok (.aload_n 0, 1) := by decide +kernel
theorem d_Ag_putAuthenticator_168 : decode b_Ag_putAuthenticator 168 = .ok (.dup, 1) := by decide +kernel
theorem d_Ag_putAuthenticator_169 : decode b_Ag_putAuthenticator 169 = .ok (.getfield 72, 3) := by decide +kernel
theorem d_Ag_putAuthenticator_172 : decode b_Ag_putAuthenticator 172 = .ok (.iconst 1, 1) := by decide +kernel
theorem d_Ag_putAuthenticator_173 : decode b_Ag_putAuthenticator 173 = .ok (.iadd, 1) := by decide +kernel
theorem d_Ag_putAuthenticator_174 : decode b_Ag_putAuthenticator 174 = .ok (.putfield 72, 3) := by decide +kernel
theorem d_Ag_putAuthenticator_177 : decode b_Ag_putAuthenticator 177 = .ok (.return_, 1) := by decide +kernel
abbrev b_Ag_putApReq : ByteArray := prog_3_method_13_code
def y_Ag_putApReq : MethodName := ⟨R_Ag, "putApReq", "(LRealmHouse$Ticket;IILRealmHouse$Bytes;)V"⟩
abbrev k_Ag_putApReq : Cond := .code y_Ag_putApReq b_Ag_putApReq 8 none
theorem ki_Ag_putApReq : k_Ag_putApReq ∈ lw_tg := in_t 1472 (by decide +kernel)
theorem ks_Ag_putApReq : Cond.instanceMethod y_Ag_putApReq ∈ lw_tg := in_t 1471 (by decide +kernel)
theorem kx_Ag_putApReq : Cond.selects R_Ag y_Ag_putApReq y_Ag_putApReq ∈ lw_tg := List.mem_filter.mpr ⟨List.mem_append_left _ (List.mem_of_getElem? (i := 56) (by decide +kernel)), rfl⟩
theorem kl_Ag_Ag_putApReq : Cond.methodLink R_Ag 188 y_Ag_putApReq ∈ lw_tg := in_t 1469 (by decide +kernel)
theorem hd_Ag_putApReq : y_Ag_putApReq.cls = R_Ag ∧ y_Ag_putApReq.cls ≠ "java/lang/invoke/MethodHandle" ∧ y_Ag_putApReq.cls ≠ "java/lang/invoke/VarHandle" ∧ (parseMethodDescriptor y_Ag_putApReq.desc).map (fun d => d.parameters.length) = some 4 := by decide +kernel
theorem d_Ag_putApReq_0 : decode b_Ag_putApReq 0 = .ok (.aload 4, 2) := by decide +kernel
theorem d_Ag_putApReq_2 : decode b_Ag_putApReq 2 = .ok (.bipush 110, 2) := by decide +kernel
theorem d_Ag_putApReq_4 : decode b_Ag_putApReq 4 = .ok (.invokevirtual 143, 3) := by decide +kernel
theorem d_Ag_putApReq_7 : decode b_Ag_putApReq 7 = .ok (.istore 5, 2) := by decide +kernel
theorem d_Ag_putApReq_9 : decode b_Ag_putApReq 9 = .ok (.aload 4, 2) := by decide +kernel
theorem d_Ag_putApReq_11 : decode b_Ag_putApReq 11 = .ok (.bipush 48, 2) := by decide +kernel
theorem d_Ag_putApReq_13 : decode b_Ag_putApReq 13 = .ok (.invokevirtual 143, 3) := by decide +kernel
theorem d_Ag_putApReq_16 : decode b_Ag_putApReq 16 = .ok (.istore 6, 2) := by decide +kernel
theorem d_Ag_putApReq_18 : decode b_Ag_putApReq 18 = .ok (.aload 4, 2) := by decide +kernel
theorem d_Ag_putApReq_20 : decode b_Ag_putApReq 20 = .ok (.iconst 0, 1) := by decide +kernel
theorem d_Ag_putApReq_21 : decode b_Ag_putApReq 21 = .ok (.ldc2_w 179, 3) := by decide +kernel
theorem d_Ag_putApReq_24 : decode b_Ag_putApReq 24 = .ok (.invokevirtual 165, 3) := by decide +kernel
theorem d_Ag_putApReq_27 : decode b_Ag_putApReq 27 = .ok (.aload 4, 2) := by decide +kernel
theorem d_Ag_putApReq_29 : decode b_Ag_putApReq 29 = .ok (.iconst 1, 1) := by decide +kernel
theorem d_Ag_putApReq_30 : decode b_Ag_putApReq 30 = .ok (.ldc2_w 226, 3) := by decide +kernel
theorem d_Ag_putApReq_33 : decode b_Ag_putApReq 33 = .ok (.invokevirtual 165, 3) := by decide +kernel
theorem d_Ag_putApReq_36 : decode b_Ag_putApReq 36 = .ok (.aload 4, 2) := by decide +kernel
theorem d_Ag_putApReq_38 : decode b_Ag_putApReq 38 = .ok (.iconst 2, 1) := by decide +kernel
theorem d_Ag_putApReq_39 : decode b_Ag_putApReq 39 = .ok (.iload_n 2, 1) := by decide +kernel
theorem d_Ag_putApReq_40 : decode b_Ag_putApReq 40 = .ok (.invokevirtual 147, 3) := by decide +kernel
theorem d_Ag_putApReq_43 : decode b_Ag_putApReq 43 = .ok (.aload 4, 2) := by decide +kernel
theorem d_Ag_putApReq_45 : decode b_Ag_putApReq 45 = .ok (.iconst 3, 1) := by decide +kernel
theorem d_Ag_putApReq_46 : decode b_Ag_putApReq 46 = .ok (.aload_n 1, 1) := by decide +kernel
theorem d_Ag_putApReq_47 : decode b_Ag_putApReq 47 = .ok (.getfield 228, 3) := by decide +kernel
theorem d_Ag_putApReq_50 : decode b_Ag_putApReq 50 = .ok (.iconst 0, 1) := by decide +kernel
theorem d_Ag_putApReq_51 : decode b_Ag_putApReq 51 = .ok (.invokevirtual 192, 3) := by decide +kernel
theorem d_Ag_putApReq_54 : decode b_Ag_putApReq 54 = .ok (.aload 4, 2) := by decide +kernel
theorem d_Ag_putApReq_56 : decode b_Ag_putApReq 56 = .ok (.iconst 4, 1) := by decide +kernel
theorem d_Ag_putApReq_57 : decode b_Ag_putApReq 57 = .ok (.invokevirtual 169, 3) := by decide +kernel
theorem d_Ag_putApReq_60 : decode b_Ag_putApReq 60 = .ok (.istore 7, 2) := by decide +kernel
theorem d_Ag_putApReq_62 : decode b_Ag_putApReq 62 = .ok (.aload_n 0, 1) := by decide +kernel
theorem d_Ag_putApReq_63 : decode b_Ag_putApReq 63 = .ok (.getfield 42, 3) := by decide +kernel
theorem d_Ag_putApReq_66 : decode b_Ag_putApReq 66 = .ok (.aload 4, 2) := by decide +kernel
theorem d_Ag_putApReq_68 : decode b_Ag_putApReq 68 = .ok (.aload_n 1, 1) := by decide +kernel
theorem d_Ag_putApReq_69 : decode b_Ag_putApReq 69 = .ok (.getfield 126, 3) := by decide +kernel
theorem d_Ag_putApReq_72 : decode b_Ag_putApReq 72 = .ok (.iload_n 3, 1) := by decide +kernel
theorem d_Ag_putApReq_73 : decode b_Ag_putApReq 73 = .ok (.iconst 0, 1) := by decide +kernel
theorem d_Ag_putApReq_74 : decode b_Ag_putApReq 74 = .ok (.invokevirtual 204, 3) := by decide +kernel
theorem d_Ag_putApReq_77 : decode b_Ag_putApReq 77 = .ok (.aload 4, 2) := by decide +kernel
theorem d_Ag_putApReq_79 : decode b_Ag_putApReq 79 = .ok (.iload 7, 2) := by decide +kernel
theorem d_Ag_putApReq_81 : decode b_Ag_putApReq 81 = .ok (.invokevirtual 176, 3) := by decide +kernel
theorem d_Ag_putApReq_84 : decode b_Ag_putApReq 84 = .ok (.aload 4, 2) := by decide +kernel
theorem d_Ag_putApReq_86 : decode b_Ag_putApReq 86 = .ok (.iload 6, 2) := by decide +kernel
theorem d_Ag_putApReq_88 : decode b_Ag_putApReq 88 = .ok (.invokevirtual 176, 3) := by decide +kernel
theorem d_Ag_putApReq_91 : decode b_Ag_putApReq 91 = .ok (.aload 4, 2) := by decide +kernel
theorem d_Ag_putApReq_93 : decode b_Ag_putApReq 93 = .ok (.iload 5, 2) := by decide +kernel
theorem d_Ag_putApReq_95 : decode b_Ag_putApReq 95 = .ok (.invokevirtual 176, 3) := by decide +kernel
theorem d_Ag_putApReq_98 : decode b_Ag_putApReq 98 = .ok (.return_, 1) := by decide +kernel
abbrev b_Ag_goWith : ByteArray := prog_3_method_14_code
def y_Ag_goWith : MethodName := ⟨R_Ag, "goWith", "(LRealmHouse$Ticket;ILRealmHouse$Bytes;)V"⟩
abbrev k_Ag_goWith : Cond := .code y_Ag_goWith b_Ag_goWith 5 none
theorem ki_Ag_goWith : k_Ag_goWith ∈ lw_tg := in_t 1554 (by decide +kernel)
theorem ks_Ag_goWith : Cond.instanceMethod y_Ag_goWith ∈ lw_tg := in_t 1552 (by decide +kernel)
theorem kx_Ag_goWith : Cond.selects R_Ag y_Ag_goWith y_Ag_goWith ∈ lw_tg := in_t 1553 (by decide +kernel)
theorem kl_H_Ag_goWith : Cond.methodLink R_H 235 y_Ag_goWith ∈ lw_tg := in_t 1551 (by decide +kernel)
theorem hd_Ag_goWith : y_Ag_goWith.cls = R_Ag ∧ y_Ag_goWith.cls ≠ "java/lang/invoke/MethodHandle" ∧ y_Ag_goWith.cls ≠ "java/lang/invoke/VarHandle" ∧ (parseMethodDescriptor y_Ag_goWith.desc).map (fun d => d.parameters.length) = some 3 := by decide +kernel
theorem d_Ag_goWith_0 : decode b_Ag_goWith 0 = .ok (.iload_n 2, 1) := by decide +kernel
theorem d_Ag_goWith_1 : decode b_Ag_goWith 1 = .ok (.iconst 2, 1) := by decide +kernel
theorem d_Ag_goWith_2 : decode b_Ag_goWith 2 = .ok (.iand, 1) := by decide +kernel
theorem d_Ag_goWith_3 : decode b_Ag_goWith 3 = .ok (.ifCond .eq 20, 3) := by decide +kernel
theorem d_Ag_goWith_6 : decode b_Ag_goWith 6 = .ok (.aload_n 0, 1) := by decide +kernel
theorem d_Ag_goWith_7 : decode b_Ag_goWith 7 = .ok (.getfield 42, 3) := by decide +kernel
theorem d_Ag_goWith_10 : decode b_Ag_goWith 10 = .ok (.aload_n 1, 1) := by decide +kernel
theorem d_Ag_goWith_11 : decode b_Ag_goWith 11 = .ok (.getfield 126, 3) := by decide +kernel
theorem d_Ag_goWith_14 : decode b_Ag_goWith 14 = .ok (.invokestatic 129, 3) := by decide +kernel
theorem d_Ag_goWith_17 : decode b_Ag_goWith 17 = .ok (.invokevirtual 133, 3) := by decide +kernel
theorem d_Ag_goWith_20 : decode b_Ag_goWith 20 = .ok (.goto 6, 3) := by decide +kernel
theorem d_Ag_goWith_23 : decode b_Ag_goWith 23 = .ok (.getstatic 20, 3) := by decide +kernel
theorem d_Ag_goWith_26 : decode b_Ag_goWith 26 = .ok (.astore 4, 2) := by decide +kernel
theorem d_Ag_goWith_28 : decode b_Ag_goWith 28 = .ok (.aload_n 0, 1) := by decide +kernel
theorem d_Ag_goWith_29 : decode b_Ag_goWith 29 = .ok (.iload_n 2, 1) := by decide +kernel
theorem d_Ag_goWith_30 : decode b_Ag_goWith 30 = .ok (.iconst 1, 1) := by decide +kernel
theorem d_Ag_goWith_31 : decode b_Ag_goWith 31 = .ok (.iand, 1) := by decide +kernel
theorem d_Ag_goWith_32 : decode b_Ag_goWith 32 = .ok (.ifCond .eq 7, 3) := by decide +kernel
theorem d_Ag_goWith_35 : decode b_Ag_goWith 35 = .ok (.iconst 1, 1) := by decide +kernel
theorem d_Ag_goWith_36 : decode b_Ag_goWith 36 = .ok (.goto 4, 3) := by decide +kernel
theorem d_Ag_goWith_39 : decode b_Ag_goWith 39 = .ok (.iconst 0, 1) := by decide +kernel
theorem d_Ag_goWith_40 : decode b_Ag_goWith 40 = .ok (.putfield 87, 3) := by decide +kernel
theorem d_Ag_goWith_43 : decode b_Ag_goWith 43 = .ok (.aload_n 0, 1) := by decide +kernel
theorem d_Ag_goWith_44 : decode b_Ag_goWith 44 = .ok (.aload_n 0, 1) := by decide +kernel
theorem d_Ag_goWith_45 : decode b_Ag_goWith 45 = .ok (.invokevirtual 159, 3) := by decide +kernel
theorem d_Ag_goWith_48 : decode b_Ag_goWith 48 = .ok (.putfield 231, 3) := by decide +kernel
theorem d_Ag_goWith_51 : decode b_Ag_goWith 51 = .ok (.aload_n 0, 1) := by decide +kernel
theorem d_Ag_goWith_52 : decode b_Ag_goWith 52 = .ok (.aload_n 0, 1) := by decide +kernel
theorem d_Ag_goWith_53 : decode b_Ag_goWith 53 = .ok (.getfield 72, 3) := by decide +kernel
theorem d_Ag_goWith_56 : decode b_Ag_goWith 56 = .ok (.ldc 199, 2) := by decide +kernel
theorem d_Ag_goWith_58 : decode b_Ag_goWith 58 = .ok (.irem, 1) := by decide +kernel
theorem d_Ag_goWith_59 : decode b_Ag_goWith 59 = .ok (.putfield 234, 3) := by decide +kernel
theorem d_Ag_goWith_62 : decode b_Ag_goWith 62 = .ok (.aload_n 0, 1) := by decide +kernel
theorem d_Ag_goWith_63 : decode b_Ag_goWith 63 = .ok (.aload_n 0, 1) := by decide +kernel
theorem d_Ag_goWith_64 : decode b_Ag_goWith 64 = .ok (.getfield 42, 3) := by decide +kernel
theorem d_Ag_goWith_67 : decode b_Ag_goWith 67 = .ok (.invokevirtual 118, 3) := by decide +kernel
theorem d_Ag_goWith_70 : decode b_Ag_goWith 70 = .ok (.ldc 237, 2) := by decide +kernel
theorem d_Ag_goWith_72 : decode b_Ag_goWith 72 = .ok (.iand, 1) := by decide +kernel
theorem d_Ag_goWith_73 : decode b_Ag_goWith 73 = .ok (.i2l, 1) := by decide +kernel
theorem d_Ag_goWith_74 : decode b_Ag_goWith 74 = .ok (.putfield 80, 3) := by decide +kernel
theorem d_Ag_goWith_77 : decode b_Ag_goWith 77 = .ok (.aload_n 0, 1) := by decide +kernel
theorem d_Ag_goWith_78 : decode b_Ag_goWith 78 = .ok (.aload_n 1, 1) := by decide +kernel
theorem d_Ag_goWith_79 : decode b_Ag_goWith 79 = .ok (.getfield 126, 3) := by decide +kernel
theorem d_Ag_goWith_82 : decode b_Ag_goWith 82 = .ok (.putfield 39, 3) := by decide +kernel
theorem d_Ag_goWith_85 : decode b_Ag_goWith 85 = .ok (.aload_n 0, 1) := by decide +kernel
theorem d_Ag_goWith_86 : decode b_Ag_goWith 86 = .ok (.lconst 0, 1) := by decide +kernel
theorem d_Ag_goWith_87 : decode b_Ag_goWith 87 = .ok (.putfield 84, 3) := by decide +kernel
theorem d_Ag_goWith_90 : decode b_Ag_goWith 90 = .ok (.aload_n 0, 1) := by decide +kernel
theorem d_Ag_goWith_91 : decode b_Ag_goWith 91 = .ok (.getfield 42, 3) := by decide +kernel
theorem d_Ag_goWith_94 : decode b_Ag_goWith 94 = .ok (.getfield 137, 3) := by decide +kernel
theorem d_Ag_goWith_97 : decode b_Ag_goWith 97 = .ok (.invokevirtual 140, 3) := by decide +kernel
theorem d_Ag_goWith_100 : decode b_Ag_goWith 100 = .ok (.aload_n 0, 1) := by decide +kernel
theorem d_Ag_goWith_101 : decode b_Ag_goWith 101 = .ok (.aload_n 1, 1) := by decide +kernel
theorem d_Ag_goWith_102 : decode b_Ag_goWith 102 = .ok (.aload 4, 2) := by decide +kernel
theorem d_Ag_goWith_104 : decode b_Ag_goWith 104 = .ok (.aload_n 0, 1) := by decide +kernel
theorem d_Ag_goWith_105 : decode b_Ag_goWith 105 = .ok (.getfield 42, 3) := by decide +kernel
theorem d_Ag_goWith_108 : decode b_Ag_goWith 108 = .ok (.getfield 137, 3) := by decide +kernel
theorem d_Ag_goWith_111 : decode b_Ag_goWith 111 = .ok (.aload_n 0, 1) := by decide +kernel
theorem d_Ag_goWith_112 : decode b_Ag_goWith 112 = .ok (.getfield 80, 3) := by decide +kernel
theorem d_Ag_goWith_115 : decode b_Ag_goWith 115 = .ok (.invokevirtual 184, 3) := by decide +kernel
theorem d_Ag_goWith_118 : decode b_Ag_goWith 118 = .ok (.aload_n 3, 1) := by decide +kernel
theorem d_Ag_goWith_119 : decode b_Ag_goWith 119 = .ok (.invokevirtual 140, 3) := by decide +kernel
theorem d_Ag_goWith_122 : decode b_Ag_goWith 122 = .ok (.aload_n 0, 1) := by decide +kernel
theorem d_Ag_goWith_123 : decode b_Ag_goWith 123 = .ok (.aload_n 1, 1) := by decide +kernel
theorem d_Ag_goWith_124 : decode b_Ag_goWith 124 = .ok (.aload_n 0, 1) := by decide +kernel
theorem d_Ag_goWith_125 : decode b_Ag_goWith 125 = .ok (.getfield 87, 3) := by decide +kernel
theorem d_Ag_goWith_128 : decode b_Ag_goWith 128 = .ok (.ifCond .eq 8, 3) := by decide +kernel
theorem d_Ag_goWith_131 : decode b_Ag_goWith 131 = .ok (.ldc 238, 2) := by decide +kernel
theorem d_Ag_goWith_133 : decode b_Ag_goWith 133 = .ok (.goto 4, 3) := by decide +kernel
theorem d_Ag_goWith_136 : decode b_Ag_goWith 136 = .ok (.iconst 0, 1) := by decide +kernel
theorem d_Ag_goWith_137 : decode b_Ag_goWith 137 = .ok (.bipush 11, 2) := by decide +kernel
theorem d_Ag_goWith_139 : decode b_Ag_goWith 139 = .ok (.aload_n 3, 1) := by decide +kernel
theorem d_Ag_goWith_140 : decode b_Ag_goWith 140 = .ok (.invokevirtual 188, 3) := by decide +kernel
theorem d_Ag_goWith_143 : decode b_Ag_goWith 143 = .ok (.return_, 1) := by decide +kernel
abbrev b_Ag_hearReply : ByteArray := prog_3_method_15_code
def y_Ag_hearReply : MethodName := ⟨R_Ag, "hearReply", "(LRealmHouse$Bytes;)I"⟩
abbrev k_Ag_hearReply : Cond := .code y_Ag_hearReply b_Ag_hearReply 6 (some .int)
theorem ki_Ag_hearReply : k_Ag_hearReply ∈ lw_tg := in_t 1482 (by decide +kernel)
theorem ks_Ag_hearReply : Cond.instanceMethod y_Ag_hearReply ∈ lw_tg := in_t 1480 (by decide +kernel)
theorem kx_Ag_hearReply : Cond.selects R_Ag y_Ag_hearReply y_Ag_hearReply ∈ lw_tg := in_t 1481 (by decide +kernel)
theorem kl_H_Ag_hearReply : Cond.methodLink R_H 218 y_Ag_hearReply ∈ lw_tg := in_t 1479 (by decide +kernel)
theorem hd_Ag_hearReply : y_Ag_hearReply.cls = R_Ag ∧ y_Ag_hearReply.cls ≠ "java/lang/invoke/MethodHandle" ∧ y_Ag_hearReply.cls ≠ "java/lang/invoke/VarHandle" ∧ (parseMethodDescriptor y_Ag_hearReply.desc).map (fun d => d.parameters.length) = some 1 := by decide +kernel
theorem d_Ag_hearReply_0 : decode b_Ag_hearReply 0 = .ok (.aload_n 0, 1) := by decide +kernel
theorem d_Ag_hearReply_1 : decode b_Ag_hearReply 1 = .ok (.getfield 75, 3) := by decide +kernel
theorem d_Ag_hearReply_4 : decode b_Ag_hearReply 4 = .ok (.ifCond .ge 6, 3) := by decide +kernel
theorem d_Ag_hearReply_7 : decode b_Ag_hearReply 7 = .ok (.bipush (-3), 2) := by decide +kernel
theorem d_Ag_hearReply_9 : decode b_Ag_hearReply 9 = .ok (.ireturn, 1) := by decide +kernel
theorem d_Ag_hearReply_10 : decode b_Ag_hearReply 10 = .ok (.aload_n 0, 1) := by decide +kernel
theorem d_Ag_hearReply_11 : decode b_Ag_hearReply 11 = .ok (.getfield 75, 3) := by decide +kernel
theorem d_Ag_hearReply_14 : decode b_Ag_hearReply 14 = .ok (.istore_n 2, 1) := by decide +kernel
theorem d_Ag_hearReply_15 : decode b_Ag_hearReply 15 = .ok (.aload_n 0, 1) := by decide +kernel
theorem d_Ag_hearReply_16 : decode b_Ag_hearReply 16 = .ok (.iconst (-1), 1) := by decide +kernel
theorem d_Ag_hearReply_17 : decode b_Ag_hearReply 17 = .ok (.putfield 75, 3) := by decide +kernel
theorem d_Ag_hearReply_20 : decode b_Ag_hearReply 20 = .ok (.aload_n 1, 1) := by decide +kernel
theorem d_Ag_hearReply_21 : decode b_Ag_hearReply 21 = .ok (.iconst 0, 1) := by decide +kernel
theorem d_Ag_hearReply_22 : decode b_Ag_hearReply 22 = .ok (.invokevirtual 239, 3) := by decide +kernel
theorem d_Ag_hearReply_25 : decode b_Ag_hearReply 25 = .ok (.istore_n 3, 1) := by decide +kernel
theorem d_Ag_hearReply_26 : decode b_Ag_hearReply 26 = .ok (.iload_n 3, 1) := by decide +kernel
theorem d_Ag_hearReply_27 : decode b_Ag_hearReply 27 = .ok (.bipush 107, 2) := by decide +kernel
theorem d_Ag_hearReply_29 : decode b_Ag_hearReply 29 = .ok (.if_icmp .eq 15, 3) := by decide +kernel
theorem d_Ag_hearReply_32 : decode b_Ag_hearReply 32 = .ok (.iload_n 3, 1) := by decide +kernel
theorem d_Ag_hearReply_33 : decode b_Ag_hearReply 33 = .ok (.bipush 109, 2) := by decide +kernel
theorem d_Ag_hearReply_35 : decode b_Ag_hearReply 35 = .ok (.if_icmp .eq 9, 3) := by decide +kernel
theorem d_Ag_hearReply_38 : decode b_Ag_hearReply 38 = .ok (.iload_n 3, 1) := by decide +kernel
theorem d_Ag_hearReply_39 : decode b_Ag_hearReply 39 = .ok (.bipush 126, 2) := by decide +kernel
theorem d_Ag_hearReply_41 : decode b_Ag_hearReply 41 = .ok (.if_icmp .ne 20, 3) := by decide +kernel
theorem d_Ag_hearReply_44 : decode b_Ag_hearReply 44 = .ok (.aload_n 1, 1) := by decide +kernel
theorem d_Ag_hearReply_45 : decode b_Ag_hearReply 45 = .ok (.sipush 256, 3) := by decide +kernel
theorem d_Ag_hearReply_48 : decode b_Ag_hearReply 48 = .ok (.iload_n 3, 1) := by decide +kernel
theorem d_Ag_hearReply_49 : decode b_Ag_hearReply 49 = .ok (.iadd, 1) := by decide +kernel
theorem d_Ag_hearReply_50 : decode b_Ag_hearReply 50 = .ok (.iconst 0, 1) := by decide +kernel
theorem d_Ag_hearReply_51 : decode b_Ag_hearReply 51 = .ok (.aload_n 1, 1) := by decide +kernel
theorem d_Ag_hearReply_52 : decode b_Ag_hearReply 52 = .ok (.getfield 211, 3) := by decide +kernel
theorem d_Ag_hearReply_55 : decode b_Ag_hearReply 55 = .ok (.invokevirtual 242, 3) := by decide +kernel
theorem d_Ag_hearReply_58 : decode b_Ag_hearReply 58 = .ok (.ifCond .ne 6, 3) := by decide +kernel
theorem d_Ag_hearReply_61 : decode b_Ag_hearReply 61 = .ok (.bipush (-60), 2) := by decide +kernel
theorem d_Ag_hearReply_63 : decode b_Ag_hearReply 63 = .ok (.ireturn, 1) := by decide +kernel
theorem d_Ag_hearReply_64 : decode b_Ag_hearReply 64 = .ok (.iload_n 3, 1) := by decide +kernel
theorem d_Ag_hearReply_65 : decode b_Ag_hearReply 65 = .ok (.bipush 126, 2) := by decide +kernel
theorem d_Ag_hearReply_67 : decode b_Ag_hearReply 67 = .ok (.if_icmp .ne 42, 3) := by decide +kernel
theorem d_Ag_hearReply_70 : decode b_Ag_hearReply 70 = .ok (.aload_n 1, 1) := by decide +kernel
theorem d_Ag_hearReply_71 : decode b_Ag_hearReply 71 = .ok (.aload_n 1, 1) := by decide +kernel
theorem d_Ag_hearReply_72 : decode b_Ag_hearReply 72 = .ok (.iconst 0, 1) := by decide +kernel
theorem d_Ag_hearReply_73 : decode b_Ag_hearReply 73 = .ok (.bipush 6, 2) := by decide +kernel
theorem d_Ag_hearReply_75 : decode b_Ag_hearReply 75 = .ok (.invokevirtual 246, 3) := by decide +kernel
theorem d_Ag_hearReply_78 : decode b_Ag_hearReply 78 = .ok (.invokevirtual 249, 3) := by decide +kernel
theorem d_Ag_hearReply_81 : decode b_Ag_hearReply 81 = .ok (.lstore 4, 2) := by decide +kernel
theorem d_Ag_hearReply_83 : decode b_Ag_hearReply 83 = .ok (.lload 4, 2) := by decide +kernel
theorem d_Ag_hearReply_85 : decode b_Ag_hearReply 85 = .ok (.lconst 1, 1) := by decide +kernel
theorem d_Ag_hearReply_86 : decode b_Ag_hearReply 86 = .ok (.lcmp, 1) := by decide +kernel
theorem d_Ag_hearReply_87 : decode b_Ag_hearReply 87 = .ok (.ifCond .lt 12, 3) := by decide +kernel
theorem d_Ag_hearReply_90 : decode b_Ag_hearReply 90 = .ok (.lload 4, 2) := by decide +kernel
theorem d_Ag_hearReply_92 : decode b_Ag_hearReply 92 = .ok (.ldc2_w 253, 3) := by decide +kernel
theorem d_Ag_hearReply_95 : decode b_Ag_hearReply 95 = .ok (.lcmp, 1) := by decide +kernel
theorem d_Ag_hearReply_96 : decode b_Ag_hearReply 96 = .ok (.ifCond .le 8, 3) := by decide +kernel
theorem d_Ag_hearReply_99 : decode b_Ag_hearReply 99 = .ok (.bipush (-60), 2) := by decide +kernel
theorem d_Ag_hearReply_101 : decode b_Ag_hearReply 101 = .ok (.goto 7, 3) := by decide +kernel
theorem d_Ag_hearReply_104 : decode b_Ag_hearReply 104 = .ok (.lload 4, 2) := by decide +kernel
theorem d_Ag_hearReply_106 : decode b_Ag_hearReply 106 = .ok (.lneg, 1) := by decide +kernel
theorem d_Ag_hearReply_107 : decode b_Ag_hearReply 107 = .ok (.l2i, 1) := by decide +kernel
theorem d_Ag_hearReply_108 : decode b_Ag_hearReply 108 = .ok (.ireturn, 1) := by decide +kernel
theorem d_Ag_hearReply_109 : decode b_Ag_hearReply 109 = .ok (.iload_n 3, 1) := by decide +kernel
theorem d_Ag_hearReply_110 : decode b_Ag_hearReply 110 = .ok (.iload_n 2, 1) := by decide +kernel
theorem d_Ag_hearReply_111 : decode b_Ag_hearReply 111 = .ok (.iconst 2, 1) := by decide +kernel
theorem d_Ag_hearReply_112 : decode b_Ag_hearReply 112 = .ok (.if_icmp .ne 8, 3) := by decide +kernel
theorem d_Ag_hearReply_115 : decode b_Ag_hearReply 115 = .ok (.bipush 109, 2) := by decide +kernel
theorem d_Ag_hearReply_117 : decode b_Ag_hearReply 117 = .ok (.goto 5, 3) := by decide +kernel
theorem d_Ag_hearReply_120 : decode b_Ag_hearReply 120 = .ok (.bipush 107, 2) := by decide +kernel
theorem d_Ag_hearReply_122 : decode b_Ag_hearReply 122 = .ok (.if_icmp .eq 6, 3) := by decide +kernel
theorem d_Ag_hearReply_125 : decode b_Ag_hearReply 125 = .ok (.bipush (-40), 2) := by decide +kernel
theorem d_Ag_hearReply_127 : decode b_Ag_hearReply 127 = .ok (.ireturn, 1) := by decide +kernel
theorem d_Ag_hearReply_128 : decode b_Ag_hearReply 128 = .ok (.aload_n 0, 1) := by decide +kernel
theorem d_Ag_hearReply_129 : decode b_Ag_hearReply 129 = .ok (.iload_n 2, 1) := by decide +kernel
theorem d_Ag_hearReply_130 : decode b_Ag_hearReply 130 = .ok (.aload_n 1, 1) := by decide +kernel
theorem d_Ag_hearReply_131 : decode b_Ag_hearReply 131 = .ok (.invokevirtual 255, 3) := by decide +kernel
theorem d_Ag_hearReply_134 : decode b_Ag_hearReply 134 = .ok (.istore 4, 2) := by decide +kernel
theorem d_Ag_hearReply_136 : decode b_Ag_hearReply 136 = .ok (.iload 4, 2) := by decide +kernel
theorem d_Ag_hearReply_138 : decode b_Ag_hearReply 138 = .ok (.ifCond .ge 8, 3) := by decide +kernel
theorem d_Ag_hearReply_141 : decode b_Ag_hearReply 141 = .ok (.iload 4, 2) := by decide +kernel
theorem d_Ag_hearReply_143 : decode b_Ag_hearReply 143 = .ok (.goto 8, 3) := by decide +kernel
theorem d_Ag_hearReply_146 : decode b_Ag_hearReply 146 = .ok (.aload_n 0, 1) := by decide +kernel
theorem d_Ag_hearReply_147 : decode b_Ag_hearReply 147 = .ok (.aload_n 1, 1) := by decide +kernel
theorem d_Ag_hearReply_148 : decode b_Ag_hearReply 148 = .ok (.invokevirtual 259, 3) := by decide +kernel
theorem d_Ag_hearReply_151 : decode b_Ag_hearReply 151 = .ok (.ireturn, 1) := by decide +kernel
abbrev b_Ag_openReply : ByteArray := prog_3_method_16_code
def y_Ag_openReply : MethodName := ⟨R_Ag, "openReply", "(ILRealmHouse$Bytes;)I"⟩
abbrev k_Ag_openReply : Cond := .code y_Ag_openReply b_Ag_openReply 10 (some .int)
theorem ki_Ag_openReply : k_Ag_openReply ∈ lw_tg := in_t 1491 (by decide +kernel)
theorem ks_Ag_openReply : Cond.instanceMethod y_Ag_openReply ∈ lw_tg := in_t 1490 (by decide +kernel)
theorem kx_Ag_openReply : Cond.selects R_Ag y_Ag_openReply y_Ag_openReply ∈ lw_tg := List.mem_filter.mpr ⟨List.mem_append_left _ (List.mem_of_getElem? (i := 57) (by decide +kernel)), rfl⟩
theorem kl_Ag_Ag_openReply : Cond.methodLink R_Ag 255 y_Ag_openReply ∈ lw_tg := in_t 1488 (by decide +kernel)
theorem hd_Ag_openReply : y_Ag_openReply.cls = R_Ag ∧ y_Ag_openReply.cls ≠ "java/lang/invoke/MethodHandle" ∧ y_Ag_openReply.cls ≠ "java/lang/invoke/VarHandle" ∧ (parseMethodDescriptor y_Ag_openReply.desc).map (fun d => d.parameters.length) = some 2 := by decide +kernel
theorem d_Ag_openReply_0 : decode b_Ag_openReply 0 = .ok (.aload_n 2, 1) := by decide +kernel
theorem d_Ag_openReply_1 : decode b_Ag_openReply 1 = .ok (.iconst 0, 1) := by decide +kernel
theorem d_Ag_openReply_2 : decode b_Ag_openReply 2 = .ok (.bipush 6, 2) := by decide +kernel
theorem d_Ag_openReply_4 : decode b_Ag_openReply 4 = .ok (.invokevirtual 246, 3) := by decide +kernel
theorem d_Ag_openReply_7 : decode b_Ag_openReply 7 = .ok (.istore_n 3, 1) := by decide +kernel
theorem d_Ag_openReply_8 : decode b_Ag_openReply 8 = .ok (.aload_n 2, 1) := by decide +kernel
theorem d_Ag_openReply_9 : decode b_Ag_openReply 9 = .ok (.aload_n 2, 1) := by decide +kernel
theorem d_Ag_openReply_10 : decode b_Ag_openReply 10 = .ok (.iload_n 3, 1) := by decide +kernel
theorem d_Ag_openReply_11 : decode b_Ag_openReply 11 = .ok (.iconst 0, 1) := by decide +kernel
theorem d_Ag_openReply_12 : decode b_Ag_openReply 12 = .ok (.invokevirtual 246, 3) := by decide +kernel
theorem d_Ag_openReply_15 : decode b_Ag_openReply 15 = .ok (.invokevirtual 249, 3) := by decide +kernel
theorem d_Ag_openReply_18 : decode b_Ag_openReply 18 = .ok (.lstore 4, 2) := by decide +kernel
theorem d_Ag_openReply_20 : decode b_Ag_openReply 20 = .ok (.iload_n 1, 1) := by decide +kernel
theorem d_Ag_openReply_21 : decode b_Ag_openReply 21 = .ok (.iconst 2, 1) := by decide +kernel
theorem d_Ag_openReply_22 : decode b_Ag_openReply 22 = .ok (.if_icmp .ne 20, 3) := by decide +kernel
theorem d_Ag_openReply_25 : decode b_Ag_openReply 25 = .ok (.lload 4, 2) := by decide +kernel
theorem d_Ag_openReply_27 : decode b_Ag_openReply 27 = .ok (.aload_n 0, 1) := by decide +kernel
theorem d_Ag_openReply_28 : decode b_Ag_openReply 28 = .ok (.getfield 36, 3) := by decide +kernel
theorem d_Ag_openReply_31 : decode b_Ag_openReply 31 = .ok (.invokestatic 129, 3) := by decide +kernel
theorem d_Ag_openReply_34 : decode b_Ag_openReply 34 = .ok (.i2l, 1) := by decide +kernel
theorem d_Ag_openReply_35 : decode b_Ag_openReply 35 = .ok (.lcmp, 1) := by decide +kernel
theorem d_Ag_openReply_36 : decode b_Ag_openReply 36 = .ok (.ifCond .eq 18, 3) := by decide +kernel
theorem d_Ag_openReply_39 : decode b_Ag_openReply 39 = .ok (.goto 12, 3) := by decide +kernel
theorem d_Ag_openReply_42 : decode b_Ag_openReply 42 = .ok (.aload_n 0, 1) := by decide +kernel
theorem d_Ag_openReply_43 : decode b_Ag_openReply 43 = .ok (.lload 4, 2) := by decide +kernel
theorem d_Ag_openReply_45 : decode b_Ag_openReply 45 = .ok (.invokevirtual 263, 3) := by decide +kernel
theorem d_Ag_openReply_48 : decode b_Ag_openReply 48 = .ok (.ifCond .ne 6, 3) := by decide +kernel
theorem d_Ag_openReply_51 : decode b_Ag_openReply 51 = .ok (.bipush (-14), 2) := by decide +kernel
theorem d_Ag_openReply_53 : decode b_Ag_openReply 53 = .ok (.ireturn, 1) := by decide +kernel
theorem d_Ag_openReply_54 : decode b_Ag_openReply 54 = .ok (.iload_n 1, 1) := by decide +kernel
theorem d_Ag_openReply_55 : decode b_Ag_openReply 55 = .ok (.iconst 2, 1) := by decide +kernel
theorem d_Ag_openReply_56 : decode b_Ag_openReply 56 = .ok (.if_icmp .ne 10, 3) := by decide +kernel
theorem d_Ag_openReply_59 : decode b_Ag_openReply 59 = .ok (.aload_n 0, 1) := by decide +kernel
theorem d_Ag_openReply_60 : decode b_Ag_openReply 60 = .ok (.getfield 36, 3) := by decide +kernel
theorem d_Ag_openReply_63 : decode b_Ag_openReply 63 = .ok (.goto 9, 3) := by decide +kernel
theorem d_Ag_openReply_66 : decode b_Ag_openReply 66 = .ok (.aload_n 0, 1) := by decide +kernel
theorem d_Ag_openReply_67 : decode b_Ag_openReply 67 = .ok (.lload 4, 2) := by decide +kernel
theorem d_Ag_openReply_69 : decode b_Ag_openReply 69 = .ok (.invokevirtual 200, 3) := by decide +kernel
theorem d_Ag_openReply_72 : decode b_Ag_openReply 72 = .ok (.astore 6, 2) := by decide +kernel
theorem d_Ag_openReply_74 : decode b_Ag_openReply 74 = .ok (.iload_n 1, 1) := by decide +kernel
theorem d_Ag_openReply_75 : decode b_Ag_openReply 75 = .ok (.iconst 2, 1) := by decide +kernel
theorem d_Ag_openReply_76 : decode b_Ag_openReply 76 = .ok (.if_icmp .ne 8, 3) := by decide +kernel
theorem d_Ag_openReply_79 : decode b_Ag_openReply 79 = .ok (.bipush 9, 2) := by decide +kernel
theorem d_Ag_openReply_81 : decode b_Ag_openReply 81 = .ok (.goto 4, 3) := by decide +kernel
theorem d_Ag_openReply_84 : decode b_Ag_openReply 84 = .ok (.iconst 3, 1) := by decide +kernel
theorem d_Ag_openReply_85 : decode b_Ag_openReply 85 = .ok (.istore 7, 2) := by decide +kernel
theorem d_Ag_openReply_87 : decode b_Ag_openReply 87 = .ok (.aload_n 0, 1) := by decide +kernel
theorem d_Ag_openReply_88 : decode b_Ag_openReply 88 = .ok (.getfield 42, 3) := by decide +kernel
theorem d_Ag_openReply_91 : decode b_Ag_openReply 91 = .ok (.getfield 196, 3) := by decide +kernel
theorem d_Ag_openReply_94 : decode b_Ag_openReply 94 = .ok (.astore 8, 2) := by decide +kernel
theorem d_Ag_openReply_96 : decode b_Ag_openReply 96 = .ok (.aload_n 0, 1) := by decide +kernel
theorem d_Ag_openReply_97 : decode b_Ag_openReply 97 = .ok (.getfield 42, 3) := by decide +kernel
theorem d_Ag_openReply_100 : decode b_Ag_openReply 100 = .ok (.aload_n 2, 1) := by decide +kernel
theorem d_Ag_openReply_101 : decode b_Ag_openReply 101 = .ok (.iload_n 3, 1) := by decide +kernel
theorem d_Ag_openReply_102 : decode b_Ag_openReply 102 = .ok (.aload 6, 2) := by decide +kernel
theorem d_Ag_openReply_104 : decode b_Ag_openReply 104 = .ok (.iload 7, 2) := by decide +kernel
theorem d_Ag_openReply_106 : decode b_Ag_openReply 106 = .ok (.aload 8, 2) := by decide +kernel
theorem d_Ag_openReply_108 : decode b_Ag_openReply 108 = .ok (.invokevirtual 267, 3) := by decide +kernel
theorem d_Ag_openReply_111 : decode b_Ag_openReply 111 = .ok (.ifCond .ne 6, 3) := by decide +kernel
theorem d_Ag_openReply_114 : decode b_Ag_openReply 114 = .ok (.bipush (-31), 2) := by decide +kernel
theorem d_Ag_openReply_116 : decode b_Ag_openReply 116 = .ok (.ireturn, 1) := by decide +kernel
theorem d_Ag_openReply_117 : decode b_Ag_openReply 117 = .ok (.aload 8, 2) := by decide +kernel
theorem d_Ag_openReply_119 : decode b_Ag_openReply 119 = .ok (.sipush 378, 3) := by decide +kernel
theorem d_Ag_openReply_122 : decode b_Ag_openReply 122 = .ok (.iconst 0, 1) := by decide +kernel
theorem d_Ag_openReply_123 : decode b_Ag_openReply 123 = .ok (.aload 8, 2) := by decide +kernel
theorem d_Ag_openReply_125 : decode b_Ag_openReply 125 = .ok (.getfield 211, 3) := by decide +kernel
theorem d_Ag_openReply_128 : decode b_Ag_openReply 128 = .ok (.invokevirtual 242, 3) := by decide +kernel
theorem d_Ag_openReply_131 : decode b_Ag_openReply 131 = .ok (.ifCond .ne 25, 3) := by decide +kernel
theorem d_Ag_openReply_134 : decode b_Ag_openReply 134 = .ok (.iload_n 1, 1) := by decide +kernel
theorem d_Ag_openReply_135 : decode b_Ag_openReply 135 = .ok (.iconst 2, 1) := by decide +kernel
theorem d_Ag_openReply_136 : decode b_Ag_openReply 136 = .ok (.if_icmp .eq 24, 3) := by decide +kernel
theorem d_Ag_openReply_139 : decode b_Ag_openReply 139 = .ok (.aload 8, 2) := by decide +kernel
theorem d_Ag_openReply_141 : decode b_Ag_openReply 141 = .ok (.sipush 377, 3) := by decide +kernel
theorem d_Ag_openReply_144 : decode b_Ag_openReply 144 = .ok (.iconst 0, 1) := by decide +kernel
theorem d_Ag_openReply_145 : decode b_Ag_openReply 145 = .ok (.aload 8, 2) := by decide +kernel
theorem d_Ag_openReply_147 : decode b_Ag_openReply 147 = .ok (.getfield 211, 3) := by decide +kernel
theorem d_Ag_openReply_150 : decode b_Ag_openReply 150 = .ok (.invokevirtual 242, 3) := by decide +kernel
theorem d_Ag_openReply_153 : decode b_Ag_openReply 153 = .ok (.ifCond .eq 7, 3) := by decide +kernel
theorem d_Ag_openReply_156 : decode b_Ag_openReply 156 = .ok (.iconst 1, 1) := by decide +kernel
theorem d_Ag_openReply_157 : decode b_Ag_openReply 157 = .ok (.goto 4, 3) := by decide +kernel
theorem d_Ag_openReply_160 : decode b_Ag_openReply 160 = .ok (.iconst 0, 1) := by decide +kernel
theorem d_Ag_openReply_161 : decode b_Ag_openReply 161 = .ok (.istore 9, 2) := by decide +kernel
theorem d_Ag_openReply_163 : decode b_Ag_openReply 163 = .ok (.iload 9, 2) := by decide +kernel
theorem d_Ag_openReply_165 : decode b_Ag_openReply 165 = .ok (.ifCond .eq 7, 3) := by decide +kernel
theorem d_Ag_openReply_168 : decode b_Ag_openReply 168 = .ok (.iconst 0, 1) := by decide +kernel
theorem d_Ag_openReply_169 : decode b_Ag_openReply 169 = .ok (.goto 5, 3) := by decide +kernel
theorem d_Ag_openReply_172 : decode b_Ag_openReply 172 = .ok (.bipush (-60), 2) := by decide +kernel
theorem d_Ag_openReply_174 : decode b_Ag_openReply 174 = .ok (.ireturn, 1) := by decide +kernel
abbrev b_Ag_judgeReply : ByteArray := prog_3_method_17_code
def y_Ag_judgeReply : MethodName := ⟨R_Ag, "judgeReply", "(LRealmHouse$Bytes;)I"⟩
abbrev k_Ag_judgeReply : Cond := .code y_Ag_judgeReply b_Ag_judgeReply 7 (some .int)
theorem ki_Ag_judgeReply : k_Ag_judgeReply ∈ lw_tg := in_t 1500 (by decide +kernel)
theorem ks_Ag_judgeReply : Cond.instanceMethod y_Ag_judgeReply ∈ lw_tg := in_t 1499 (by decide +kernel)
theorem kx_Ag_judgeReply : Cond.selects R_Ag y_Ag_judgeReply y_Ag_judgeReply ∈ lw_tg := List.mem_filter.mpr ⟨List.mem_append_left _ (List.mem_of_getElem? (i := 59) (by decide +kernel)), rfl⟩
theorem kl_Ag_Ag_judgeReply : Cond.methodLink R_Ag 259 y_Ag_judgeReply ∈ lw_tg := in_t 1497 (by decide +kernel)
theorem hd_Ag_judgeReply : y_Ag_judgeReply.cls = R_Ag ∧ y_Ag_judgeReply.cls ≠ "java/lang/invoke/MethodHandle" ∧ y_Ag_judgeReply.cls ≠ "java/lang/invoke/VarHandle" ∧ (parseMethodDescriptor y_Ag_judgeReply.desc).map (fun d => d.parameters.length) = some 1 := by decide +kernel
theorem d_Ag_judgeReply_0 : decode b_Ag_judgeReply 0 = .ok (.aload_n 0, 1) := by decide +kernel
theorem d_Ag_judgeReply_1 : decode b_Ag_judgeReply 1 = .ok (.getfield 42, 3) := by decide +kernel
theorem d_Ag_judgeReply_4 : decode b_Ag_judgeReply 4 = .ok (.getfield 196, 3) := by decide +kernel
theorem d_Ag_judgeReply_7 : decode b_Ag_judgeReply 7 = .ok (.astore_n 2, 1) := by decide +kernel
theorem d_Ag_judgeReply_8 : decode b_Ag_judgeReply 8 = .ok (.aload_n 1, 1) := by decide +kernel
theorem d_Ag_judgeReply_9 : decode b_Ag_judgeReply 9 = .ok (.iconst 0, 1) := by decide +kernel
theorem d_Ag_judgeReply_10 : decode b_Ag_judgeReply 10 = .ok (.iconst 5, 1) := by decide +kernel
theorem d_Ag_judgeReply_11 : decode b_Ag_judgeReply 11 = .ok (.invokevirtual 246, 3) := by decide +kernel
theorem d_Ag_judgeReply_14 : decode b_Ag_judgeReply 14 = .ok (.istore_n 3, 1) := by decide +kernel
theorem d_Ag_judgeReply_15 : decode b_Ag_judgeReply 15 = .ok (.aload_n 2, 1) := by decide +kernel
theorem d_Ag_judgeReply_16 : decode b_Ag_judgeReply 16 = .ok (.aload_n 2, 1) := by decide +kernel
theorem d_Ag_judgeReply_17 : decode b_Ag_judgeReply 17 = .ok (.iconst 0, 1) := by decide +kernel
theorem d_Ag_judgeReply_18 : decode b_Ag_judgeReply 18 = .ok (.iconst 2, 1) := by decide +kernel
theorem d_Ag_judgeReply_19 : decode b_Ag_judgeReply 19 = .ok (.invokevirtual 246, 3) := by decide +kernel
theorem d_Ag_judgeReply_22 : decode b_Ag_judgeReply 22 = .ok (.invokevirtual 249, 3) := by decide +kernel
theorem d_Ag_judgeReply_25 : decode b_Ag_judgeReply 25 = .ok (.aload_n 0, 1) := by decide +kernel
theorem d_Ag_judgeReply_26 : decode b_Ag_judgeReply 26 = .ok (.getfield 123, 3) := by decide +kernel
theorem d_Ag_judgeReply_29 : decode b_Ag_judgeReply 29 = .ok (.i2l, 1) := by decide +kernel
theorem d_Ag_judgeReply_30 : decode b_Ag_judgeReply 30 = .ok (.lcmp, 1) := by decide +kernel
theorem d_Ag_judgeReply_31 : decode b_Ag_judgeReply 31 = .ok (.ifCond .eq 6, 3) := by decide +kernel
theorem d_Ag_judgeReply_34 : decode b_Ag_judgeReply 34 = .ok (.bipush (-41), 2) := by decide +kernel
theorem d_Ag_judgeReply_36 : decode b_Ag_judgeReply 36 = .ok (.ireturn, 1) := by decide +kernel
theorem d_Ag_judgeReply_37 : decode b_Ag_judgeReply 37 = .ok (.aload_n 1, 1) := by decide +kernel
theorem d_Ag_judgeReply_38 : decode b_Ag_judgeReply 38 = .ok (.aload_n 1, 1) := by decide +kernel
theorem d_Ag_judgeReply_39 : decode b_Ag_judgeReply 39 = .ok (.iconst 0, 1) := by decide +kernel
theorem d_Ag_judgeReply_40 : decode b_Ag_judgeReply 40 = .ok (.iconst 3, 1) := by decide +kernel
theorem d_Ag_judgeReply_41 : decode b_Ag_judgeReply 41 = .ok (.invokevirtual 246, 3) := by decide +kernel
theorem d_Ag_judgeReply_44 : decode b_Ag_judgeReply 44 = .ok (.invokevirtual 271, 3) := by decide +kernel
theorem d_Ag_judgeReply_47 : decode b_Ag_judgeReply 47 = .ok (.ifCond .eq 82, 3) := by decide +kernel
theorem d_Ag_judgeReply_50 : decode b_Ag_judgeReply 50 = .ok (.aload_n 1, 1) := by decide +kernel
theorem d_Ag_judgeReply_51 : decode b_Ag_judgeReply 51 = .ok (.aload_n 1, 1) := by decide +kernel
theorem d_Ag_judgeReply_52 : decode b_Ag_judgeReply 52 = .ok (.iconst 0, 1) := by decide +kernel
theorem d_Ag_judgeReply_53 : decode b_Ag_judgeReply 53 = .ok (.iconst 4, 1) := by decide +kernel
theorem d_Ag_judgeReply_54 : decode b_Ag_judgeReply 54 = .ok (.invokevirtual 246, 3) := by decide +kernel
theorem d_Ag_judgeReply_57 : decode b_Ag_judgeReply 57 = .ok (.aload_n 0, 1) := by decide +kernel
theorem d_Ag_judgeReply_58 : decode b_Ag_judgeReply 58 = .ok (.getfield 30, 3) := by decide +kernel
theorem d_Ag_judgeReply_61 : decode b_Ag_judgeReply 61 = .ok (.invokevirtual 274, 3) := by decide +kernel
theorem d_Ag_judgeReply_64 : decode b_Ag_judgeReply 64 = .ok (.ifCond .eq 65, 3) := by decide +kernel
theorem d_Ag_judgeReply_67 : decode b_Ag_judgeReply 67 = .ok (.aload_n 2, 1) := by decide +kernel
theorem d_Ag_judgeReply_68 : decode b_Ag_judgeReply 68 = .ok (.aload_n 2, 1) := by decide +kernel
theorem d_Ag_judgeReply_69 : decode b_Ag_judgeReply 69 = .ok (.iconst 0, 1) := by decide +kernel
theorem d_Ag_judgeReply_70 : decode b_Ag_judgeReply 70 = .ok (.bipush 9, 2) := by decide +kernel
theorem d_Ag_judgeReply_72 : decode b_Ag_judgeReply 72 = .ok (.invokevirtual 246, 3) := by decide +kernel
theorem d_Ag_judgeReply_75 : decode b_Ag_judgeReply 75 = .ok (.invokevirtual 271, 3) := by decide +kernel
theorem d_Ag_judgeReply_78 : decode b_Ag_judgeReply 78 = .ok (.ifCond .eq 51, 3) := by decide +kernel
theorem d_Ag_judgeReply_81 : decode b_Ag_judgeReply 81 = .ok (.aload_n 2, 1) := by decide +kernel
theorem d_Ag_judgeReply_82 : decode b_Ag_judgeReply 82 = .ok (.aload_n 2, 1) := by decide +kernel
theorem d_Ag_judgeReply_83 : decode b_Ag_judgeReply 83 = .ok (.iconst 0, 1) := by decide +kernel
theorem d_Ag_judgeReply_84 : decode b_Ag_judgeReply 84 = .ok (.bipush 10, 2) := by decide +kernel
theorem d_Ag_judgeReply_86 : decode b_Ag_judgeReply 86 = .ok (.invokevirtual 246, 3) := by decide +kernel
theorem d_Ag_judgeReply_89 : decode b_Ag_judgeReply 89 = .ok (.aload_n 0, 1) := by decide +kernel
theorem d_Ag_judgeReply_90 : decode b_Ag_judgeReply 90 = .ok (.getfield 33, 3) := by decide +kernel
theorem d_Ag_judgeReply_93 : decode b_Ag_judgeReply 93 = .ok (.invokevirtual 274, 3) := by decide +kernel
theorem d_Ag_judgeReply_96 : decode b_Ag_judgeReply 96 = .ok (.ifCond .eq 33, 3) := by decide +kernel
theorem d_Ag_judgeReply_99 : decode b_Ag_judgeReply 99 = .ok (.aload_n 1, 1) := by decide +kernel
theorem d_Ag_judgeReply_100 : decode b_Ag_judgeReply 100 = .ok (.aload_n 1, 1) := by decide +kernel
theorem d_Ag_judgeReply_101 : decode b_Ag_judgeReply 101 = .ok (.iload_n 3, 1) := by decide +kernel
theorem d_Ag_judgeReply_102 : decode b_Ag_judgeReply 102 = .ok (.iconst 1, 1) := by decide +kernel
theorem d_Ag_judgeReply_103 : decode b_Ag_judgeReply 103 = .ok (.invokevirtual 246, 3) := by decide +kernel
theorem d_Ag_judgeReply_106 : decode b_Ag_judgeReply 106 = .ok (.invokevirtual 271, 3) := by decide +kernel
theorem d_Ag_judgeReply_109 : decode b_Ag_judgeReply 109 = .ok (.ifCond .eq 20, 3) := by decide +kernel
theorem d_Ag_judgeReply_112 : decode b_Ag_judgeReply 112 = .ok (.aload_n 1, 1) := by decide +kernel
theorem d_Ag_judgeReply_113 : decode b_Ag_judgeReply 113 = .ok (.aload_n 1, 1) := by decide +kernel
theorem d_Ag_judgeReply_114 : decode b_Ag_judgeReply 114 = .ok (.iload_n 3, 1) := by decide +kernel
theorem d_Ag_judgeReply_115 : decode b_Ag_judgeReply 115 = .ok (.iconst 2, 1) := by decide +kernel
theorem d_Ag_judgeReply_116 : decode b_Ag_judgeReply 116 = .ok (.invokevirtual 246, 3) := by decide +kernel
theorem d_Ag_judgeReply_119 : decode b_Ag_judgeReply 119 = .ok (.aload_n 0, 1) := by decide +kernel
theorem d_Ag_judgeReply_120 : decode b_Ag_judgeReply 120 = .ok (.getfield 33, 3) := by decide +kernel
theorem d_Ag_judgeReply_123 : decode b_Ag_judgeReply 123 = .ok (.invokevirtual 274, 3) := by decide +kernel
theorem d_Ag_judgeReply_126 : decode b_Ag_judgeReply 126 = .ok (.ifCond .ne 6, 3) := by decide +kernel
theorem d_Ag_judgeReply_129 : decode b_Ag_judgeReply 129 = .ok (.bipush (-41), 2) := by decide +kernel
theorem d_Ag_judgeReply_131 : decode b_Ag_judgeReply 131 = .ok (.ireturn, 1) := by decide +kernel
theorem d_Ag_judgeReply_132 : decode b_Ag_judgeReply 132 = .ok (.aload_n 2, 1) := by decide +kernel
theorem d_Ag_judgeReply_133 : decode b_Ag_judgeReply 133 = .ok (.aload_n 2, 1) := by decide +kernel
theorem d_Ag_judgeReply_134 : decode b_Ag_judgeReply 134 = .ok (.iconst 0, 1) := by decide +kernel
theorem d_Ag_judgeReply_135 : decode b_Ag_judgeReply 135 = .ok (.iconst 0, 1) := by decide +kernel
theorem d_Ag_judgeReply_136 : decode b_Ag_judgeReply 136 = .ok (.invokevirtual 246, 3) := by decide +kernel
theorem d_Ag_judgeReply_139 : decode b_Ag_judgeReply 139 = .ok (.invokestatic 278, 3) := by decide +kernel
theorem d_Ag_judgeReply_142 : decode b_Ag_judgeReply 142 = .ok (.astore 4, 2) := by decide +kernel
theorem d_Ag_judgeReply_144 : decode b_Ag_judgeReply 144 = .ok (.aload 4, 2) := by decide +kernel
theorem d_Ag_judgeReply_146 : decode b_Ag_judgeReply 146 = .ok (.arraylength, 1) := by decide +kernel
theorem d_Ag_judgeReply_147 : decode b_Ag_judgeReply 147 = .ok (.ifCond .ne 6, 3) := by decide +kernel
theorem d_Ag_judgeReply_150 : decode b_Ag_judgeReply 150 = .ok (.bipush (-14), 2) := by decide +kernel
theorem d_Ag_judgeReply_152 : decode b_Ag_judgeReply 152 = .ok (.ireturn, 1) := by decide +kernel
theorem d_Ag_judgeReply_153 : decode b_Ag_judgeReply 153 = .ok (.aload_n 2, 1) := by decide +kernel
theorem d_Ag_judgeReply_154 : decode b_Ag_judgeReply 154 = .ok (.aload_n 2, 1) := by decide +kernel
theorem d_Ag_judgeReply_155 : decode b_Ag_judgeReply 155 = .ok (.iconst 0, 1) := by decide +kernel
theorem d_Ag_judgeReply_156 : decode b_Ag_judgeReply 156 = .ok (.aload_n 2, 1) := by decide +kernel
theorem d_Ag_judgeReply_157 : decode b_Ag_judgeReply 157 = .ok (.iconst 0, 1) := by decide +kernel
theorem d_Ag_judgeReply_158 : decode b_Ag_judgeReply 158 = .ok (.bipush 6, 2) := by decide +kernel
theorem d_Ag_judgeReply_160 : decode b_Ag_judgeReply 160 = .ok (.invokevirtual 246, 3) := by decide +kernel
theorem d_Ag_judgeReply_163 : decode b_Ag_judgeReply 163 = .ok (.ifCond .lt 8, 3) := by decide +kernel
theorem d_Ag_judgeReply_166 : decode b_Ag_judgeReply 166 = .ok (.bipush 6, 2) := by decide +kernel
theorem d_Ag_judgeReply_168 : decode b_Ag_judgeReply 168 = .ok (.goto 4, 3) := by decide +kernel
theorem d_Ag_judgeReply_171 : decode b_Ag_judgeReply 171 = .ok (.iconst 5, 1) := by decide +kernel
theorem d_Ag_judgeReply_172 : decode b_Ag_judgeReply 172 = .ok (.invokevirtual 246, 3) := by decide +kernel
theorem d_Ag_judgeReply_175 : decode b_Ag_judgeReply 175 = .ok (.invokevirtual 282, 3) := by decide +kernel
theorem d_Ag_judgeReply_178 : decode b_Ag_judgeReply 178 = .ok (.istore 5, 2) := by decide +kernel
theorem d_Ag_judgeReply_180 : decode b_Ag_judgeReply 180 = .ok (.aload_n 0, 1) := by decide +kernel
theorem d_Ag_judgeReply_181 : decode b_Ag_judgeReply 181 = .ok (.getfield 114, 3) := by decide +kernel
theorem d_Ag_judgeReply_184 : decode b_Ag_judgeReply 184 = .ok (.ifCond .ne 22, 3) := by decide +kernel
theorem d_Ag_judgeReply_187 : decode b_Ag_judgeReply 187 = .ok (.iload 5, 2) := by decide +kernel
theorem d_Ag_judgeReply_189 : decode b_Ag_judgeReply 189 = .ok (.aload_n 0, 1) := by decide +kernel
theorem d_Ag_judgeReply_190 : decode b_Ag_judgeReply 190 = .ok (.invokevirtual 159, 3) := by decide +kernel
theorem d_Ag_judgeReply_193 : decode b_Ag_judgeReply 193 = .ok (.isub, 1) := by decide +kernel
theorem d_Ag_judgeReply_194 : decode b_Ag_judgeReply 194 = .ok (.invokestatic 285, 3) := by decide +kernel
theorem d_Ag_judgeReply_197 : decode b_Ag_judgeReply 197 = .ok (.sipush 300, 3) := by decide +kernel
theorem d_Ag_judgeReply_200 : decode b_Ag_judgeReply 200 = .ok (.if_icmp .le 6, 3) := by decide +kernel
theorem d_Ag_judgeReply_203 : decode b_Ag_judgeReply 203 = .ok (.bipush (-37), 2) := by decide +kernel
theorem d_Ag_judgeReply_205 : decode b_Ag_judgeReply 205 = .ok (.ireturn, 1) := by decide +kernel
theorem d_Ag_judgeReply_206 : decode b_Ag_judgeReply 206 = .ok (.aload_n 0, 1) := by decide +kernel
theorem d_Ag_judgeReply_207 : decode b_Ag_judgeReply 207 = .ok (.invokevirtual 288, 3) := by decide +kernel
theorem d_Ag_judgeReply_210 : decode b_Ag_judgeReply 210 = .ok (.istore 6, 2) := by decide +kernel
theorem d_Ag_judgeReply_212 : decode b_Ag_judgeReply 212 = .ok (.iload 6, 2) := by decide +kernel
theorem d_Ag_judgeReply_214 : decode b_Ag_judgeReply 214 = .ok (.ifCond .lt 47, 3) := by decide +kernel
theorem d_Ag_judgeReply_217 : decode b_Ag_judgeReply 217 = .ok (.aload_n 0, 1) := by decide +kernel
theorem d_Ag_judgeReply_218 : decode b_Ag_judgeReply 218 = .ok (.getfield 48, 3) := by decide +kernel
theorem d_Ag_judgeReply_221 : decode b_Ag_judgeReply 221 = .ok (.iload 6, 2) := by decide +kernel
theorem d_Ag_judgeReply_223 : decode b_Ag_judgeReply 223 = .ok (.aaload, 1) := by decide +kernel
theorem d_Ag_judgeReply_224 : decode b_Ag_judgeReply 224 = .ok (.aload_n 1, 1) := by decide +kernel
theorem d_Ag_judgeReply_225 : decode b_Ag_judgeReply 225 = .ok (.iload_n 3, 1) := by decide +kernel
theorem d_Ag_judgeReply_226 : decode b_Ag_judgeReply 226 = .ok (.invokevirtual 291, 3) := by decide +kernel
theorem d_Ag_judgeReply_229 : decode b_Ag_judgeReply 229 = .ok (.aload_n 0, 1) := by decide +kernel
theorem d_Ag_judgeReply_230 : decode b_Ag_judgeReply 230 = .ok (.getfield 48, 3) := by decide +kernel
theorem d_Ag_judgeReply_233 : decode b_Ag_judgeReply 233 = .ok (.iload 6, 2) := by decide +kernel
theorem d_Ag_judgeReply_235 : decode b_Ag_judgeReply 235 = .ok (.aaload, 1) := by decide +kernel
theorem d_Ag_judgeReply_236 : decode b_Ag_judgeReply 236 = .ok (.aload_n 1, 1) := by decide +kernel
theorem d_Ag_judgeReply_237 : decode b_Ag_judgeReply 237 = .ok (.aload_n 1, 1) := by decide +kernel
theorem d_Ag_judgeReply_238 : decode b_Ag_judgeReply 238 = .ok (.iconst 0, 1) := by decide +kernel
theorem d_Ag_judgeReply_239 : decode b_Ag_judgeReply 239 = .ok (.iconst 4, 1) := by decide +kernel
theorem d_Ag_judgeReply_240 : decode b_Ag_judgeReply 240 = .ok (.invokevirtual 246, 3) := by decide +kernel
theorem d_Ag_judgeReply_243 : decode b_Ag_judgeReply 243 = .ok (.invokevirtual 295, 3) := by decide +kernel
theorem d_Ag_judgeReply_246 : decode b_Ag_judgeReply 246 = .ok (.aload_n 0, 1) := by decide +kernel
theorem d_Ag_judgeReply_247 : decode b_Ag_judgeReply 247 = .ok (.getfield 48, 3) := by decide +kernel
theorem d_Ag_judgeReply_250 : decode b_Ag_judgeReply 250 = .ok (.iload 6, 2) := by decide +kernel
theorem d_Ag_judgeReply_252 : decode b_Ag_judgeReply 252 = .ok (.aaload, 1) := by decide +kernel
theorem d_Ag_judgeReply_253 : decode b_Ag_judgeReply 253 = .ok (.aload 4, 2) := by decide +kernel
theorem d_Ag_judgeReply_255 : decode b_Ag_judgeReply 255 = .ok (.aload_n 2, 1) := by decide +kernel
theorem d_Ag_judgeReply_256 : decode b_Ag_judgeReply 256 = .ok (.iconst 0, 1) := by decide +kernel
theorem d_Ag_judgeReply_257 : decode b_Ag_judgeReply 257 = .ok (.iconst 4, 1) := by decide +kernel
theorem d_Ag_judgeReply_258 : decode b_Ag_judgeReply 258 = .ok (.invokevirtual 298, 3) := by decide +kernel
theorem d_Ag_judgeReply_261 : decode b_Ag_judgeReply 261 = .ok (.iload 6, 2) := by decide +kernel
theorem d_Ag_judgeReply_263 : decode b_Ag_judgeReply 263 = .ok (.ireturn, 1) := by decide +kernel
abbrev b_Ag_hearService : ByteArray := prog_3_method_18_code
def y_Ag_hearService : MethodName := ⟨R_Ag, "hearService", "(LRealmHouse$Bytes;)I"⟩
abbrev k_Ag_hearService : Cond := .code y_Ag_hearService b_Ag_hearService 3 (some .int)
theorem ki_Ag_hearService : k_Ag_hearService ∈ lw_tg := in_t 1610 (by decide +kernel)
theorem ks_Ag_hearService : Cond.instanceMethod y_Ag_hearService ∈ lw_tg := in_t 1608 (by decide +kernel)
theorem kx_Ag_hearService : Cond.selects R_Ag y_Ag_hearService y_Ag_hearService ∈ lw_tg := in_t 1609 (by decide +kernel)
theorem kl_H_Ag_hearService : Cond.methodLink R_H 259 y_Ag_hearService ∈ lw_tg := in_t 1607 (by decide +kernel)
theorem hd_Ag_hearService : y_Ag_hearService.cls = R_Ag ∧ y_Ag_hearService.cls ≠ "java/lang/invoke/MethodHandle" ∧ y_Ag_hearService.cls ≠ "java/lang/invoke/VarHandle" ∧ (parseMethodDescriptor y_Ag_hearService.desc).map (fun d => d.parameters.length) = some 1 := by decide +kernel
theorem d_Ag_hearService_0 : decode b_Ag_hearService 0 = .ok (.aload_n 0, 1) := by decide +kernel
theorem d_Ag_hearService_1 : decode b_Ag_hearService 1 = .ok (.getfield 87, 3) := by decide +kernel
theorem d_Ag_hearService_4 : decode b_Ag_hearService 4 = .ok (.ifCond .ne 6, 3) := by decide +kernel
theorem d_Ag_hearService_7 : decode b_Ag_hearService 7 = .ok (.bipush (-3), 2) := by decide +kernel
theorem d_Ag_hearService_9 : decode b_Ag_hearService 9 = .ok (.ireturn, 1) := by decide +kernel
theorem d_Ag_hearService_10 : decode b_Ag_hearService 10 = .ok (.aload_n 0, 1) := by decide +kernel
theorem d_Ag_hearService_11 : decode b_Ag_hearService 11 = .ok (.iconst 0, 1) := by decide +kernel
theorem d_Ag_hearService_12 : decode b_Ag_hearService 12 = .ok (.putfield 87, 3) := by decide +kernel
theorem d_Ag_hearService_15 : decode b_Ag_hearService 15 = .ok (.aload_n 1, 1) := by decide +kernel
theorem d_Ag_hearService_16 : decode b_Ag_hearService 16 = .ok (.sipush 367, 3) := by decide +kernel
theorem d_Ag_hearService_19 : decode b_Ag_hearService 19 = .ok (.iconst 0, 1) := by decide +kernel
theorem d_Ag_hearService_20 : decode b_Ag_hearService 20 = .ok (.aload_n 1, 1) := by decide +kernel
theorem d_Ag_hearService_21 : decode b_Ag_hearService 21 = .ok (.getfield 211, 3) := by decide +kernel
theorem d_Ag_hearService_24 : decode b_Ag_hearService 24 = .ok (.invokevirtual 242, 3) := by decide +kernel
theorem d_Ag_hearService_27 : decode b_Ag_hearService 27 = .ok (.ifCond .ne 6, 3) := by decide +kernel
theorem d_Ag_hearService_30 : decode b_Ag_hearService 30 = .ok (.bipush (-60), 2) := by decide +kernel
theorem d_Ag_hearService_32 : decode b_Ag_hearService 32 = .ok (.ireturn, 1) := by decide +kernel
theorem d_Ag_hearService_33 : decode b_Ag_hearService 33 = .ok (.aload_n 1, 1) := by decide +kernel
theorem d_Ag_hearService_34 : decode b_Ag_hearService 34 = .ok (.aload_n 1, 1) := by decide +kernel
theorem d_Ag_hearService_35 : decode b_Ag_hearService 35 = .ok (.iconst 0, 1) := by decide +kernel
theorem d_Ag_hearService_36 : decode b_Ag_hearService 36 = .ok (.iconst 0, 1) := by decide +kernel
theorem d_Ag_hearService_37 : decode b_Ag_hearService 37 = .ok (.invokevirtual 246, 3) := by decide +kernel
theorem d_Ag_hearService_40 : decode b_Ag_hearService 40 = .ok (.invokevirtual 249, 3) := by decide +kernel
theorem d_Ag_hearService_43 : decode b_Ag_hearService 43 = .ok (.ldc2_w 179, 3) := by decide +kernel
theorem d_Ag_hearService_46 : decode b_Ag_hearService 46 = .ok (.lcmp, 1) := by decide +kernel
theorem d_Ag_hearService_47 : decode b_Ag_hearService 47 = .ok (.ifCond .eq 6, 3) := by decide +kernel
theorem d_Ag_hearService_50 : decode b_Ag_hearService 50 = .ok (.bipush (-3), 2) := by decide +kernel
theorem d_Ag_hearService_52 : decode b_Ag_hearService 52 = .ok (.ireturn, 1) := by decide +kernel
theorem d_Ag_hearService_53 : decode b_Ag_hearService 53 = .ok (.aload_n 1, 1) := by decide +kernel
theorem d_Ag_hearService_54 : decode b_Ag_hearService 54 = .ok (.aload_n 1, 1) := by decide +kernel
theorem d_Ag_hearService_55 : decode b_Ag_hearService 55 = .ok (.iconst 0, 1) := by decide +kernel
theorem d_Ag_hearService_56 : decode b_Ag_hearService 56 = .ok (.iconst 1, 1) := by decide +kernel
theorem d_Ag_hearService_57 : decode b_Ag_hearService 57 = .ok (.invokevirtual 246, 3) := by decide +kernel
theorem d_Ag_hearService_60 : decode b_Ag_hearService 60 = .ok (.invokevirtual 249, 3) := by decide +kernel
theorem d_Ag_hearService_63 : decode b_Ag_hearService 63 = .ok (.ldc2_w 302, 3) := by decide +kernel
theorem d_Ag_hearService_66 : decode b_Ag_hearService 66 = .ok (.lcmp, 1) := by decide +kernel
theorem d_Ag_hearService_67 : decode b_Ag_hearService 67 = .ok (.ifCond .eq 6, 3) := by decide +kernel
theorem d_Ag_hearService_70 : decode b_Ag_hearService 70 = .ok (.bipush (-40), 2) := by decide +kernel
theorem d_Ag_hearService_72 : decode b_Ag_hearService 72 = .ok (.ireturn, 1) := by decide +kernel
theorem d_Ag_hearService_73 : decode b_Ag_hearService 73 = .ok (.aload_n 0, 1) := by decide +kernel
theorem d_Ag_hearService_74 : decode b_Ag_hearService 74 = .ok (.getfield 42, 3) := by decide +kernel
theorem d_Ag_hearService_77 : decode b_Ag_hearService 77 = .ok (.getfield 196, 3) := by decide +kernel
theorem d_Ag_hearService_80 : decode b_Ag_hearService 80 = .ok (.astore_n 2, 1) := by decide +kernel
theorem d_Ag_hearService_81 : decode b_Ag_hearService 81 = .ok (.aload_n 0, 1) := by decide +kernel
theorem d_Ag_hearService_82 : decode b_Ag_hearService 82 = .ok (.getfield 42, 3) := by decide +kernel
theorem d_Ag_hearService_85 : decode b_Ag_hearService 85 = .ok (.aload_n 1, 1) := by decide +kernel
theorem d_Ag_hearService_86 : decode b_Ag_hearService 86 = .ok (.aload_n 1, 1) := by decide +kernel
theorem d_Ag_hearService_87 : decode b_Ag_hearService 87 = .ok (.iconst 0, 1) := by decide +kernel
theorem d_Ag_hearService_88 : decode b_Ag_hearService 88 = .ok (.iconst 2, 1) := by decide +kernel
theorem d_Ag_hearService_89 : decode b_Ag_hearService 89 = .ok (.invokevirtual 246, 3) := by decide +kernel
theorem d_Ag_hearService_92 : decode b_Ag_hearService 92 = .ok (.aload_n 0, 1) := by decide +kernel
theorem d_Ag_hearService_93 : decode b_Ag_hearService 93 = .ok (.getfield 39, 3) := by decide +kernel
theorem d_Ag_hearService_96 : decode b_Ag_hearService 96 = .ok (.bipush 12, 2) := by decide +kernel
theorem d_Ag_hearService_98 : decode b_Ag_hearService 98 = .ok (.aload_n 2, 1) := by decide +kernel
theorem d_Ag_hearService_99 : decode b_Ag_hearService 99 = .ok (.invokevirtual 267, 3) := by decide +kernel
theorem d_Ag_hearService_102 : decode b_Ag_hearService 102 = .ok (.ifCond .ne 6, 3) := by decide +kernel
theorem d_Ag_hearService_105 : decode b_Ag_hearService 105 = .ok (.bipush (-31), 2) := by decide +kernel
theorem d_Ag_hearService_107 : decode b_Ag_hearService 107 = .ok (.ireturn, 1) := by decide +kernel
theorem d_Ag_hearService_108 : decode b_Ag_hearService 108 = .ok (.aload_n 2, 1) := by decide +kernel
theorem d_Ag_hearService_109 : decode b_Ag_hearService 109 = .ok (.sipush 379, 3) := by decide +kernel
theorem d_Ag_hearService_112 : decode b_Ag_hearService 112 = .ok (.iconst 0, 1) := by decide +kernel
theorem d_Ag_hearService_113 : decode b_Ag_hearService 113 = .ok (.aload_n 2, 1) := by decide +kernel
theorem d_Ag_hearService_114 : decode b_Ag_hearService 114 = .ok (.getfield 211, 3) := by decide +kernel
theorem d_Ag_hearService_117 : decode b_Ag_hearService 117 = .ok (.invokevirtual 242, 3) := by decide +kernel
theorem d_Ag_hearService_120 : decode b_Ag_hearService 120 = .ok (.ifCond .ne 6, 3) := by decide +kernel
theorem d_Ag_hearService_123 : decode b_Ag_hearService 123 = .ok (.bipush (-60), 2) := by decide +kernel
theorem d_Ag_hearService_125 : decode b_Ag_hearService 125 = .ok (.ireturn, 1) := by decide +kernel
theorem d_Ag_hearService_126 : decode b_Ag_hearService 126 = .ok (.aload_n 2, 1) := by decide +kernel
theorem d_Ag_hearService_127 : decode b_Ag_hearService 127 = .ok (.aload_n 2, 1) := by decide +kernel
theorem d_Ag_hearService_128 : decode b_Ag_hearService 128 = .ok (.iconst 0, 1) := by decide +kernel
theorem d_Ag_hearService_129 : decode b_Ag_hearService 129 = .ok (.iconst 0, 1) := by decide +kernel
theorem d_Ag_hearService_130 : decode b_Ag_hearService 130 = .ok (.invokevirtual 246, 3) := by decide +kernel
theorem d_Ag_hearService_133 : decode b_Ag_hearService 133 = .ok (.invokevirtual 282, 3) := by decide +kernel
theorem d_Ag_hearService_136 : decode b_Ag_hearService 136 = .ok (.aload_n 0, 1) := by decide +kernel
theorem d_Ag_hearService_137 : decode b_Ag_hearService 137 = .ok (.getfield 231, 3) := by decide +kernel
theorem d_Ag_hearService_140 : decode b_Ag_hearService 140 = .ok (.if_icmp .ne 22, 3) := by decide +kernel
theorem d_Ag_hearService_143 : decode b_Ag_hearService 143 = .ok (.aload_n 2, 1) := by decide +kernel
theorem d_Ag_hearService_144 : decode b_Ag_hearService 144 = .ok (.aload_n 2, 1) := by decide +kernel
theorem d_Ag_hearService_145 : decode b_Ag_hearService 145 = .ok (.iconst 0, 1) := by decide +kernel
theorem d_Ag_hearService_146 : decode b_Ag_hearService 146 = .ok (.iconst 1, 1) := by decide +kernel
theorem d_Ag_hearService_147 : decode b_Ag_hearService 147 = .ok (.invokevirtual 246, 3) := by decide +kernel
theorem d_Ag_hearService_150 : decode b_Ag_hearService 150 = .ok (.invokevirtual 249, 3) := by decide +kernel
theorem d_Ag_hearService_153 : decode b_Ag_hearService 153 = .ok (.aload_n 0, 1) := by decide +kernel
theorem d_Ag_hearService_154 : decode b_Ag_hearService 154 = .ok (.getfield 234, 3) := by decide +kernel
theorem d_Ag_hearService_157 : decode b_Ag_hearService 157 = .ok (.i2l, 1) := by decide +kernel
theorem d_Ag_hearService_158 : decode b_Ag_hearService 158 = .ok (.lcmp, 1) := by decide +kernel
theorem d_Ag_hearService_159 : decode b_Ag_hearService 159 = .ok (.ifCond .eq 6, 3) := by decide +kernel
theorem d_Ag_hearService_162 : decode b_Ag_hearService 162 = .ok (.bipush (-46), 2) := by decide +kernel
theorem d_Ag_hearService_164 : decode b_Ag_hearService 164 = .ok (.ireturn, 1) := by decide +kernel
theorem d_Ag_hearService_165 : decode b_Ag_hearService 165 = .ok (.aload_n 0, 1) := by decide +kernel
theorem d_Ag_hearService_166 : decode b_Ag_hearService 166 = .ok (.aload_n 2, 1) := by decide +kernel
theorem d_Ag_hearService_167 : decode b_Ag_hearService 167 = .ok (.aload_n 2, 1) := by decide +kernel
theorem d_Ag_hearService_168 : decode b_Ag_hearService 168 = .ok (.iconst 0, 1) := by decide +kernel
theorem d_Ag_hearService_169 : decode b_Ag_hearService 169 = .ok (.iconst 3, 1) := by decide +kernel
theorem d_Ag_hearService_170 : decode b_Ag_hearService 170 = .ok (.invokevirtual 246, 3) := by decide +kernel
theorem d_Ag_hearService_173 : decode b_Ag_hearService 173 = .ok (.invokevirtual 249, 3) := by decide +kernel
theorem d_Ag_hearService_176 : decode b_Ag_hearService 176 = .ok (.putfield 84, 3) := by decide +kernel
theorem d_Ag_hearService_179 : decode b_Ag_hearService 179 = .ok (.iconst 0, 1) := by decide +kernel
theorem d_Ag_hearService_180 : decode b_Ag_hearService 180 = .ok (.ireturn, 1) := by decide +kernel
abbrev b_Ag_keepHanded : ByteArray := prog_3_method_19_code
def y_Ag_keepHanded : MethodName := ⟨R_Ag, "keepHanded", "(LRealmHouse$Bytes;)I"⟩
abbrev k_Ag_keepHanded : Cond := .code y_Ag_keepHanded b_Ag_keepHanded 6 (some .int)
theorem ki_Ag_keepHanded : k_Ag_keepHanded ∈ lw_tg := in_t 1742 (by decide +kernel)
theorem ks_Ag_keepHanded : Cond.instanceMethod y_Ag_keepHanded ∈ lw_tg := in_t 1740 (by decide +kernel)
theorem kx_Ag_keepHanded : Cond.selects R_Ag y_Ag_keepHanded y_Ag_keepHanded ∈ lw_tg := in_t 1741 (by decide +kernel)
theorem kl_H_Ag_keepHanded : Cond.methodLink R_H 301 y_Ag_keepHanded ∈ lw_tg := in_t 1739 (by decide +kernel)
theorem hd_Ag_keepHanded : y_Ag_keepHanded.cls = R_Ag ∧ y_Ag_keepHanded.cls ≠ "java/lang/invoke/MethodHandle" ∧ y_Ag_keepHanded.cls ≠ "java/lang/invoke/VarHandle" ∧ (parseMethodDescriptor y_Ag_keepHanded.desc).map (fun d => d.parameters.length) = some 1 := by decide +kernel
theorem d_Ag_keepHanded_0 : decode b_Ag_keepHanded 0 = .ok (.aload_n 0, 1) := by decide +kernel
theorem d_Ag_keepHanded_1 : decode b_Ag_keepHanded 1 = .ok (.getfield 42, 3) := by decide +kernel
theorem d_Ag_keepHanded_4 : decode b_Ag_keepHanded 4 = .ok (.getfield 196, 3) := by decide +kernel
theorem d_Ag_keepHanded_7 : decode b_Ag_keepHanded 7 = .ok (.astore_n 2, 1) := by decide +kernel
theorem d_Ag_keepHanded_8 : decode b_Ag_keepHanded 8 = .ok (.aload_n 2, 1) := by decide +kernel
theorem d_Ag_keepHanded_9 : decode b_Ag_keepHanded 9 = .ok (.aload_n 2, 1) := by decide +kernel
theorem d_Ag_keepHanded_10 : decode b_Ag_keepHanded 10 = .ok (.iconst 0, 1) := by decide +kernel
theorem d_Ag_keepHanded_11 : decode b_Ag_keepHanded 11 = .ok (.iconst 0, 1) := by decide +kernel
theorem d_Ag_keepHanded_12 : decode b_Ag_keepHanded 12 = .ok (.invokevirtual 246, 3) := by decide +kernel
theorem d_Ag_keepHanded_15 : decode b_Ag_keepHanded 15 = .ok (.iconst 0, 1) := by decide +kernel
theorem d_Ag_keepHanded_16 : decode b_Ag_keepHanded 16 = .ok (.invokevirtual 304, 3) := by decide +kernel
theorem d_Ag_keepHanded_19 : decode b_Ag_keepHanded 19 = .ok (.istore_n 3, 1) := by decide +kernel
theorem d_Ag_keepHanded_20 : decode b_Ag_keepHanded 20 = .ok (.aload_n 2, 1) := by decide +kernel
theorem d_Ag_keepHanded_21 : decode b_Ag_keepHanded 21 = .ok (.aload_n 2, 1) := by decide +kernel
theorem d_Ag_keepHanded_22 : decode b_Ag_keepHanded 22 = .ok (.iload_n 3, 1) := by decide +kernel
theorem d_Ag_keepHanded_23 : decode b_Ag_keepHanded 23 = .ok (.iconst 2, 1) := by decide +kernel
theorem d_Ag_keepHanded_24 : decode b_Ag_keepHanded 24 = .ok (.invokevirtual 246, 3) := by decide +kernel
theorem d_Ag_keepHanded_27 : decode b_Ag_keepHanded 27 = .ok (.invokevirtual 307, 3) := by decide +kernel
theorem d_Ag_keepHanded_30 : decode b_Ag_keepHanded 30 = .ok (.bipush 40, 2) := by decide +kernel
theorem d_Ag_keepHanded_32 : decode b_Ag_keepHanded 32 = .ok (.if_icmp .le 6, 3) := by decide +kernel
theorem d_Ag_keepHanded_35 : decode b_Ag_keepHanded 35 = .ok (.bipush (-60), 2) := by decide +kernel
theorem d_Ag_keepHanded_37 : decode b_Ag_keepHanded 37 = .ok (.ireturn, 1) := by decide +kernel
theorem d_Ag_keepHanded_38 : decode b_Ag_keepHanded 38 = .ok (.aload_n 2, 1) := by decide +kernel
theorem d_Ag_keepHanded_39 : decode b_Ag_keepHanded 39 = .ok (.aload_n 2, 1) := by decide +kernel
theorem d_Ag_keepHanded_40 : decode b_Ag_keepHanded 40 = .ok (.iload_n 3, 1) := by decide +kernel
theorem d_Ag_keepHanded_41 : decode b_Ag_keepHanded 41 = .ok (.iconst 0, 1) := by decide +kernel
theorem d_Ag_keepHanded_42 : decode b_Ag_keepHanded 42 = .ok (.invokevirtual 246, 3) := by decide +kernel
theorem d_Ag_keepHanded_45 : decode b_Ag_keepHanded 45 = .ok (.invokestatic 278, 3) := by decide +kernel
theorem d_Ag_keepHanded_48 : decode b_Ag_keepHanded 48 = .ok (.astore 4, 2) := by decide +kernel
theorem d_Ag_keepHanded_50 : decode b_Ag_keepHanded 50 = .ok (.aload 4, 2) := by decide +kernel
theorem d_Ag_keepHanded_52 : decode b_Ag_keepHanded 52 = .ok (.arraylength, 1) := by decide +kernel
theorem d_Ag_keepHanded_53 : decode b_Ag_keepHanded 53 = .ok (.ifCond .ne 6, 3) := by decide +kernel
theorem d_Ag_keepHanded_56 : decode b_Ag_keepHanded 56 = .ok (.bipush (-14), 2) := by decide +kernel
theorem d_Ag_keepHanded_58 : decode b_Ag_keepHanded 58 = .ok (.ireturn, 1) := by decide +kernel
theorem d_Ag_keepHanded_59 : decode b_Ag_keepHanded 59 = .ok (.aload_n 0, 1) := by decide +kernel
theorem d_Ag_keepHanded_60 : decode b_Ag_keepHanded 60 = .ok (.invokevirtual 288, 3) := by decide +kernel
theorem d_Ag_keepHanded_63 : decode b_Ag_keepHanded 63 = .ok (.istore 5, 2) := by decide +kernel
theorem d_Ag_keepHanded_65 : decode b_Ag_keepHanded 65 = .ok (.iload 5, 2) := by decide +kernel
theorem d_Ag_keepHanded_67 : decode b_Ag_keepHanded 67 = .ok (.ifCond .lt 57, 3) := by decide +kernel
theorem d_Ag_keepHanded_70 : decode b_Ag_keepHanded 70 = .ok (.aload_n 0, 1) := by decide +kernel
theorem d_Ag_keepHanded_71 : decode b_Ag_keepHanded 71 = .ok (.getfield 48, 3) := by decide +kernel
theorem d_Ag_keepHanded_74 : decode b_Ag_keepHanded 74 = .ok (.iload 5, 2) := by decide +kernel
theorem d_Ag_keepHanded_76 : decode b_Ag_keepHanded 76 = .ok (.aaload, 1) := by decide +kernel
theorem d_Ag_keepHanded_77 : decode b_Ag_keepHanded 77 = .ok (.aload_n 1, 1) := by decide +kernel
theorem d_Ag_keepHanded_78 : decode b_Ag_keepHanded 78 = .ok (.aload_n 1, 1) := by decide +kernel
theorem d_Ag_keepHanded_79 : decode b_Ag_keepHanded 79 = .ok (.aload_n 1, 1) := by decide +kernel
theorem d_Ag_keepHanded_80 : decode b_Ag_keepHanded 80 = .ok (.iconst 0, 1) := by decide +kernel
theorem d_Ag_keepHanded_81 : decode b_Ag_keepHanded 81 = .ok (.iconst 2, 1) := by decide +kernel
theorem d_Ag_keepHanded_82 : decode b_Ag_keepHanded 82 = .ok (.invokevirtual 246, 3) := by decide +kernel
theorem d_Ag_keepHanded_85 : decode b_Ag_keepHanded 85 = .ok (.iconst 0, 1) := by decide +kernel
theorem d_Ag_keepHanded_86 : decode b_Ag_keepHanded 86 = .ok (.invokevirtual 304, 3) := by decide +kernel
theorem d_Ag_keepHanded_89 : decode b_Ag_keepHanded 89 = .ok (.invokevirtual 291, 3) := by decide +kernel
theorem d_Ag_keepHanded_92 : decode b_Ag_keepHanded 92 = .ok (.aload_n 0, 1) := by decide +kernel
theorem d_Ag_keepHanded_93 : decode b_Ag_keepHanded 93 = .ok (.getfield 48, 3) := by decide +kernel
theorem d_Ag_keepHanded_96 : decode b_Ag_keepHanded 96 = .ok (.iload 5, 2) := by decide +kernel
theorem d_Ag_keepHanded_98 : decode b_Ag_keepHanded 98 = .ok (.aaload, 1) := by decide +kernel
theorem d_Ag_keepHanded_99 : decode b_Ag_keepHanded 99 = .ok (.aload_n 2, 1) := by decide +kernel
theorem d_Ag_keepHanded_100 : decode b_Ag_keepHanded 100 = .ok (.aload_n 2, 1) := by decide +kernel
theorem d_Ag_keepHanded_101 : decode b_Ag_keepHanded 101 = .ok (.iload_n 3, 1) := by decide +kernel
theorem d_Ag_keepHanded_102 : decode b_Ag_keepHanded 102 = .ok (.iconst 2, 1) := by decide +kernel
theorem d_Ag_keepHanded_103 : decode b_Ag_keepHanded 103 = .ok (.invokevirtual 246, 3) := by decide +kernel
theorem d_Ag_keepHanded_106 : decode b_Ag_keepHanded 106 = .ok (.invokevirtual 295, 3) := by decide +kernel
theorem d_Ag_keepHanded_109 : decode b_Ag_keepHanded 109 = .ok (.aload_n 0, 1) := by decide +kernel
theorem d_Ag_keepHanded_110 : decode b_Ag_keepHanded 110 = .ok (.getfield 48, 3) := by decide +kernel
theorem d_Ag_keepHanded_113 : decode b_Ag_keepHanded 113 = .ok (.iload 5, 2) := by decide +kernel
theorem d_Ag_keepHanded_115 : decode b_Ag_keepHanded 115 = .ok (.aaload, 1) := by decide +kernel
theorem d_Ag_keepHanded_116 : decode b_Ag_keepHanded 116 = .ok (.aload 4, 2) := by decide +kernel
theorem d_Ag_keepHanded_118 : decode b_Ag_keepHanded 118 = .ok (.aload_n 2, 1) := by decide +kernel
theorem d_Ag_keepHanded_119 : decode b_Ag_keepHanded 119 = .ok (.iload_n 3, 1) := by decide +kernel
theorem d_Ag_keepHanded_120 : decode b_Ag_keepHanded 120 = .ok (.iconst 3, 1) := by decide +kernel
theorem d_Ag_keepHanded_121 : decode b_Ag_keepHanded 121 = .ok (.invokevirtual 298, 3) := by decide +kernel
theorem d_Ag_keepHanded_124 : decode b_Ag_keepHanded 124 = .ok (.iload 5, 2) := by decide +kernel
theorem d_Ag_keepHanded_126 : decode b_Ag_keepHanded 126 = .ok (.ireturn, 1) := by decide +kernel
