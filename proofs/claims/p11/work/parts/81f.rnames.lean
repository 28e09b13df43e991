abbrev b_M_typeAsked : ByteArray := prog_14_method_102_code
def y_M_typeAsked : MethodName := ⟨R_M, "typeAsked", "(I)I"⟩
abbrev k_M_typeAsked : Cond := .code y_M_typeAsked b_M_typeAsked 3 (some .int)
theorem ki_M_typeAsked : k_M_typeAsked ∈ lw_tg := in_t 2492 (by decide +kernel)
theorem ks_M_typeAsked : Cond.instanceMethod y_M_typeAsked ∈ lw_tg := in_t 2491 (by decide +kernel)
theorem kx_M_typeAsked : Cond.selects R_M y_M_typeAsked y_M_typeAsked ∈ lw_tg := List.mem_filter.mpr ⟨List.mem_append_left _ (List.mem_of_getElem? (i := 118) (by decide +kernel)), rfl⟩
theorem kl_M_typeAsked : Cond.methodLink R_M 734 y_M_typeAsked ∈ lw_tg := in_t 2489 (by decide +kernel)
theorem hd_M_typeAsked : y_M_typeAsked.cls = R_M ∧ y_M_typeAsked.cls ≠ "java/lang/invoke/MethodHandle" ∧ y_M_typeAsked.cls ≠ "java/lang/invoke/VarHandle" ∧ (parseMethodDescriptor y_M_typeAsked.desc).map (fun d => d.parameters.length) = some 1 := by decide +kernel
theorem d_M_typeAsked_0 : decode b_M_typeAsked 0 = .ok (.iconst 0, 1) := by decide +kernel
theorem d_M_typeAsked_1 : decode b_M_typeAsked 1 = .ok (.istore_n 2, 1) := by decide +kernel
theorem d_M_typeAsked_2 : decode b_M_typeAsked 2 = .ok (.aload_n 0, 1) := by decide +kernel
theorem d_M_typeAsked_3 : decode b_M_typeAsked 3 = .ok (.aload_n 0, 1) := by decide +kernel
theorem d_M_typeAsked_4 : decode b_M_typeAsked 4 = .ok (.iconst 1, 1) := by decide +kernel
theorem d_M_typeAsked_5 : decode b_M_typeAsked 5 = .ok (.bipush 8, 2) := by decide +kernel
theorem d_M_typeAsked_7 : decode b_M_typeAsked 7 = .ok (.invokevirtual 536, 3) := by decide +kernel
theorem d_M_typeAsked_10 : decode b_M_typeAsked 10 = .ok (.aload_n 0, 1) := by decide +kernel
theorem d_M_typeAsked_11 : decode b_M_typeAsked 11 = .ok (.iconst 1, 1) := by decide +kernel
theorem d_M_typeAsked_12 : decode b_M_typeAsked 12 = .ok (.bipush 8, 2) := by decide +kernel
theorem d_M_typeAsked_14 : decode b_M_typeAsked 14 = .ok (.invokevirtual 539, 3) := by decide +kernel
theorem d_M_typeAsked_17 : decode b_M_typeAsked 17 = .ok (.iload_n 2, 1) := by decide +kernel
theorem d_M_typeAsked_18 : decode b_M_typeAsked 18 = .ok (.invokevirtual 694, 3) := by decide +kernel
theorem d_M_typeAsked_21 : decode b_M_typeAsked 21 = .ok (.ifCond .eq 66, 3) := by decide +kernel
theorem d_M_typeAsked_24 : decode b_M_typeAsked 24 = .ok (.aload_n 0, 1) := by decide +kernel
theorem d_M_typeAsked_25 : decode b_M_typeAsked 25 = .ok (.aload_n 0, 1) := by decide +kernel
theorem d_M_typeAsked_26 : decode b_M_typeAsked 26 = .ok (.getfield 688, 3) := by decide +kernel
theorem d_M_typeAsked_29 : decode b_M_typeAsked 29 = .ok (.aload_n 0, 1) := by decide +kernel
theorem d_M_typeAsked_30 : decode b_M_typeAsked 30 = .ok (.getfield 691, 3) := by decide +kernel
theorem d_M_typeAsked_33 : decode b_M_typeAsked 33 = .ok (.ldc2_w 542, 3) := by decide +kernel
theorem d_M_typeAsked_36 : decode b_M_typeAsked 36 = .ok (.ldc2_w 544, 3) := by decide +kernel
theorem d_M_typeAsked_39 : decode b_M_typeAsked 39 = .ok (.invokevirtual 499, 3) := by decide +kernel
theorem d_M_typeAsked_42 : decode b_M_typeAsked 42 = .ok (.pop, 1) := by decide +kernel
theorem d_M_typeAsked_43 : decode b_M_typeAsked 43 = .ok (.aload_n 0, 1) := by decide +kernel
theorem d_M_typeAsked_44 : decode b_M_typeAsked 44 = .ok (.getfield 491, 3) := by decide +kernel
theorem d_M_typeAsked_47 : decode b_M_typeAsked 47 = .ok (.ldc2_w 697, 3) := by decide +kernel
theorem d_M_typeAsked_50 : decode b_M_typeAsked 50 = .ok (.lcmp, 1) := by decide +kernel
theorem d_M_typeAsked_51 : decode b_M_typeAsked 51 = .ok (.ifCond .eq 14, 3) := by decide +kernel
theorem d_M_typeAsked_54 : decode b_M_typeAsked 54 = .ok (.aload_n 0, 1) := by decide +kernel
theorem d_M_typeAsked_55 : decode b_M_typeAsked 55 = .ok (.getfield 491, 3) := by decide +kernel
theorem d_M_typeAsked_58 : decode b_M_typeAsked 58 = .ok (.ldc2_w 699, 3) := by decide +kernel
theorem d_M_typeAsked_61 : decode b_M_typeAsked 61 = .ok (.lcmp, 1) := by decide +kernel
theorem d_M_typeAsked_62 : decode b_M_typeAsked 62 = .ok (.ifCond .ne 19, 3) := by decide +kernel
theorem d_M_typeAsked_65 : decode b_M_typeAsked 65 = .ok (.aload_n 0, 1) := by decide +kernel
theorem d_M_typeAsked_66 : decode b_M_typeAsked 66 = .ok (.getfield 491, 3) := by decide +kernel
theorem d_M_typeAsked_69 : decode b_M_typeAsked 69 = .ok (.iload_n 1, 1) := by decide +kernel
theorem d_M_typeAsked_70 : decode b_M_typeAsked 70 = .ok (.i2l, 1) := by decide +kernel
theorem d_M_typeAsked_71 : decode b_M_typeAsked 71 = .ok (.lcmp, 1) := by decide +kernel
theorem d_M_typeAsked_72 : decode b_M_typeAsked 72 = .ok (.ifCond .eq 9, 3) := by decide +kernel
theorem d_M_typeAsked_75 : decode b_M_typeAsked 75 = .ok (.aload_n 0, 1) := by decide +kernel
theorem d_M_typeAsked_76 : decode b_M_typeAsked 76 = .ok (.getfield 491, 3) := by decide +kernel
theorem d_M_typeAsked_79 : decode b_M_typeAsked 79 = .ok (.l2i, 1) := by decide +kernel
theorem d_M_typeAsked_80 : decode b_M_typeAsked 80 = .ok (.ireturn, 1) := by decide +kernel
theorem d_M_typeAsked_81 : decode b_M_typeAsked 81 = .ok (.iinc 2 1, 3) := by decide +kernel
theorem d_M_typeAsked_84 : decode b_M_typeAsked 84 = .ok (.goto (-82), 3) := by decide +kernel
theorem d_M_typeAsked_87 : decode b_M_typeAsked 87 = .ok (.iconst 0, 1) := by decide +kernel
theorem d_M_typeAsked_88 : decode b_M_typeAsked 88 = .ok (.ireturn, 1) := by decide +kernel
abbrev b_M_padata : ByteArray := prog_14_method_103_code
def y_M_padata : MethodName := ⟨R_M, "padata", "(I)Z"⟩
abbrev k_M_padata : Cond := .code y_M_padata b_M_padata 3 (some .boolean)
theorem ki_M_padata : k_M_padata ∈ lw_tg := in_t 2506 (by decide +kernel)
theorem ks_M_padata : Cond.instanceMethod y_M_padata ∈ lw_tg := in_t 2505 (by decide +kernel)
theorem kx_M_padata : Cond.selects R_M y_M_padata y_M_padata ∈ lw_tg := List.mem_filter.mpr ⟨List.mem_append_left _ (List.mem_of_getElem? (i := 121) (by decide +kernel)), rfl⟩
theorem kl_M_padata : Cond.methodLink R_M 749 y_M_padata ∈ lw_tg := in_t 2503 (by decide +kernel)
theorem hd_M_padata : y_M_padata.cls = R_M ∧ y_M_padata.cls ≠ "java/lang/invoke/MethodHandle" ∧ y_M_padata.cls ≠ "java/lang/invoke/VarHandle" ∧ (parseMethodDescriptor y_M_padata.desc).map (fun d => d.parameters.length) = some 1 := by decide +kernel
theorem d_M_padata_0 : decode b_M_padata 0 = .ok (.aload_n 0, 1) := by decide +kernel
theorem d_M_padata_1 : decode b_M_padata 1 = .ok (.iconst 0, 1) := by decide +kernel
theorem d_M_padata_2 : decode b_M_padata 2 = .ok (.iconst 3, 1) := by decide +kernel
theorem d_M_padata_3 : decode b_M_padata 3 = .ok (.invokevirtual 675, 3) := by decide +kernel
theorem d_M_padata_6 : decode b_M_padata 6 = .ok (.ifCond .ne 5, 3) := by decide +kernel
theorem d_M_padata_9 : decode b_M_padata 9 = .ok (.iconst 0, 1) := by decide +kernel
theorem d_M_padata_10 : decode b_M_padata 10 = .ok (.ireturn, 1) := by decide +kernel
theorem d_M_padata_11 : decode b_M_padata 11 = .ok (.iconst 0, 1) := by decide +kernel
theorem d_M_padata_12 : decode b_M_padata 12 = .ok (.istore_n 2, 1) := by decide +kernel
theorem d_M_padata_13 : decode b_M_padata 13 = .ok (.aload_n 0, 1) := by decide +kernel
theorem d_M_padata_14 : decode b_M_padata 14 = .ok (.aload_n 0, 1) := by decide +kernel
theorem d_M_padata_15 : decode b_M_padata 15 = .ok (.iconst 0, 1) := by decide +kernel
theorem d_M_padata_16 : decode b_M_padata 16 = .ok (.iconst 3, 1) := by decide +kernel
theorem d_M_padata_17 : decode b_M_padata 17 = .ok (.invokevirtual 536, 3) := by decide +kernel
theorem d_M_padata_20 : decode b_M_padata 20 = .ok (.aload_n 0, 1) := by decide +kernel
theorem d_M_padata_21 : decode b_M_padata 21 = .ok (.iconst 0, 1) := by decide +kernel
theorem d_M_padata_22 : decode b_M_padata 22 = .ok (.iconst 3, 1) := by decide +kernel
theorem d_M_padata_23 : decode b_M_padata 23 = .ok (.invokevirtual 539, 3) := by decide +kernel
theorem d_M_padata_26 : decode b_M_padata 26 = .ok (.iload_n 2, 1) := by decide +kernel
theorem d_M_padata_27 : decode b_M_padata 27 = .ok (.invokevirtual 694, 3) := by decide +kernel
theorem d_M_padata_30 : decode b_M_padata 30 = .ok (.ifCond .eq 65, 3) := by decide +kernel
theorem d_M_padata_33 : decode b_M_padata 33 = .ok (.aload_n 0, 1) := by decide +kernel
theorem d_M_padata_34 : decode b_M_padata 34 = .ok (.ldc_w 526, 3) := by decide +kernel
theorem d_M_padata_37 : decode b_M_padata 37 = .ok (.aload_n 0, 1) := by decide +kernel
theorem d_M_padata_38 : decode b_M_padata 38 = .ok (.getfield 688, 3) := by decide +kernel
theorem d_M_padata_41 : decode b_M_padata 41 = .ok (.aload_n 0, 1) := by decide +kernel
theorem d_M_padata_42 : decode b_M_padata 42 = .ok (.getfield 691, 3) := by decide +kernel
theorem d_M_padata_45 : decode b_M_padata 45 = .ok (.bipush 10, 2) := by decide +kernel
theorem d_M_padata_47 : decode b_M_padata 47 = .ok (.invokevirtual 487, 3) := by decide +kernel
theorem d_M_padata_50 : decode b_M_padata 50 = .ok (.pop, 1) := by decide +kernel
theorem d_M_padata_51 : decode b_M_padata 51 = .ok (.aload_n 0, 1) := by decide +kernel
theorem d_M_padata_52 : decode b_M_padata 52 = .ok (.bipush 10, 2) := by decide +kernel
theorem d_M_padata_54 : decode b_M_padata 54 = .ok (.iconst 1, 1) := by decide +kernel
theorem d_M_padata_55 : decode b_M_padata 55 = .ok (.invokevirtual 665, 3) := by decide +kernel
theorem d_M_padata_58 : decode b_M_padata 58 = .ok (.iload_n 1, 1) := by decide +kernel
theorem d_M_padata_59 : decode b_M_padata 59 = .ok (.i2l, 1) := by decide +kernel
theorem d_M_padata_60 : decode b_M_padata 60 = .ok (.lcmp, 1) := by decide +kernel
theorem d_M_padata_61 : decode b_M_padata 61 = .ok (.ifCond .eq 6, 3) := by decide +kernel
theorem d_M_padata_64 : decode b_M_padata 64 = .ok (.goto 25, 3) := by decide +kernel
theorem d_M_padata_67 : decode b_M_padata 67 = .ok (.aload_n 0, 1) := by decide +kernel
theorem d_M_padata_68 : decode b_M_padata 68 = .ok (.aload_n 0, 1) := by decide +kernel
theorem d_M_padata_69 : decode b_M_padata 69 = .ok (.bipush 10, 2) := by decide +kernel
theorem d_M_padata_71 : decode b_M_padata 71 = .ok (.iconst 2, 1) := by decide +kernel
theorem d_M_padata_72 : decode b_M_padata 72 = .ok (.invokevirtual 536, 3) := by decide +kernel
theorem d_M_padata_75 : decode b_M_padata 75 = .ok (.aload_n 0, 1) := by decide +kernel
theorem d_M_padata_76 : decode b_M_padata 76 = .ok (.bipush 10, 2) := by decide +kernel
theorem d_M_padata_78 : decode b_M_padata 78 = .ok (.iconst 2, 1) := by decide +kernel
theorem d_M_padata_79 : decode b_M_padata 79 = .ok (.invokevirtual 539, 3) := by decide +kernel
theorem d_M_padata_82 : decode b_M_padata 82 = .ok (.iconst 4, 1) := by decide +kernel
theorem d_M_padata_83 : decode b_M_padata 83 = .ok (.invokevirtual 476, 3) := by decide +kernel
theorem d_M_padata_86 : decode b_M_padata 86 = .ok (.pop, 1) := by decide +kernel
theorem d_M_padata_87 : decode b_M_padata 87 = .ok (.iconst 1, 1) := by decide +kernel
theorem d_M_padata_88 : decode b_M_padata 88 = .ok (.ireturn, 1) := by decide +kernel
theorem d_M_padata_89 : decode b_M_padata 89 = .ok (.iinc 2 1, 3) := by decide +kernel
theorem d_M_padata_92 : decode b_M_padata 92 = .ok (.goto (-79), 3) := by decide +kernel
theorem d_M_padata_95 : decode b_M_padata 95 = .ok (.iconst 0, 1) := by decide +kernel
theorem d_M_padata_96 : decode b_M_padata 96 = .ok (.ireturn, 1) := by decide +kernel
abbrev b_M_mayOptions : ByteArray := prog_14_method_104_code
def y_M_mayOptions : MethodName := ⟨R_M, "mayOptions", "(I)Z"⟩
abbrev k_M_mayOptions : Cond := .code y_M_mayOptions b_M_mayOptions 3 (some .boolean)
theorem ki_M_mayOptions : k_M_mayOptions ∈ lw_tg := in_t 2472 (by decide +kernel)
theorem ks_M_mayOptions : Cond.instanceMethod y_M_mayOptions ∈ lw_tg := in_t 2471 (by decide +kernel)
theorem kx_M_mayOptions : Cond.selects R_M y_M_mayOptions y_M_mayOptions ∈ lw_tg := List.mem_filter.mpr ⟨List.mem_append_left _ (List.mem_of_getElem? (i := 114) (by decide +kernel)), rfl⟩
theorem kl_M_mayOptions : Cond.methodLink R_M 728 y_M_mayOptions ∈ lw_tg := in_t 2469 (by decide +kernel)
theorem hd_M_mayOptions : y_M_mayOptions.cls = R_M ∧ y_M_mayOptions.cls ≠ "java/lang/invoke/MethodHandle" ∧ y_M_mayOptions.cls ≠ "java/lang/invoke/VarHandle" ∧ (parseMethodDescriptor y_M_mayOptions.desc).map (fun d => d.parameters.length) = some 1 := by decide +kernel
theorem d_M_mayOptions_0 : decode b_M_mayOptions 0 = .ok (.iconst 1, 1) := by decide +kernel
theorem d_M_mayOptions_1 : decode b_M_mayOptions 1 = .ok (.invokestatic 701, 3) := by decide +kernel
theorem d_M_mayOptions_4 : decode b_M_mayOptions 4 = .ok (.iconst 3, 1) := by decide +kernel
theorem d_M_mayOptions_5 : decode b_M_mayOptions 5 = .ok (.invokestatic 701, 3) := by decide +kernel
theorem d_M_mayOptions_8 : decode b_M_mayOptions 8 = .ok (.ior, 1) := by decide +kernel
theorem d_M_mayOptions_9 : decode b_M_mayOptions 9 = .ok (.bipush 8, 2) := by decide +kernel
theorem d_M_mayOptions_11 : decode b_M_mayOptions 11 = .ok (.invokestatic 701, 3) := by decide +kernel
theorem d_M_mayOptions_14 : decode b_M_mayOptions 14 = .ok (.ior, 1) := by decide +kernel
theorem d_M_mayOptions_15 : decode b_M_mayOptions 15 = .ok (.bipush 15, 2) := by decide +kernel
theorem d_M_mayOptions_17 : decode b_M_mayOptions 17 = .ok (.invokestatic 701, 3) := by decide +kernel
theorem d_M_mayOptions_20 : decode b_M_mayOptions 20 = .ok (.ior, 1) := by decide +kernel
theorem d_M_mayOptions_21 : decode b_M_mayOptions 21 = .ok (.bipush 26, 2) := by decide +kernel
theorem d_M_mayOptions_23 : decode b_M_mayOptions 23 = .ok (.invokestatic 701, 3) := by decide +kernel
theorem d_M_mayOptions_26 : decode b_M_mayOptions 26 = .ok (.ior, 1) := by decide +kernel
theorem d_M_mayOptions_27 : decode b_M_mayOptions 27 = .ok (.bipush 27, 2) := by decide +kernel
theorem d_M_mayOptions_29 : decode b_M_mayOptions 29 = .ok (.invokestatic 701, 3) := by decide +kernel
theorem d_M_mayOptions_32 : decode b_M_mayOptions 32 = .ok (.ior, 1) := by decide +kernel
theorem d_M_mayOptions_33 : decode b_M_mayOptions 33 = .ok (.iload_n 1, 1) := by decide +kernel
theorem d_M_mayOptions_34 : decode b_M_mayOptions 34 = .ok (.ior, 1) := by decide +kernel
theorem d_M_mayOptions_35 : decode b_M_mayOptions 35 = .ok (.istore_n 2, 1) := by decide +kernel
theorem d_M_mayOptions_36 : decode b_M_mayOptions 36 = .ok (.aload_n 0, 1) := by decide +kernel
theorem d_M_mayOptions_37 : decode b_M_mayOptions 37 = .ok (.iconst 1, 1) := by decide +kernel
theorem d_M_mayOptions_38 : decode b_M_mayOptions 38 = .ok (.iconst 0, 1) := by decide +kernel
theorem d_M_mayOptions_39 : decode b_M_mayOptions 39 = .ok (.invokevirtual 704, 3) := by decide +kernel
theorem d_M_mayOptions_42 : decode b_M_mayOptions 42 = .ok (.iload_n 2, 1) := by decide +kernel
theorem d_M_mayOptions_43 : decode b_M_mayOptions 43 = .ok (.iconst (-1), 1) := by decide +kernel
theorem d_M_mayOptions_44 : decode b_M_mayOptions 44 = .ok (.ixor, 1) := by decide +kernel
theorem d_M_mayOptions_45 : decode b_M_mayOptions 45 = .ok (.iand, 1) := by decide +kernel
theorem d_M_mayOptions_46 : decode b_M_mayOptions 46 = .ok (.ifCond .ne 16, 3) := by decide +kernel
theorem d_M_mayOptions_49 : decode b_M_mayOptions 49 = .ok (.aload_n 0, 1) := by decide +kernel
theorem d_M_mayOptions_50 : decode b_M_mayOptions 50 = .ok (.iconst 1, 1) := by decide +kernel
theorem d_M_mayOptions_51 : decode b_M_mayOptions 51 = .ok (.iconst 0, 1) := by decide +kernel
theorem d_M_mayOptions_52 : decode b_M_mayOptions 52 = .ok (.invokevirtual 707, 3) := by decide +kernel
theorem d_M_mayOptions_55 : decode b_M_mayOptions 55 = .ok (.ifCond .ne 7, 3) := by decide +kernel
theorem d_M_mayOptions_58 : decode b_M_mayOptions 58 = .ok (.iconst 1, 1) := by decide +kernel
theorem d_M_mayOptions_59 : decode b_M_mayOptions 59 = .ok (.goto 4, 3) := by decide +kernel
theorem d_M_mayOptions_62 : decode b_M_mayOptions 62 = .ok (.iconst 0, 1) := by decide +kernel
theorem d_M_mayOptions_63 : decode b_M_mayOptions 63 = .ok (.ireturn, 1) := by decide +kernel
abbrev b_M_isFar : ByteArray := prog_14_method_105_code
def y_M_isFar : MethodName := ⟨R_M, "isFar", "(JJ)Z"⟩
abbrev k_M_isFar : Cond := .code y_M_isFar b_M_isFar 5 (some .boolean)
theorem ki_M_isFar : k_M_isFar ∈ lw_tg := in_t 2530 (by decide +kernel)
theorem ks_M_isFar : Cond.instanceMethod y_M_isFar ∈ lw_tg := in_t 2529 (by decide +kernel)
theorem kx_M_isFar : Cond.selects R_M y_M_isFar y_M_isFar ∈ lw_tg := List.mem_filter.mpr ⟨List.mem_append_left _ (List.mem_of_getElem? (i := 126) (by decide +kernel)), rfl⟩
theorem kl_M_isFar : Cond.methodLink R_M 771 y_M_isFar ∈ lw_tg := in_t 2527 (by decide +kernel)
theorem hd_M_isFar : y_M_isFar.cls = R_M ∧ y_M_isFar.cls ≠ "java/lang/invoke/MethodHandle" ∧ y_M_isFar.cls ≠ "java/lang/invoke/VarHandle" ∧ (parseMethodDescriptor y_M_isFar.desc).map (fun d => d.parameters.length) = some 2 := by decide +kernel
theorem d_M_isFar_0 : decode b_M_isFar 0 = .ok (.lload_n 1, 1) := by decide +kernel
theorem d_M_isFar_1 : decode b_M_isFar 1 = .ok (.lload_n 3, 1) := by decide +kernel
theorem d_M_isFar_2 : decode b_M_isFar 2 = .ok (.ldc2_w 646, 3) := by decide +kernel
theorem d_M_isFar_5 : decode b_M_isFar 5 = .ok (.ladd, 1) := by decide +kernel
theorem d_M_isFar_6 : decode b_M_isFar 6 = .ok (.lcmp, 1) := by decide +kernel
theorem d_M_isFar_7 : decode b_M_isFar 7 = .ok (.ifCond .gt 13, 3) := by decide +kernel
theorem d_M_isFar_10 : decode b_M_isFar 10 = .ok (.lload_n 1, 1) := by decide +kernel
theorem d_M_isFar_11 : decode b_M_isFar 11 = .ok (.lload_n 3, 1) := by decide +kernel
theorem d_M_isFar_12 : decode b_M_isFar 12 = .ok (.ldc2_w 646, 3) := by decide +kernel
theorem d_M_isFar_15 : decode b_M_isFar 15 = .ok (.lsub, 1) := by decide +kernel
theorem d_M_isFar_16 : decode b_M_isFar 16 = .ok (.lcmp, 1) := by decide +kernel
theorem d_M_isFar_17 : decode b_M_isFar 17 = .ok (.ifCond .ge 7, 3) := by decide +kernel
theorem d_M_isFar_20 : decode b_M_isFar 20 = .ok (.iconst 1, 1) := by decide +kernel
theorem d_M_isFar_21 : decode b_M_isFar 21 = .ok (.goto 4, 3) := by decide +kernel
theorem d_M_isFar_24 : decode b_M_isFar 24 = .ok (.iconst 0, 1) := by decide +kernel
theorem d_M_isFar_25 : decode b_M_isFar 25 = .ok (.ireturn, 1) := by decide +kernel
abbrev b_M_forService : ByteArray := prog_14_method_106_code
def y_M_forService : MethodName := ⟨R_M, "forService", "()I"⟩
abbrev k_M_forService : Cond := .code y_M_forService b_M_forService 1 (some .int)
theorem ki_M_forService : k_M_forService ∈ lw_tg := in_t 2468 (by decide +kernel)
theorem ks_M_forService : Cond.instanceMethod y_M_forService ∈ lw_tg := in_t 2467 (by decide +kernel)
theorem kx_M_forService : Cond.selects R_M y_M_forService y_M_forService ∈ lw_tg := List.mem_filter.mpr ⟨List.mem_append_left _ (List.mem_of_getElem? (i := 113) (by decide +kernel)), rfl⟩
theorem kl_M_forService : Cond.methodLink R_M 725 y_M_forService ∈ lw_tg := in_t 2465 (by decide +kernel)
theorem hd_M_forService : y_M_forService.cls = R_M ∧ y_M_forService.cls ≠ "java/lang/invoke/MethodHandle" ∧ y_M_forService.cls ≠ "java/lang/invoke/VarHandle" ∧ (parseMethodDescriptor y_M_forService.desc).map (fun d => d.parameters.length) = some 0 := by decide +kernel
theorem d_M_forService_0 : decode b_M_forService 0 = .ok (.aload_n 0, 1) := by decide +kernel
theorem d_M_forService_1 : decode b_M_forService 1 = .ok (.aload_n 0, 1) := by decide +kernel
theorem d_M_forService_2 : decode b_M_forService 2 = .ok (.aload_n 0, 1) := by decide +kernel
theorem d_M_forService_3 : decode b_M_forService 3 = .ok (.iconst 1, 1) := by decide +kernel
theorem d_M_forService_4 : decode b_M_forService 4 = .ok (.iconst 3, 1) := by decide +kernel
theorem d_M_forService_5 : decode b_M_forService 5 = .ok (.invokevirtual 536, 3) := by decide +kernel
theorem d_M_forService_8 : decode b_M_forService 8 = .ok (.aload_n 0, 1) := by decide +kernel
theorem d_M_forService_9 : decode b_M_forService 9 = .ok (.iconst 1, 1) := by decide +kernel
theorem d_M_forService_10 : decode b_M_forService 10 = .ok (.iconst 3, 1) := by decide +kernel
theorem d_M_forService_11 : decode b_M_forService 11 = .ok (.invokevirtual 539, 3) := by decide +kernel
theorem d_M_forService_14 : decode b_M_forService 14 = .ok (.invokevirtual 710, 3) := by decide +kernel
theorem d_M_forService_17 : decode b_M_forService 17 = .ok (.putfield 713, 3) := by decide +kernel
theorem d_M_forService_20 : decode b_M_forService 20 = .ok (.aload_n 0, 1) := by decide +kernel
theorem d_M_forService_21 : decode b_M_forService 21 = .ok (.getfield 713, 3) := by decide +kernel
theorem d_M_forService_24 : decode b_M_forService 24 = .ok (.ifCond .ge 6, 3) := by decide +kernel
theorem d_M_forService_27 : decode b_M_forService 27 = .ok (.bipush 7, 2) := by decide +kernel
theorem d_M_forService_29 : decode b_M_forService 29 = .ok (.ireturn, 1) := by decide +kernel
theorem d_M_forService_30 : decode b_M_forService 30 = .ok (.aload_n 0, 1) := by decide +kernel
theorem d_M_forService_31 : decode b_M_forService 31 = .ok (.aload_n 0, 1) := by decide +kernel
theorem d_M_forService_32 : decode b_M_forService 32 = .ok (.getfield 713, 3) := by decide +kernel
theorem d_M_forService_35 : decode b_M_forService 35 = .ok (.bipush 32, 2) := by decide +kernel
theorem d_M_forService_37 : decode b_M_forService 37 = .ok (.invokevirtual 716, 3) := by decide +kernel
theorem d_M_forService_40 : decode b_M_forService 40 = .ok (.ifCond .ne 16, 3) := by decide +kernel
theorem d_M_forService_43 : decode b_M_forService 43 = .ok (.aload_n 0, 1) := by decide +kernel
theorem d_M_forService_44 : decode b_M_forService 44 = .ok (.aload_n 0, 1) := by decide +kernel
theorem d_M_forService_45 : decode b_M_forService 45 = .ok (.getfield 713, 3) := by decide +kernel
theorem d_M_forService_48 : decode b_M_forService 48 = .ok (.bipush 16, 2) := by decide +kernel
theorem d_M_forService_50 : decode b_M_forService 50 = .ok (.invokevirtual 716, 3) := by decide +kernel
theorem d_M_forService_53 : decode b_M_forService 53 = .ok (.ifCond .eq 6, 3) := by decide +kernel
theorem d_M_forService_56 : decode b_M_forService 56 = .ok (.bipush 12, 2) := by decide +kernel
theorem d_M_forService_58 : decode b_M_forService 58 = .ok (.ireturn, 1) := by decide +kernel
theorem d_M_forService_59 : decode b_M_forService 59 = .ok (.aload_n 0, 1) := by decide +kernel
theorem d_M_forService_60 : decode b_M_forService 60 = .ok (.aload_n 0, 1) := by decide +kernel
theorem d_M_forService_61 : decode b_M_forService 61 = .ok (.getfield 713, 3) := by decide +kernel
theorem d_M_forService_64 : decode b_M_forService 64 = .ok (.invokevirtual 719, 3) := by decide +kernel
theorem d_M_forService_67 : decode b_M_forService 67 = .ok (.ifCond .eq 7, 3) := by decide +kernel
theorem d_M_forService_70 : decode b_M_forService 70 = .ok (.iconst 2, 1) := by decide +kernel
theorem d_M_forService_71 : decode b_M_forService 71 = .ok (.goto 4, 3) := by decide +kernel
theorem d_M_forService_74 : decode b_M_forService 74 = .ok (.iconst 0, 1) := by decide +kernel
theorem d_M_forService_75 : decode b_M_forService 75 = .ok (.ireturn, 1) := by decide +kernel
abbrev b_M_initial : ByteArray := prog_14_method_107_code
def y_M_initial : MethodName := ⟨R_M, "initial", "()I"⟩
abbrev k_M_initial : Cond := .code y_M_initial b_M_initial 2 (some .int)
theorem ki_M_initial : k_M_initial ∈ lw_tg := in_t 2448 (by decide +kernel)
theorem ks_M_initial : Cond.instanceMethod y_M_initial ∈ lw_tg := in_t 2447 (by decide +kernel)
theorem kx_M_initial : Cond.selects R_M y_M_initial y_M_initial ∈ lw_tg := List.mem_filter.mpr ⟨List.mem_append_left _ (List.mem_of_getElem? (i := 108) (by decide +kernel)), rfl⟩
theorem kl_M_initial : Cond.methodLink R_M 682 y_M_initial ∈ lw_tg := in_t 2445 (by decide +kernel)
theorem hd_M_initial : y_M_initial.cls = R_M ∧ y_M_initial.cls ≠ "java/lang/invoke/MethodHandle" ∧ y_M_initial.cls ≠ "java/lang/invoke/VarHandle" ∧ (parseMethodDescriptor y_M_initial.desc).map (fun d => d.parameters.length) = some 0 := by decide +kernel
theorem d_M_initial_0 : decode b_M_initial 0 = .ok (.aload_n 0, 1) := by decide +kernel
theorem d_M_initial_1 : decode b_M_initial 1 = .ok (.aload_n 0, 1) := by decide +kernel
theorem d_M_initial_2 : decode b_M_initial 2 = .ok (.iconst 1, 1) := by decide +kernel
theorem d_M_initial_3 : decode b_M_initial 3 = .ok (.iconst 1, 1) := by decide +kernel
theorem d_M_initial_4 : decode b_M_initial 4 = .ok (.invokevirtual 675, 3) := by decide +kernel
theorem d_M_initial_7 : decode b_M_initial 7 = .ok (.ifCond .eq 22, 3) := by decide +kernel
theorem d_M_initial_10 : decode b_M_initial 10 = .ok (.aload_n 0, 1) := by decide +kernel
theorem d_M_initial_11 : decode b_M_initial 11 = .ok (.aload_n 0, 1) := by decide +kernel
theorem d_M_initial_12 : decode b_M_initial 12 = .ok (.iconst 1, 1) := by decide +kernel
theorem d_M_initial_13 : decode b_M_initial 13 = .ok (.iconst 1, 1) := by decide +kernel
theorem d_M_initial_14 : decode b_M_initial 14 = .ok (.invokevirtual 536, 3) := by decide +kernel
theorem d_M_initial_17 : decode b_M_initial 17 = .ok (.aload_n 0, 1) := by decide +kernel
theorem d_M_initial_18 : decode b_M_initial 18 = .ok (.iconst 1, 1) := by decide +kernel
theorem d_M_initial_19 : decode b_M_initial 19 = .ok (.iconst 1, 1) := by decide +kernel
theorem d_M_initial_20 : decode b_M_initial 20 = .ok (.invokevirtual 539, 3) := by decide +kernel
theorem d_M_initial_23 : decode b_M_initial 23 = .ok (.invokevirtual 710, 3) := by decide +kernel
theorem d_M_initial_26 : decode b_M_initial 26 = .ok (.goto 4, 3) := by decide +kernel
theorem d_M_initial_29 : decode b_M_initial 29 = .ok (.iconst (-1), 1) := by decide +kernel
theorem d_M_initial_30 : decode b_M_initial 30 = .ok (.putfield 722, 3) := by decide +kernel
theorem d_M_initial_33 : decode b_M_initial 33 = .ok (.aload_n 0, 1) := by decide +kernel
theorem d_M_initial_34 : decode b_M_initial 34 = .ok (.getfield 722, 3) := by decide +kernel
theorem d_M_initial_37 : decode b_M_initial 37 = .ok (.ifCond .ge 6, 3) := by decide +kernel
theorem d_M_initial_40 : decode b_M_initial 40 = .ok (.bipush 6, 2) := by decide +kernel
theorem d_M_initial_42 : decode b_M_initial 42 = .ok (.ireturn, 1) := by decide +kernel
theorem d_M_initial_43 : decode b_M_initial 43 = .ok (.aload_n 0, 1) := by decide +kernel
theorem d_M_initial_44 : decode b_M_initial 44 = .ok (.aload_n 0, 1) := by decide +kernel
theorem d_M_initial_45 : decode b_M_initial 45 = .ok (.getfield 722, 3) := by decide +kernel
theorem d_M_initial_48 : decode b_M_initial 48 = .ok (.bipush 32, 2) := by decide +kernel
theorem d_M_initial_50 : decode b_M_initial 50 = .ok (.invokevirtual 716, 3) := by decide +kernel
theorem d_M_initial_53 : decode b_M_initial 53 = .ok (.ifCond .eq 6, 3) := by decide +kernel
theorem d_M_initial_56 : decode b_M_initial 56 = .ok (.bipush 18, 2) := by decide +kernel
theorem d_M_initial_58 : decode b_M_initial 58 = .ok (.ireturn, 1) := by decide +kernel
theorem d_M_initial_59 : decode b_M_initial 59 = .ok (.aload_n 0, 1) := by decide +kernel
theorem d_M_initial_60 : decode b_M_initial 60 = .ok (.aload_n 0, 1) := by decide +kernel
theorem d_M_initial_61 : decode b_M_initial 61 = .ok (.getfield 722, 3) := by decide +kernel
theorem d_M_initial_64 : decode b_M_initial 64 = .ok (.invokevirtual 719, 3) := by decide +kernel
theorem d_M_initial_67 : decode b_M_initial 67 = .ok (.ifCond .eq 5, 3) := by decide +kernel
theorem d_M_initial_70 : decode b_M_initial 70 = .ok (.iconst 1, 1) := by decide +kernel
theorem d_M_initial_71 : decode b_M_initial 71 = .ok (.ireturn, 1) := by decide +kernel
theorem d_M_initial_72 : decode b_M_initial 72 = .ok (.aload_n 0, 1) := by decide +kernel
theorem d_M_initial_73 : decode b_M_initial 73 = .ok (.invokevirtual 725, 3) := by decide +kernel
theorem d_M_initial_76 : decode b_M_initial 76 = .ok (.istore_n 1, 1) := by decide +kernel
theorem d_M_initial_77 : decode b_M_initial 77 = .ok (.iload_n 1, 1) := by decide +kernel
theorem d_M_initial_78 : decode b_M_initial 78 = .ok (.ifCond .eq 5, 3) := by decide +kernel
theorem d_M_initial_81 : decode b_M_initial 81 = .ok (.iload_n 1, 1) := by decide +kernel
theorem d_M_initial_82 : decode b_M_initial 82 = .ok (.ireturn, 1) := by decide +kernel
theorem d_M_initial_83 : decode b_M_initial 83 = .ok (.aload_n 0, 1) := by decide +kernel
theorem d_M_initial_84 : decode b_M_initial 84 = .ok (.iconst 0, 1) := by decide +kernel
theorem d_M_initial_85 : decode b_M_initial 85 = .ok (.invokevirtual 728, 3) := by decide +kernel
theorem d_M_initial_88 : decode b_M_initial 88 = .ok (.ifCond .ne 6, 3) := by decide +kernel
theorem d_M_initial_91 : decode b_M_initial 91 = .ok (.bipush 13, 2) := by decide +kernel
theorem d_M_initial_93 : decode b_M_initial 93 = .ok (.ireturn, 1) := by decide +kernel
theorem d_M_initial_94 : decode b_M_initial 94 = .ok (.aload_n 0, 1) := by decide +kernel
theorem d_M_initial_95 : decode b_M_initial 95 = .ok (.iconst 1, 1) := by decide +kernel
theorem d_M_initial_96 : decode b_M_initial 96 = .ok (.iconst 4, 1) := by decide +kernel
theorem d_M_initial_97 : decode b_M_initial 97 = .ok (.invokevirtual 675, 3) := by decide +kernel
theorem d_M_initial_100 : decode b_M_initial 100 = .ok (.ifCond .eq 25, 3) := by decide +kernel
theorem d_M_initial_103 : decode b_M_initial 103 = .ok (.aload_n 0, 1) := by decide +kernel
theorem d_M_initial_104 : decode b_M_initial 104 = .ok (.iconst 1, 1) := by decide +kernel
theorem d_M_initial_105 : decode b_M_initial 105 = .ok (.iconst 4, 1) := by decide +kernel
theorem d_M_initial_106 : decode b_M_initial 106 = .ok (.invokevirtual 731, 3) := by decide +kernel
theorem d_M_initial_109 : decode b_M_initial 109 = .ok (.aload_n 0, 1) := by decide +kernel
theorem d_M_initial_110 : decode b_M_initial 110 = .ok (.getfield 18, 3) := by decide +kernel
theorem d_M_initial_113 : decode b_M_initial 113 = .ok (.i2l, 1) := by decide +kernel
theorem d_M_initial_114 : decode b_M_initial 114 = .ok (.ldc2_w 646, 3) := by decide +kernel
theorem d_M_initial_117 : decode b_M_initial 117 = .ok (.ladd, 1) := by decide +kernel
theorem d_M_initial_118 : decode b_M_initial 118 = .ok (.lcmp, 1) := by decide +kernel
theorem d_M_initial_119 : decode b_M_initial 119 = .ok (.ifCond .le 6, 3) := by decide +kernel
theorem d_M_initial_122 : decode b_M_initial 122 = .ok (.bipush 10, 2) := by decide +kernel
theorem d_M_initial_124 : decode b_M_initial 124 = .ok (.ireturn, 1) := by decide +kernel
theorem d_M_initial_125 : decode b_M_initial 125 = .ok (.aload_n 0, 1) := by decide +kernel
theorem d_M_initial_126 : decode b_M_initial 126 = .ok (.aload_n 0, 1) := by decide +kernel
theorem d_M_initial_127 : decode b_M_initial 127 = .ok (.iconst 0, 1) := by decide +kernel
theorem d_M_initial_128 : decode b_M_initial 128 = .ok (.invokevirtual 734, 3) := by decide +kernel
theorem d_M_initial_131 : decode b_M_initial 131 = .ok (.putfield 737, 3) := by decide +kernel
theorem d_M_initial_134 : decode b_M_initial 134 = .ok (.aload_n 0, 1) := by decide +kernel
theorem d_M_initial_135 : decode b_M_initial 135 = .ok (.getfield 737, 3) := by decide +kernel
theorem d_M_initial_138 : decode b_M_initial 138 = .ok (.ifCond .ne 6, 3) := by decide +kernel
theorem d_M_initial_141 : decode b_M_initial 141 = .ok (.bipush 14, 2) := by decide +kernel
theorem d_M_initial_143 : decode b_M_initial 143 = .ok (.ireturn, 1) := by decide +kernel
theorem d_M_initial_144 : decode b_M_initial 144 = .ok (.aload_n 0, 1) := by decide +kernel
theorem d_M_initial_145 : decode b_M_initial 145 = .ok (.iconst 0, 1) := by decide +kernel
theorem d_M_initial_146 : decode b_M_initial 146 = .ok (.putfield 740, 3) := by decide +kernel
theorem d_M_initial_149 : decode b_M_initial 149 = .ok (.aload_n 0, 1) := by decide +kernel
theorem d_M_initial_150 : decode b_M_initial 150 = .ok (.aload_n 0, 1) := by decide +kernel
theorem d_M_initial_151 : decode b_M_initial 151 = .ok (.getfield 722, 3) := by decide +kernel
theorem d_M_initial_154 : decode b_M_initial 154 = .ok (.iconst 1, 1) := by decide +kernel
theorem d_M_initial_155 : decode b_M_initial 155 = .ok (.invokevirtual 716, 3) := by decide +kernel
theorem d_M_initial_158 : decode b_M_initial 158 = .ok (.ifCond .eq 19, 3) := by decide +kernel
theorem d_M_initial_161 : decode b_M_initial 161 = .ok (.aload_n 0, 1) := by decide +kernel
theorem d_M_initial_162 : decode b_M_initial 162 = .ok (.invokevirtual 743, 3) := by decide +kernel
theorem d_M_initial_165 : decode b_M_initial 165 = .ok (.istore_n 1, 1) := by decide +kernel
theorem d_M_initial_166 : decode b_M_initial 166 = .ok (.iload_n 1, 1) := by decide +kernel
theorem d_M_initial_167 : decode b_M_initial 167 = .ok (.ifCond .eq 5, 3) := by decide +kernel
theorem d_M_initial_170 : decode b_M_initial 170 = .ok (.iload_n 1, 1) := by decide +kernel
theorem d_M_initial_171 : decode b_M_initial 171 = .ok (.ireturn, 1) := by decide +kernel
theorem d_M_initial_172 : decode b_M_initial 172 = .ok (.aload_n 0, 1) := by decide +kernel
theorem d_M_initial_173 : decode b_M_initial 173 = .ok (.iconst 1, 1) := by decide +kernel
theorem d_M_initial_174 : decode b_M_initial 174 = .ok (.putfield 740, 3) := by decide +kernel
theorem d_M_initial_177 : decode b_M_initial 177 = .ok (.aload_n 0, 1) := by decide +kernel
theorem d_M_initial_178 : decode b_M_initial 178 = .ok (.invokevirtual 746, 3) := by decide +kernel
theorem d_M_initial_181 : decode b_M_initial 181 = .ok (.ireturn, 1) := by decide +kernel
abbrev b_M_shownAhead : ByteArray := prog_14_method_108_code
def y_M_shownAhead : MethodName := ⟨R_M, "shownAhead", "()I"⟩
abbrev k_M_shownAhead : Cond := .code y_M_shownAhead b_M_shownAhead 6 (some .int)
theorem ki_M_shownAhead : k_M_shownAhead ∈ lw_tg := in_t 2502 (by decide +kernel)
theorem ks_M_shownAhead : Cond.instanceMethod y_M_shownAhead ∈ lw_tg := in_t 2501 (by decide +kernel)
theorem kx_M_shownAhead : Cond.selects R_M y_M_shownAhead y_M_shownAhead ∈ lw_tg := List.mem_filter.mpr ⟨List.mem_append_left _ (List.mem_of_getElem? (i := 120) (by decide +kernel)), rfl⟩
theorem kl_M_shownAhead : Cond.methodLink R_M 743 y_M_shownAhead ∈ lw_tg := in_t 2499 (by decide +kernel)
theorem hd_M_shownAhead : y_M_shownAhead.cls = R_M ∧ y_M_shownAhead.cls ≠ "java/lang/invoke/MethodHandle" ∧ y_M_shownAhead.cls ≠ "java/lang/invoke/VarHandle" ∧ (parseMethodDescriptor y_M_shownAhead.desc).map (fun d => d.parameters.length) = some 0 := by decide +kernel
theorem d_M_shownAhead_0 : decode b_M_shownAhead 0 = .ok (.aload_n 0, 1) := by decide +kernel
theorem d_M_shownAhead_1 : decode b_M_shownAhead 1 = .ok (.iconst 2, 1) := by decide +kernel
theorem d_M_shownAhead_2 : decode b_M_shownAhead 2 = .ok (.invokevirtual 749, 3) := by decide +kernel
theorem d_M_shownAhead_5 : decode b_M_shownAhead 5 = .ok (.ifCond .ne 47, 3) := by decide +kernel
theorem d_M_shownAhead_8 : decode b_M_shownAhead 8 = .ok (.aload_n 0, 1) := by decide +kernel
theorem d_M_shownAhead_9 : decode b_M_shownAhead 9 = .ok (.iconst 1, 1) := by decide +kernel
theorem d_M_shownAhead_10 : decode b_M_shownAhead 10 = .ok (.putfield 651, 3) := by decide +kernel
theorem d_M_shownAhead_13 : decode b_M_shownAhead 13 = .ok (.aload_n 0, 1) := by decide +kernel
theorem d_M_shownAhead_14 : decode b_M_shownAhead 14 = .ok (.aload_n 0, 1) := by decide +kernel
theorem d_M_shownAhead_15 : decode b_M_shownAhead 15 = .ok (.getfield 722, 3) := by decide +kernel
theorem d_M_shownAhead_18 : decode b_M_shownAhead 18 = .ok (.putfield 752, 3) := by decide +kernel
theorem d_M_shownAhead_21 : decode b_M_shownAhead 21 = .ok (.aload_n 0, 1) := by decide +kernel
theorem d_M_shownAhead_22 : decode b_M_shownAhead 22 = .ok (.aload_n 0, 1) := by decide +kernel
theorem d_M_shownAhead_23 : decode b_M_shownAhead 23 = .ok (.getfield 737, 3) := by decide +kernel
theorem d_M_shownAhead_26 : decode b_M_shownAhead 26 = .ok (.putfield 755, 3) := by decide +kernel
theorem d_M_shownAhead_29 : decode b_M_shownAhead 29 = .ok (.aload_n 0, 1) := by decide +kernel
theorem d_M_shownAhead_30 : decode b_M_shownAhead 30 = .ok (.aload_n 0, 1) := by decide +kernel
theorem d_M_shownAhead_31 : decode b_M_shownAhead 31 = .ok (.aload_n 0, 1) := by decide +kernel
theorem d_M_shownAhead_32 : decode b_M_shownAhead 32 = .ok (.getfield 737, 3) := by decide +kernel
theorem d_M_shownAhead_35 : decode b_M_shownAhead 35 = .ok (.invokevirtual 734, 3) := by decide +kernel
theorem d_M_shownAhead_38 : decode b_M_shownAhead 38 = .ok (.ifCond .eq 7, 3) := by decide +kernel
theorem d_M_shownAhead_41 : decode b_M_shownAhead 41 = .ok (.iconst 1, 1) := by decide +kernel
theorem d_M_shownAhead_42 : decode b_M_shownAhead 42 = .ok (.goto 4, 3) := by decide +kernel
theorem d_M_shownAhead_45 : decode b_M_shownAhead 45 = .ok (.iconst 0, 1) := by decide +kernel
theorem d_M_shownAhead_46 : decode b_M_shownAhead 46 = .ok (.putfield 758, 3) := by decide +kernel
theorem d_M_shownAhead_49 : decode b_M_shownAhead 49 = .ok (.bipush 25, 2) := by decide +kernel
theorem d_M_shownAhead_51 : decode b_M_shownAhead 51 = .ok (.ireturn, 1) := by decide +kernel
theorem d_M_shownAhead_52 : decode b_M_shownAhead 52 = .ok (.aload_n 0, 1) := by decide +kernel
theorem d_M_shownAhead_53 : decode b_M_shownAhead 53 = .ok (.getfield 470, 3) := by decide +kernel
theorem d_M_shownAhead_56 : decode b_M_shownAhead 56 = .ok (.istore_n 1, 1) := by decide +kernel
theorem d_M_shownAhead_57 : decode b_M_shownAhead 57 = .ok (.aload_n 0, 1) := by decide +kernel
theorem d_M_shownAhead_58 : decode b_M_shownAhead 58 = .ok (.getfield 473, 3) := by decide +kernel
theorem d_M_shownAhead_61 : decode b_M_shownAhead 61 = .ok (.istore_n 2, 1) := by decide +kernel
theorem d_M_shownAhead_62 : decode b_M_shownAhead 62 = .ok (.aload_n 0, 1) := by decide +kernel
theorem d_M_shownAhead_63 : decode b_M_shownAhead 63 = .ok (.ldc_w 516, 3) := by decide +kernel
theorem d_M_shownAhead_66 : decode b_M_shownAhead 66 = .ok (.iload_n 1, 1) := by decide +kernel
theorem d_M_shownAhead_67 : decode b_M_shownAhead 67 = .ok (.iload_n 2, 1) := by decide +kernel
theorem d_M_shownAhead_68 : decode b_M_shownAhead 68 = .ok (.bipush 6, 2) := by decide +kernel
theorem d_M_shownAhead_70 : decode b_M_shownAhead 70 = .ok (.invokevirtual 487, 3) := by decide +kernel
theorem d_M_shownAhead_73 : decode b_M_shownAhead 73 = .ok (.ifCond .ne 6, 3) := by decide +kernel
theorem d_M_shownAhead_76 : decode b_M_shownAhead 76 = .ok (.bipush 24, 2) := by decide +kernel
theorem d_M_shownAhead_78 : decode b_M_shownAhead 78 = .ok (.ireturn, 1) := by decide +kernel
theorem d_M_shownAhead_79 : decode b_M_shownAhead 79 = .ok (.aload_n 0, 1) := by decide +kernel
theorem d_M_shownAhead_80 : decode b_M_shownAhead 80 = .ok (.bipush 6, 2) := by decide +kernel
theorem d_M_shownAhead_82 : decode b_M_shownAhead 82 = .ok (.iconst 0, 1) := by decide +kernel
theorem d_M_shownAhead_83 : decode b_M_shownAhead 83 = .ok (.invokevirtual 665, 3) := by decide +kernel
theorem d_M_shownAhead_86 : decode b_M_shownAhead 86 = .ok (.lstore_n 3, 1) := by decide +kernel
theorem d_M_shownAhead_87 : decode b_M_shownAhead 87 = .ok (.lload_n 3, 1) := by decide +kernel
theorem d_M_shownAhead_88 : decode b_M_shownAhead 88 = .ok (.ldc2_w 697, 3) := by decide +kernel
theorem d_M_shownAhead_91 : decode b_M_shownAhead 91 = .ok (.lcmp, 1) := by decide +kernel
theorem d_M_shownAhead_92 : decode b_M_shownAhead 92 = .ok (.ifCond .eq 14, 3) := by decide +kernel
theorem d_M_shownAhead_95 : decode b_M_shownAhead 95 = .ok (.lload_n 3, 1) := by decide +kernel
theorem d_M_shownAhead_96 : decode b_M_shownAhead 96 = .ok (.ldc2_w 699, 3) := by decide +kernel
theorem d_M_shownAhead_99 : decode b_M_shownAhead 99 = .ok (.lcmp, 1) := by decide +kernel
theorem d_M_shownAhead_100 : decode b_M_shownAhead 100 = .ok (.ifCond .eq 6, 3) := by decide +kernel
theorem d_M_shownAhead_103 : decode b_M_shownAhead 103 = .ok (.bipush 24, 2) := by decide +kernel
theorem d_M_shownAhead_105 : decode b_M_shownAhead 105 = .ok (.ireturn, 1) := by decide +kernel
theorem d_M_shownAhead_106 : decode b_M_shownAhead 106 = .ok (.aload_n 0, 1) := by decide +kernel
theorem d_M_shownAhead_107 : decode b_M_shownAhead 107 = .ok (.aload_n 0, 1) := by decide +kernel
theorem d_M_shownAhead_108 : decode b_M_shownAhead 108 = .ok (.getfield 722, 3) := by decide +kernel
theorem d_M_shownAhead_111 : decode b_M_shownAhead 111 = .ok (.aload_n 0, 1) := by decide +kernel
theorem d_M_shownAhead_112 : decode b_M_shownAhead 112 = .ok (.getfield 107, 3) := by decide +kernel
theorem d_M_shownAhead_115 : decode b_M_shownAhead 115 = .ok (.aload_n 0, 1) := by decide +kernel
theorem d_M_shownAhead_116 : decode b_M_shownAhead 116 = .ok (.getfield 722, 3) := by decide +kernel
theorem d_M_shownAhead_119 : decode b_M_shownAhead 119 = .ok (.iaload, 1) := by decide +kernel
theorem d_M_shownAhead_120 : decode b_M_shownAhead 120 = .ok (.lload_n 3, 1) := by decide +kernel
theorem d_M_shownAhead_121 : decode b_M_shownAhead 121 = .ok (.l2i, 1) := by decide +kernel
theorem d_M_shownAhead_122 : decode b_M_shownAhead 122 = .ok (.aload_n 0, 1) := by decide +kernel
theorem d_M_shownAhead_123 : decode b_M_shownAhead 123 = .ok (.getfield 137, 3) := by decide +kernel
theorem d_M_shownAhead_126 : decode b_M_shownAhead 126 = .ok (.invokevirtual 761, 3) := by decide +kernel
theorem d_M_shownAhead_129 : decode b_M_shownAhead 129 = .ok (.aload_n 0, 1) := by decide +kernel
theorem d_M_shownAhead_130 : decode b_M_shownAhead 130 = .ok (.aload_n 0, 1) := by decide +kernel
theorem d_M_shownAhead_131 : decode b_M_shownAhead 131 = .ok (.bipush 6, 2) := by decide +kernel
theorem d_M_shownAhead_133 : decode b_M_shownAhead 133 = .ok (.iconst 2, 1) := by decide +kernel
theorem d_M_shownAhead_134 : decode b_M_shownAhead 134 = .ok (.invokevirtual 536, 3) := by decide +kernel
theorem d_M_shownAhead_137 : decode b_M_shownAhead 137 = .ok (.aload_n 0, 1) := by decide +kernel
theorem d_M_shownAhead_138 : decode b_M_shownAhead 138 = .ok (.bipush 6, 2) := by decide +kernel
theorem d_M_shownAhead_140 : decode b_M_shownAhead 140 = .ok (.iconst 2, 1) := by decide +kernel
theorem d_M_shownAhead_141 : decode b_M_shownAhead 141 = .ok (.invokevirtual 539, 3) := by decide +kernel
theorem d_M_shownAhead_144 : decode b_M_shownAhead 144 = .ok (.iconst 4, 1) := by decide +kernel
theorem d_M_shownAhead_145 : decode b_M_shownAhead 145 = .ok (.invokevirtual 476, 3) := by decide +kernel
theorem d_M_shownAhead_148 : decode b_M_shownAhead 148 = .ok (.pop, 1) := by decide +kernel
theorem d_M_shownAhead_149 : decode b_M_shownAhead 149 = .ok (.aload_n 0, 1) := by decide +kernel
theorem d_M_shownAhead_150 : decode b_M_shownAhead 150 = .ok (.aload_n 0, 1) := by decide +kernel
theorem d_M_shownAhead_151 : decode b_M_shownAhead 151 = .ok (.getfield 137, 3) := by decide +kernel
theorem d_M_shownAhead_154 : decode b_M_shownAhead 154 = .ok (.lload_n 3, 1) := by decide +kernel
theorem d_M_shownAhead_155 : decode b_M_shownAhead 155 = .ok (.l2i, 1) := by decide +kernel
theorem d_M_shownAhead_156 : decode b_M_shownAhead 156 = .ok (.iconst 1, 1) := by decide +kernel
theorem d_M_shownAhead_157 : decode b_M_shownAhead 157 = .ok (.aload_n 0, 1) := by decide +kernel
theorem d_M_shownAhead_158 : decode b_M_shownAhead 158 = .ok (.getfield 470, 3) := by decide +kernel
theorem d_M_shownAhead_161 : decode b_M_shownAhead 161 = .ok (.aload_n 0, 1) := by decide +kernel
theorem d_M_shownAhead_162 : decode b_M_shownAhead 162 = .ok (.getfield 473, 3) := by decide +kernel
theorem d_M_shownAhead_165 : decode b_M_shownAhead 165 = .ok (.sipush 4200, 3) := by decide +kernel
theorem d_M_shownAhead_168 : decode b_M_shownAhead 168 = .ok (.invokevirtual 765, 3) := by decide +kernel
theorem d_M_shownAhead_171 : decode b_M_shownAhead 171 = .ok (.istore 5, 2) := by decide +kernel
theorem d_M_shownAhead_173 : decode b_M_shownAhead 173 = .ok (.iload 5, 2) := by decide +kernel
theorem d_M_shownAhead_175 : decode b_M_shownAhead 175 = .ok (.ifCond .lt 24, 3) := by decide +kernel
theorem d_M_shownAhead_178 : decode b_M_shownAhead 178 = .ok (.aload_n 0, 1) := by decide +kernel
theorem d_M_shownAhead_179 : decode b_M_shownAhead 179 = .ok (.ldc_w 769, 3) := by decide +kernel
theorem d_M_shownAhead_182 : decode b_M_shownAhead 182 = .ok (.sipush 4200, 3) := by decide +kernel
theorem d_M_shownAhead_185 : decode b_M_shownAhead 185 = .ok (.sipush 4200, 3) := by decide +kernel
theorem d_M_shownAhead_188 : decode b_M_shownAhead 188 = .ok (.iload 5, 2) := by decide +kernel
theorem d_M_shownAhead_190 : decode b_M_shownAhead 190 = .ok (.iadd, 1) := by decide +kernel
theorem d_M_shownAhead_191 : decode b_M_shownAhead 191 = .ok (.bipush 8, 2) := by decide +kernel
theorem d_M_shownAhead_193 : decode b_M_shownAhead 193 = .ok (.invokevirtual 487, 3) := by decide +kernel
theorem d_M_shownAhead_196 : decode b_M_shownAhead 196 = .ok (.ifCond .ne 6, 3) := by decide +kernel
theorem d_M_shownAhead_199 : decode b_M_shownAhead 199 = .ok (.bipush 24, 2) := by decide +kernel
theorem d_M_shownAhead_201 : decode b_M_shownAhead 201 = .ok (.ireturn, 1) := by decide +kernel
theorem d_M_shownAhead_202 : decode b_M_shownAhead 202 = .ok (.aload_n 0, 1) := by decide +kernel
theorem d_M_shownAhead_203 : decode b_M_shownAhead 203 = .ok (.aload_n 0, 1) := by decide +kernel
theorem d_M_shownAhead_204 : decode b_M_shownAhead 204 = .ok (.bipush 8, 2) := by decide +kernel
theorem d_M_shownAhead_206 : decode b_M_shownAhead 206 = .ok (.iconst 0, 1) := by decide +kernel
theorem d_M_shownAhead_207 : decode b_M_shownAhead 207 = .ok (.invokevirtual 731, 3) := by decide +kernel
theorem d_M_shownAhead_210 : decode b_M_shownAhead 210 = .ok (.aload_n 0, 1) := by decide +kernel
theorem d_M_shownAhead_211 : decode b_M_shownAhead 211 = .ok (.getfield 18, 3) := by decide +kernel
theorem d_M_shownAhead_214 : decode b_M_shownAhead 214 = .ok (.i2l, 1) := by decide +kernel
theorem d_M_shownAhead_215 : decode b_M_shownAhead 215 = .ok (.invokevirtual 771, 3) := by decide +kernel
theorem d_M_shownAhead_218 : decode b_M_shownAhead 218 = .ok (.ifCond .eq 8, 3) := by decide +kernel
theorem d_M_shownAhead_221 : decode b_M_shownAhead 221 = .ok (.bipush 37, 2) := by decide +kernel
theorem d_M_shownAhead_223 : decode b_M_shownAhead 223 = .ok (.goto 4, 3) := by decide +kernel
theorem d_M_shownAhead_226 : decode b_M_shownAhead 226 = .ok (.iconst 0, 1) := by decide +kernel
theorem d_M_shownAhead_227 : decode b_M_shownAhead 227 = .ok (.ireturn, 1) := by decide +kernel
abbrev b_M_mayOpen : ByteArray := prog_14_method_109_code
def y_M_mayOpen : MethodName := ⟨R_M, "mayOpen", "(IJ)Z"⟩
abbrev k_M_mayOpen : Cond := .code y_M_mayOpen b_M_mayOpen 4 (some .boolean)
theorem ki_M_mayOpen : k_M_mayOpen ∈ lw_tg := in_t 2674 (by decide +kernel)
theorem ks_M_mayOpen : Cond.instanceMethod y_M_mayOpen ∈ lw_tg := in_t 2673 (by decide +kernel)
theorem kx_M_mayOpen : Cond.selects R_M y_M_mayOpen y_M_mayOpen ∈ lw_tg := List.mem_filter.mpr ⟨List.mem_append_left _ (List.mem_of_getElem? (i := 160) (by decide +kernel)), rfl⟩
theorem kl_M_mayOpen : Cond.methodLink R_M 775 y_M_mayOpen ∈ lw_tg := in_t 2671 (by decide +kernel)
theorem hd_M_mayOpen : y_M_mayOpen.cls = R_M ∧ y_M_mayOpen.cls ≠ "java/lang/invoke/MethodHandle" ∧ y_M_mayOpen.cls ≠ "java/lang/invoke/VarHandle" ∧ (parseMethodDescriptor y_M_mayOpen.desc).map (fun d => d.parameters.length) = some 2 := by decide +kernel
theorem d_M_mayOpen_0 : decode b_M_mayOpen 0 = .ok (.lload_n 2, 1) := by decide +kernel
theorem d_M_mayOpen_1 : decode b_M_mayOpen 1 = .ok (.aload_n 0, 1) := by decide +kernel
theorem d_M_mayOpen_2 : decode b_M_mayOpen 2 = .ok (.getfield 107, 3) := by decide +kernel
theorem d_M_mayOpen_5 : decode b_M_mayOpen 5 = .ok (.iload_n 1, 1) := by decide +kernel
theorem d_M_mayOpen_6 : decode b_M_mayOpen 6 = .ok (.iaload, 1) := by decide +kernel
theorem d_M_mayOpen_7 : decode b_M_mayOpen 7 = .ok (.i2l, 1) := by decide +kernel
theorem d_M_mayOpen_8 : decode b_M_mayOpen 8 = .ok (.lcmp, 1) := by decide +kernel
theorem d_M_mayOpen_9 : decode b_M_mayOpen 9 = .ok (.ifCond .eq 23, 3) := by decide +kernel
theorem d_M_mayOpen_12 : decode b_M_mayOpen 12 = .ok (.lload_n 2, 1) := by decide +kernel
theorem d_M_mayOpen_13 : decode b_M_mayOpen 13 = .ok (.aload_n 0, 1) := by decide +kernel
theorem d_M_mayOpen_14 : decode b_M_mayOpen 14 = .ok (.getfield 107, 3) := by decide +kernel
theorem d_M_mayOpen_17 : decode b_M_mayOpen 17 = .ok (.iload_n 1, 1) := by decide +kernel
theorem d_M_mayOpen_18 : decode b_M_mayOpen 18 = .ok (.iaload, 1) := by decide +kernel
theorem d_M_mayOpen_19 : decode b_M_mayOpen 19 = .ok (.iconst 1, 1) := by decide +kernel
theorem d_M_mayOpen_20 : decode b_M_mayOpen 20 = .ok (.isub, 1) := by decide +kernel
theorem d_M_mayOpen_21 : decode b_M_mayOpen 21 = .ok (.i2l, 1) := by decide +kernel
theorem d_M_mayOpen_22 : decode b_M_mayOpen 22 = .ok (.lcmp, 1) := by decide +kernel
theorem d_M_mayOpen_23 : decode b_M_mayOpen 23 = .ok (.ifCond .ne 13, 3) := by decide +kernel
theorem d_M_mayOpen_26 : decode b_M_mayOpen 26 = .ok (.lload_n 2, 1) := by decide +kernel
theorem d_M_mayOpen_27 : decode b_M_mayOpen 27 = .ok (.lconst 0, 1) := by decide +kernel
theorem d_M_mayOpen_28 : decode b_M_mayOpen 28 = .ok (.lcmp, 1) := by decide +kernel
theorem d_M_mayOpen_29 : decode b_M_mayOpen 29 = .ok (.ifCond .le 7, 3) := by decide +kernel
theorem d_M_mayOpen_32 : decode b_M_mayOpen 32 = .ok (.iconst 1, 1) := by decide +kernel
theorem d_M_mayOpen_33 : decode b_M_mayOpen 33 = .ok (.goto 4, 3) := by decide +kernel
theorem d_M_mayOpen_36 : decode b_M_mayOpen 36 = .ok (.iconst 0, 1) := by decide +kernel
theorem d_M_mayOpen_37 : decode b_M_mayOpen 37 = .ok (.ireturn, 1) := by decide +kernel
abbrev b_M_opensTicket : ByteArray := prog_14_method_110_code
def y_M_opensTicket : MethodName := ⟨R_M, "opensTicket", "(IZ)I"⟩
abbrev k_M_opensTicket : Cond := .code y_M_opensTicket b_M_opensTicket 8 (some .int)
theorem ki_M_opensTicket : k_M_opensTicket ∈ lw_tg := List.mem_filter.mpr ⟨List.mem_append_right _ (List.mem_append_right _ (List.mem_append_right _ (List.mem_append_right _ (List.mem_append_right _ (List.mem_append_right _ (List.mem_append_right _ (List.mem_append_right _ (List.mem_append_right _ (List.mem_append_right _ (List.mem_append_right _ (List.mem_append_right _ (List.mem_append_left _ (List.mem_of_getElem? (i := 30) rfl))))))))))))), rfl⟩
theorem ks_M_opensTicket : Cond.instanceMethod y_M_opensTicket ∈ lw_tg := in_t 2669 (by decide +kernel)
theorem kx_M_opensTicket : Cond.selects R_M y_M_opensTicket y_M_opensTicket ∈ lw_tg := List.mem_filter.mpr ⟨List.mem_append_left _ (List.mem_of_getElem? (i := 159) (by decide +kernel)), rfl⟩
theorem kl_M_opensTicket : Cond.methodLink R_M 801 y_M_opensTicket ∈ lw_tg := in_t 2667 (by decide +kernel)
theorem hd_M_opensTicket : y_M_opensTicket.cls = R_M ∧ y_M_opensTicket.cls ≠ "java/lang/invoke/MethodHandle" ∧ y_M_opensTicket.cls ≠ "java/lang/invoke/VarHandle" ∧ (parseMethodDescriptor y_M_opensTicket.desc).map (fun d => d.parameters.length) = some 2 := by decide +kernel
theorem d_M_opensTicket_0 : decode b_M_opensTicket 0 = .ok (.aload_n 0, 1) := by decide +kernel
theorem d_M_opensTicket_1 : decode b_M_opensTicket 1 = .ok (.iconst 3, 1) := by decide +kernel
theorem d_M_opensTicket_2 : decode b_M_opensTicket 2 = .ok (.iconst 0, 1) := by decide +kernel
theorem d_M_opensTicket_3 : decode b_M_opensTicket 3 = .ok (.invokevirtual 665, 3) := by decide +kernel
theorem d_M_opensTicket_6 : decode b_M_opensTicket 6 = .ok (.ldc2_w 669, 3) := by decide +kernel
theorem d_M_opensTicket_9 : decode b_M_opensTicket 9 = .ok (.lcmp, 1) := by decide +kernel
theorem d_M_opensTicket_10 : decode b_M_opensTicket 10 = .ok (.ifCond .eq 6, 3) := by decide +kernel
theorem d_M_opensTicket_13 : decode b_M_opensTicket 13 = .ok (.bipush 39, 2) := by decide +kernel
theorem d_M_opensTicket_15 : decode b_M_opensTicket 15 = .ok (.ireturn, 1) := by decide +kernel
theorem d_M_opensTicket_16 : decode b_M_opensTicket 16 = .ok (.aload_n 0, 1) := by decide +kernel
theorem d_M_opensTicket_17 : decode b_M_opensTicket 17 = .ok (.aload_n 0, 1) := by decide +kernel
theorem d_M_opensTicket_18 : decode b_M_opensTicket 18 = .ok (.iconst 3, 1) := by decide +kernel
theorem d_M_opensTicket_19 : decode b_M_opensTicket 19 = .ok (.iconst 1, 1) := by decide +kernel
theorem d_M_opensTicket_20 : decode b_M_opensTicket 20 = .ok (.invokevirtual 536, 3) := by decide +kernel
theorem d_M_opensTicket_23 : decode b_M_opensTicket 23 = .ok (.aload_n 0, 1) := by decide +kernel
theorem d_M_opensTicket_24 : decode b_M_opensTicket 24 = .ok (.iconst 3, 1) := by decide +kernel
theorem d_M_opensTicket_25 : decode b_M_opensTicket 25 = .ok (.iconst 1, 1) := by decide +kernel
theorem d_M_opensTicket_26 : decode b_M_opensTicket 26 = .ok (.invokevirtual 539, 3) := by decide +kernel
theorem d_M_opensTicket_29 : decode b_M_opensTicket 29 = .ok (.ldc_w 621, 3) := by decide +kernel
theorem d_M_opensTicket_32 : decode b_M_opensTicket 32 = .ok (.invokevirtual 678, 3) := by decide +kernel
theorem d_M_opensTicket_35 : decode b_M_opensTicket 35 = .ok (.ifCond .eq 23, 3) := by decide +kernel
theorem d_M_opensTicket_38 : decode b_M_opensTicket 38 = .ok (.aload_n 0, 1) := by decide +kernel
theorem d_M_opensTicket_39 : decode b_M_opensTicket 39 = .ok (.aload_n 0, 1) := by decide +kernel
theorem d_M_opensTicket_40 : decode b_M_opensTicket 40 = .ok (.iconst 3, 1) := by decide +kernel
theorem d_M_opensTicket_41 : decode b_M_opensTicket 41 = .ok (.iconst 2, 1) := by decide +kernel
theorem d_M_opensTicket_42 : decode b_M_opensTicket 42 = .ok (.invokevirtual 536, 3) := by decide +kernel
theorem d_M_opensTicket_45 : decode b_M_opensTicket 45 = .ok (.aload_n 0, 1) := by decide +kernel
theorem d_M_opensTicket_46 : decode b_M_opensTicket 46 = .ok (.iconst 3, 1) := by decide +kernel
theorem d_M_opensTicket_47 : decode b_M_opensTicket 47 = .ok (.iconst 2, 1) := by decide +kernel
theorem d_M_opensTicket_48 : decode b_M_opensTicket 48 = .ok (.invokevirtual 539, 3) := by decide +kernel
theorem d_M_opensTicket_51 : decode b_M_opensTicket 51 = .ok (.invokevirtual 710, 3) := by decide +kernel
theorem d_M_opensTicket_54 : decode b_M_opensTicket 54 = .ok (.iload_n 1, 1) := by decide +kernel
theorem d_M_opensTicket_55 : decode b_M_opensTicket 55 = .ok (.if_icmp .eq 6, 3) := by decide +kernel
theorem d_M_opensTicket_58 : decode b_M_opensTicket 58 = .ok (.bipush 35, 2) := by decide +kernel
theorem d_M_opensTicket_60 : decode b_M_opensTicket 60 = .ok (.ireturn, 1) := by decide +kernel
theorem d_M_opensTicket_61 : decode b_M_opensTicket 61 = .ok (.aload_n 0, 1) := by decide +kernel
theorem d_M_opensTicket_62 : decode b_M_opensTicket 62 = .ok (.ldc_w 516, 3) := by decide +kernel
theorem d_M_opensTicket_65 : decode b_M_opensTicket 65 = .ok (.aload_n 0, 1) := by decide +kernel
theorem d_M_opensTicket_66 : decode b_M_opensTicket 66 = .ok (.iconst 3, 1) := by decide +kernel
theorem d_M_opensTicket_67 : decode b_M_opensTicket 67 = .ok (.iconst 3, 1) := by decide +kernel
theorem d_M_opensTicket_68 : decode b_M_opensTicket 68 = .ok (.invokevirtual 536, 3) := by decide +kernel
theorem d_M_opensTicket_71 : decode b_M_opensTicket 71 = .ok (.aload_n 0, 1) := by decide +kernel
theorem d_M_opensTicket_72 : decode b_M_opensTicket 72 = .ok (.iconst 3, 1) := by decide +kernel
theorem d_M_opensTicket_73 : decode b_M_opensTicket 73 = .ok (.iconst 3, 1) := by decide +kernel
theorem d_M_opensTicket_74 : decode b_M_opensTicket 74 = .ok (.invokevirtual 539, 3) := by decide +kernel
theorem d_M_opensTicket_77 : decode b_M_opensTicket 77 = .ok (.bipush 6, 2) := by decide +kernel
theorem d_M_opensTicket_79 : decode b_M_opensTicket 79 = .ok (.invokevirtual 487, 3) := by decide +kernel
theorem d_M_opensTicket_82 : decode b_M_opensTicket 82 = .ok (.pop, 1) := by decide +kernel
theorem d_M_opensTicket_83 : decode b_M_opensTicket 83 = .ok (.aload_n 0, 1) := by decide +kernel
theorem d_M_opensTicket_84 : decode b_M_opensTicket 84 = .ok (.bipush 6, 2) := by decide +kernel
theorem d_M_opensTicket_86 : decode b_M_opensTicket 86 = .ok (.iconst 1, 1) := by decide +kernel
theorem d_M_opensTicket_87 : decode b_M_opensTicket 87 = .ok (.invokevirtual 675, 3) := by decide +kernel
theorem d_M_opensTicket_90 : decode b_M_opensTicket 90 = .ok (.ifCond .eq 13, 3) := by decide +kernel
theorem d_M_opensTicket_93 : decode b_M_opensTicket 93 = .ok (.aload_n 0, 1) := by decide +kernel
theorem d_M_opensTicket_94 : decode b_M_opensTicket 94 = .ok (.bipush 6, 2) := by decide +kernel
theorem d_M_opensTicket_96 : decode b_M_opensTicket 96 = .ok (.iconst 1, 1) := by decide +kernel
theorem d_M_opensTicket_97 : decode b_M_opensTicket 97 = .ok (.invokevirtual 665, 3) := by decide +kernel
theorem d_M_opensTicket_100 : decode b_M_opensTicket 100 = .ok (.goto 10, 3) := by decide +kernel
theorem d_M_opensTicket_103 : decode b_M_opensTicket 103 = .ok (.aload_n 0, 1) := by decide +kernel
theorem d_M_opensTicket_104 : decode b_M_opensTicket 104 = .ok (.getfield 107, 3) := by decide +kernel
theorem d_M_opensTicket_107 : decode b_M_opensTicket 107 = .ok (.iload_n 1, 1) := by decide +kernel
theorem d_M_opensTicket_108 : decode b_M_opensTicket 108 = .ok (.iaload, 1) := by decide +kernel
theorem d_M_opensTicket_109 : decode b_M_opensTicket 109 = .ok (.i2l, 1) := by decide +kernel
theorem d_M_opensTicket_110 : decode b_M_opensTicket 110 = .ok (.lstore_n 3, 1) := by decide +kernel
theorem d_M_opensTicket_111 : decode b_M_opensTicket 111 = .ok (.aload_n 0, 1) := by decide +kernel
theorem d_M_opensTicket_112 : decode b_M_opensTicket 112 = .ok (.iload_n 1, 1) := by decide +kernel
theorem d_M_opensTicket_113 : decode b_M_opensTicket 113 = .ok (.lload_n 3, 1) := by decide +kernel
theorem d_M_opensTicket_114 : decode b_M_opensTicket 114 = .ok (.invokevirtual 775, 3) := by decide +kernel
theorem d_M_opensTicket_117 : decode b_M_opensTicket 117 = .ok (.ifCond .ne 6, 3) := by decide +kernel
theorem d_M_opensTicket_120 : decode b_M_opensTicket 120 = .ok (.bipush 44, 2) := by decide +kernel
theorem d_M_opensTicket_122 : decode b_M_opensTicket 122 = .ok (.ireturn, 1) := by decide +kernel
theorem d_M_opensTicket_123 : decode b_M_opensTicket 123 = .ok (.aload_n 0, 1) := by decide +kernel
theorem d_M_opensTicket_124 : decode b_M_opensTicket 124 = .ok (.bipush 6, 2) := by decide +kernel
theorem d_M_opensTicket_126 : decode b_M_opensTicket 126 = .ok (.iconst 0, 1) := by decide +kernel
theorem d_M_opensTicket_127 : decode b_M_opensTicket 127 = .ok (.invokevirtual 665, 3) := by decide +kernel
theorem d_M_opensTicket_130 : decode b_M_opensTicket 130 = .ok (.lstore 5, 2) := by decide +kernel
theorem d_M_opensTicket_132 : decode b_M_opensTicket 132 = .ok (.lload 5, 2) := by decide +kernel
theorem d_M_opensTicket_134 : decode b_M_opensTicket 134 = .ok (.ldc2_w 697, 3) := by decide +kernel
theorem d_M_opensTicket_137 : decode b_M_opensTicket 137 = .ok (.lcmp, 1) := by decide +kernel
theorem d_M_opensTicket_138 : decode b_M_opensTicket 138 = .ok (.ifCond .eq 15, 3) := by decide +kernel
theorem d_M_opensTicket_141 : decode b_M_opensTicket 141 = .ok (.lload 5, 2) := by decide +kernel
theorem d_M_opensTicket_143 : decode b_M_opensTicket 143 = .ok (.ldc2_w 699, 3) := by decide +kernel
theorem d_M_opensTicket_146 : decode b_M_opensTicket 146 = .ok (.lcmp, 1) := by decide +kernel
theorem d_M_opensTicket_147 : decode b_M_opensTicket 147 = .ok (.ifCond .eq 6, 3) := by decide +kernel
theorem d_M_opensTicket_150 : decode b_M_opensTicket 150 = .ok (.bipush 14, 2) := by decide +kernel
theorem d_M_opensTicket_152 : decode b_M_opensTicket 152 = .ok (.ireturn, 1) := by decide +kernel
theorem d_M_opensTicket_153 : decode b_M_opensTicket 153 = .ok (.aload_n 0, 1) := by decide +kernel
theorem d_M_opensTicket_154 : decode b_M_opensTicket 154 = .ok (.iload_n 1, 1) := by decide +kernel
theorem d_M_opensTicket_155 : decode b_M_opensTicket 155 = .ok (.lload_n 3, 1) := by decide +kernel
theorem d_M_opensTicket_156 : decode b_M_opensTicket 156 = .ok (.l2i, 1) := by decide +kernel
theorem d_M_opensTicket_157 : decode b_M_opensTicket 157 = .ok (.lload 5, 2) := by decide +kernel
theorem d_M_opensTicket_159 : decode b_M_opensTicket 159 = .ok (.l2i, 1) := by decide +kernel
theorem d_M_opensTicket_160 : decode b_M_opensTicket 160 = .ok (.aload_n 0, 1) := by decide +kernel
theorem d_M_opensTicket_161 : decode b_M_opensTicket 161 = .ok (.getfield 137, 3) := by decide +kernel
theorem d_M_opensTicket_164 : decode b_M_opensTicket 164 = .ok (.invokevirtual 761, 3) := by decide +kernel
theorem d_M_opensTicket_167 : decode b_M_opensTicket 167 = .ok (.aload_n 0, 1) := by decide +kernel
theorem d_M_opensTicket_168 : decode b_M_opensTicket 168 = .ok (.aload_n 0, 1) := by decide +kernel
theorem d_M_opensTicket_169 : decode b_M_opensTicket 169 = .ok (.bipush 6, 2) := by decide +kernel
theorem d_M_opensTicket_171 : decode b_M_opensTicket 171 = .ok (.iconst 2, 1) := by decide +kernel
theorem d_M_opensTicket_172 : decode b_M_opensTicket 172 = .ok (.invokevirtual 536, 3) := by decide +kernel
theorem d_M_opensTicket_175 : decode b_M_opensTicket 175 = .ok (.aload_n 0, 1) := by decide +kernel
theorem d_M_opensTicket_176 : decode b_M_opensTicket 176 = .ok (.bipush 6, 2) := by decide +kernel
theorem d_M_opensTicket_178 : decode b_M_opensTicket 178 = .ok (.iconst 2, 1) := by decide +kernel
theorem d_M_opensTicket_179 : decode b_M_opensTicket 179 = .ok (.invokevirtual 539, 3) := by decide +kernel
theorem d_M_opensTicket_182 : decode b_M_opensTicket 182 = .ok (.iconst 4, 1) := by decide +kernel
theorem d_M_opensTicket_183 : decode b_M_opensTicket 183 = .ok (.invokevirtual 476, 3) := by decide +kernel
theorem d_M_opensTicket_186 : decode b_M_opensTicket 186 = .ok (.pop, 1) := by decide +kernel
theorem d_M_opensTicket_187 : decode b_M_opensTicket 187 = .ok (.aload_n 0, 1) := by decide +kernel
theorem d_M_opensTicket_188 : decode b_M_opensTicket 188 = .ok (.aload_n 0, 1) := by decide +kernel
theorem d_M_opensTicket_189 : decode b_M_opensTicket 189 = .ok (.getfield 137, 3) := by decide +kernel
theorem d_M_opensTicket_192 : decode b_M_opensTicket 192 = .ok (.lload 5, 2) := by decide +kernel
theorem d_M_opensTicket_194 : decode b_M_opensTicket 194 = .ok (.l2i, 1) := by decide +kernel
theorem d_M_opensTicket_195 : decode b_M_opensTicket 195 = .ok (.iconst 2, 1) := by decide +kernel
theorem d_M_opensTicket_196 : decode b_M_opensTicket 196 = .ok (.aload_n 0, 1) := by decide +kernel
theorem d_M_opensTicket_197 : decode b_M_opensTicket 197 = .ok (.getfield 470, 3) := by decide +kernel
theorem d_M_opensTicket_200 : decode b_M_opensTicket 200 = .ok (.aload_n 0, 1) := by decide +kernel
theorem d_M_opensTicket_201 : decode b_M_opensTicket 201 = .ok (.getfield 473, 3) := by decide +kernel
theorem d_M_opensTicket_204 : decode b_M_opensTicket 204 = .ok (.sipush 4200, 3) := by decide +kernel
theorem d_M_opensTicket_207 : decode b_M_opensTicket 207 = .ok (.invokevirtual 765, 3) := by decide +kernel
theorem d_M_opensTicket_210 : decode b_M_opensTicket 210 = .ok (.istore 7, 2) := by decide +kernel
theorem d_M_opensTicket_212 : decode b_M_opensTicket 212 = .ok (.iload 7, 2) := by decide +kernel
theorem d_M_opensTicket_214 : decode b_M_opensTicket 214 = .ok (.ifCond .ge 6, 3) := by decide +kernel
theorem d_M_opensTicket_217 : decode b_M_opensTicket 217 = .ok (.bipush 31, 2) := by decide +kernel
theorem d_M_opensTicket_219 : decode b_M_opensTicket 219 = .ok (.ireturn, 1) := by decide +kernel
theorem d_M_opensTicket_220 : decode b_M_opensTicket 220 = .ok (.aload_n 0, 1) := by decide +kernel
theorem d_M_opensTicket_221 : decode b_M_opensTicket 221 = .ok (.iconst 3, 1) := by decide +kernel
theorem d_M_opensTicket_222 : decode b_M_opensTicket 222 = .ok (.ldc_w 779, 3) := by decide +kernel
theorem d_M_opensTicket_225 : decode b_M_opensTicket 225 = .ok (.sipush 4200, 3) := by decide +kernel
theorem d_M_opensTicket_228 : decode b_M_opensTicket 228 = .ok (.sipush 4200, 3) := by decide +kernel
theorem d_M_opensTicket_231 : decode b_M_opensTicket 231 = .ok (.iload 7, 2) := by decide +kernel
theorem d_M_opensTicket_233 : decode b_M_opensTicket 233 = .ok (.iadd, 1) := by decide +kernel
theorem d_M_opensTicket_234 : decode b_M_opensTicket 234 = .ok (.iconst 4, 1) := by decide +kernel
theorem d_M_opensTicket_235 : decode b_M_opensTicket 235 = .ok (.invokevirtual 522, 3) := by decide +kernel
theorem d_M_opensTicket_238 : decode b_M_opensTicket 238 = .ok (.ifCond .eq 25, 3) := by decide +kernel
theorem d_M_opensTicket_241 : decode b_M_opensTicket 241 = .ok (.aload_n 0, 1) := by decide +kernel
theorem d_M_opensTicket_242 : decode b_M_opensTicket 242 = .ok (.aload_n 0, 1) := by decide +kernel
theorem d_M_opensTicket_243 : decode b_M_opensTicket 243 = .ok (.iconst 4, 1) := by decide +kernel
theorem d_M_opensTicket_244 : decode b_M_opensTicket 244 = .ok (.iconst 2, 1) := by decide +kernel
theorem d_M_opensTicket_245 : decode b_M_opensTicket 245 = .ok (.invokevirtual 536, 3) := by decide +kernel
theorem d_M_opensTicket_248 : decode b_M_opensTicket 248 = .ok (.aload_n 0, 1) := by decide +kernel
theorem d_M_opensTicket_249 : decode b_M_opensTicket 249 = .ok (.iconst 4, 1) := by decide +kernel
theorem d_M_opensTicket_250 : decode b_M_opensTicket 250 = .ok (.iconst 2, 1) := by decide +kernel
theorem d_M_opensTicket_251 : decode b_M_opensTicket 251 = .ok (.invokevirtual 539, 3) := by decide +kernel
theorem d_M_opensTicket_254 : decode b_M_opensTicket 254 = .ok (.ldc_w 621, 3) := by decide +kernel
theorem d_M_opensTicket_257 : decode b_M_opensTicket 257 = .ok (.invokevirtual 678, 3) := by decide +kernel
theorem d_M_opensTicket_260 : decode b_M_opensTicket 260 = .ok (.ifCond .ne 6, 3) := by decide +kernel
theorem d_M_opensTicket_263 : decode b_M_opensTicket 263 = .ok (.bipush 60, 2) := by decide +kernel
theorem d_M_opensTicket_265 : decode b_M_opensTicket 265 = .ok (.ireturn, 1) := by decide +kernel
theorem d_M_opensTicket_266 : decode b_M_opensTicket 266 = .ok (.aload_n 0, 1) := by decide +kernel
theorem d_M_opensTicket_267 : decode b_M_opensTicket 267 = .ok (.aload_n 0, 1) := by decide +kernel
theorem d_M_opensTicket_268 : decode b_M_opensTicket 268 = .ok (.aload_n 0, 1) := by decide +kernel
theorem d_M_opensTicket_269 : decode b_M_opensTicket 269 = .ok (.iconst 4, 1) := by decide +kernel
theorem d_M_opensTicket_270 : decode b_M_opensTicket 270 = .ok (.iconst 3, 1) := by decide +kernel
theorem d_M_opensTicket_271 : decode b_M_opensTicket 271 = .ok (.invokevirtual 536, 3) := by decide +kernel
theorem d_M_opensTicket_274 : decode b_M_opensTicket 274 = .ok (.aload_n 0, 1) := by decide +kernel
theorem d_M_opensTicket_275 : decode b_M_opensTicket 275 = .ok (.iconst 4, 1) := by decide +kernel
theorem d_M_opensTicket_276 : decode b_M_opensTicket 276 = .ok (.iconst 3, 1) := by decide +kernel
theorem d_M_opensTicket_277 : decode b_M_opensTicket 277 = .ok (.invokevirtual 539, 3) := by decide +kernel
theorem d_M_opensTicket_280 : decode b_M_opensTicket 280 = .ok (.invokevirtual 546, 3) := by decide +kernel
theorem d_M_opensTicket_283 : decode b_M_opensTicket 283 = .ok (.aload_n 0, 1) := by decide +kernel
theorem d_M_opensTicket_284 : decode b_M_opensTicket 284 = .ok (.bipush 11, 2) := by decide +kernel
theorem d_M_opensTicket_286 : decode b_M_opensTicket 286 = .ok (.iconst 1, 1) := by decide +kernel
theorem d_M_opensTicket_287 : decode b_M_opensTicket 287 = .ok (.invokevirtual 539, 3) := by decide +kernel
theorem d_M_opensTicket_290 : decode b_M_opensTicket 290 = .ok (.bipush 48, 2) := by decide +kernel
theorem d_M_opensTicket_292 : decode b_M_opensTicket 292 = .ok (.invokevirtual 476, 3) := by decide +kernel
theorem d_M_opensTicket_295 : decode b_M_opensTicket 295 = .ok (.pop, 1) := by decide +kernel
theorem d_M_opensTicket_296 : decode b_M_opensTicket 296 = .ok (.aload_n 0, 1) := by decide +kernel
theorem d_M_opensTicket_297 : decode b_M_opensTicket 297 = .ok (.getfield 473, 3) := by decide +kernel
theorem d_M_opensTicket_300 : decode b_M_opensTicket 300 = .ok (.aload_n 0, 1) := by decide +kernel
theorem d_M_opensTicket_301 : decode b_M_opensTicket 301 = .ok (.getfield 470, 3) := by decide +kernel
theorem d_M_opensTicket_304 : decode b_M_opensTicket 304 = .ok (.isub, 1) := by decide +kernel
theorem d_M_opensTicket_305 : decode b_M_opensTicket 305 = .ok (.bipush 40, 2) := by decide +kernel
theorem d_M_opensTicket_307 : decode b_M_opensTicket 307 = .ok (.if_icmp .le 8, 3) := by decide +kernel
theorem d_M_opensTicket_310 : decode b_M_opensTicket 310 = .ok (.bipush 60, 2) := by decide +kernel
theorem d_M_opensTicket_312 : decode b_M_opensTicket 312 = .ok (.goto 4, 3) := by decide +kernel
theorem d_M_opensTicket_315 : decode b_M_opensTicket 315 = .ok (.iconst 0, 1) := by decide +kernel
theorem d_M_opensTicket_316 : decode b_M_opensTicket 316 = .ok (.ireturn, 1) := by decide +kernel
abbrev b_M_keyIn : ByteArray := prog_14_method_111_code
def y_M_keyIn : MethodName := ⟨R_M, "keyIn", "(II[B)I"⟩
abbrev k_M_keyIn : Cond := .code y_M_keyIn b_M_keyIn 7 (some .int)
theorem ki_M_keyIn : k_M_keyIn ∈ lw_tg := in_t 2645 (by decide +kernel)
theorem ks_M_keyIn : Cond.instanceMethod y_M_keyIn ∈ lw_tg := in_t 2644 (by decide +kernel)
theorem kx_M_keyIn : Cond.selects R_M y_M_keyIn y_M_keyIn ∈ lw_tg := List.mem_filter.mpr ⟨List.mem_append_left _ (List.mem_of_getElem? (i := 154) (by decide +kernel)), rfl⟩
theorem kl_M_keyIn : Cond.methodLink R_M 781 y_M_keyIn ∈ lw_tg := in_t 2642 (by decide +kernel)
theorem hd_M_keyIn : y_M_keyIn.cls = R_M ∧ y_M_keyIn.cls ≠ "java/lang/invoke/MethodHandle" ∧ y_M_keyIn.cls ≠ "java/lang/invoke/VarHandle" ∧ (parseMethodDescriptor y_M_keyIn.desc).map (fun d => d.parameters.length) = some 3 := by decide +kernel
theorem d_M_keyIn_0 : decode b_M_keyIn 0 = .ok (.aload_n 0, 1) := by decide +kernel
theorem d_M_keyIn_1 : decode b_M_keyIn 1 = .ok (.ldc_w 518, 3) := by decide +kernel
theorem d_M_keyIn_4 : decode b_M_keyIn 4 = .ok (.aload_n 0, 1) := by decide +kernel
theorem d_M_keyIn_5 : decode b_M_keyIn 5 = .ok (.iload_n 1, 1) := by decide +kernel
theorem d_M_keyIn_6 : decode b_M_keyIn 6 = .ok (.iload_n 2, 1) := by decide +kernel
theorem d_M_keyIn_7 : decode b_M_keyIn 7 = .ok (.invokevirtual 536, 3) := by decide +kernel
theorem d_M_keyIn_10 : decode b_M_keyIn 10 = .ok (.aload_n 0, 1) := by decide +kernel
theorem d_M_keyIn_11 : decode b_M_keyIn 11 = .ok (.iload_n 1, 1) := by decide +kernel
theorem d_M_keyIn_12 : decode b_M_keyIn 12 = .ok (.iload_n 2, 1) := by decide +kernel
theorem d_M_keyIn_13 : decode b_M_keyIn 13 = .ok (.invokevirtual 539, 3) := by decide +kernel
theorem d_M_keyIn_16 : decode b_M_keyIn 16 = .ok (.bipush 7, 2) := by decide +kernel
theorem d_M_keyIn_18 : decode b_M_keyIn 18 = .ok (.invokevirtual 487, 3) := by decide +kernel
theorem d_M_keyIn_21 : decode b_M_keyIn 21 = .ok (.pop, 1) := by decide +kernel
theorem d_M_keyIn_22 : decode b_M_keyIn 22 = .ok (.aload_n 0, 1) := by decide +kernel
theorem d_M_keyIn_23 : decode b_M_keyIn 23 = .ok (.bipush 7, 2) := by decide +kernel
theorem d_M_keyIn_25 : decode b_M_keyIn 25 = .ok (.iconst 0, 1) := by decide +kernel
theorem d_M_keyIn_26 : decode b_M_keyIn 26 = .ok (.invokevirtual 665, 3) := by decide +kernel
theorem d_M_keyIn_29 : decode b_M_keyIn 29 = .ok (.lstore 4, 2) := by decide +kernel
theorem d_M_keyIn_31 : decode b_M_keyIn 31 = .ok (.aload_n 0, 1) := by decide +kernel
theorem d_M_keyIn_32 : decode b_M_keyIn 32 = .ok (.aload_n 0, 1) := by decide +kernel
theorem d_M_keyIn_33 : decode b_M_keyIn 33 = .ok (.bipush 7, 2) := by decide +kernel
theorem d_M_keyIn_35 : decode b_M_keyIn 35 = .ok (.iconst 1, 1) := by decide +kernel
theorem d_M_keyIn_36 : decode b_M_keyIn 36 = .ok (.invokevirtual 536, 3) := by decide +kernel
theorem d_M_keyIn_39 : decode b_M_keyIn 39 = .ok (.aload_n 0, 1) := by decide +kernel
theorem d_M_keyIn_40 : decode b_M_keyIn 40 = .ok (.bipush 7, 2) := by decide +kernel
theorem d_M_keyIn_42 : decode b_M_keyIn 42 = .ok (.iconst 1, 1) := by decide +kernel
theorem d_M_keyIn_43 : decode b_M_keyIn 43 = .ok (.invokevirtual 539, 3) := by decide +kernel
theorem d_M_keyIn_46 : decode b_M_keyIn 46 = .ok (.iconst 4, 1) := by decide +kernel
theorem d_M_keyIn_47 : decode b_M_keyIn 47 = .ok (.invokevirtual 476, 3) := by decide +kernel
theorem d_M_keyIn_50 : decode b_M_keyIn 50 = .ok (.pop, 1) := by decide +kernel
theorem d_M_keyIn_51 : decode b_M_keyIn 51 = .ok (.lload 4, 2) := by decide +kernel
theorem d_M_keyIn_53 : decode b_M_keyIn 53 = .ok (.ldc2_w 697, 3) := by decide +kernel
theorem d_M_keyIn_56 : decode b_M_keyIn 56 = .ok (.lcmp, 1) := by decide +kernel
theorem d_M_keyIn_57 : decode b_M_keyIn 57 = .ok (.ifCond .eq 12, 3) := by decide +kernel
theorem d_M_keyIn_60 : decode b_M_keyIn 60 = .ok (.lload 4, 2) := by decide +kernel
theorem d_M_keyIn_62 : decode b_M_keyIn 62 = .ok (.ldc2_w 699, 3) := by decide +kernel
theorem d_M_keyIn_65 : decode b_M_keyIn 65 = .ok (.lcmp, 1) := by decide +kernel
theorem d_M_keyIn_66 : decode b_M_keyIn 66 = .ok (.ifCond .ne 21, 3) := by decide +kernel
theorem d_M_keyIn_69 : decode b_M_keyIn 69 = .ok (.aload_n 0, 1) := by decide +kernel
theorem d_M_keyIn_70 : decode b_M_keyIn 70 = .ok (.getfield 473, 3) := by decide +kernel
theorem d_M_keyIn_73 : decode b_M_keyIn 73 = .ok (.aload_n 0, 1) := by decide +kernel
theorem d_M_keyIn_74 : decode b_M_keyIn 74 = .ok (.getfield 470, 3) := by decide +kernel
theorem d_M_keyIn_77 : decode b_M_keyIn 77 = .ok (.isub, 1) := by decide +kernel
theorem d_M_keyIn_78 : decode b_M_keyIn 78 = .ok (.lload 4, 2) := by decide +kernel
theorem d_M_keyIn_80 : decode b_M_keyIn 80 = .ok (.l2i, 1) := by decide +kernel
theorem d_M_keyIn_81 : decode b_M_keyIn 81 = .ok (.invokestatic 438, 3) := by decide +kernel
theorem d_M_keyIn_84 : decode b_M_keyIn 84 = .ok (.if_icmp .eq 5, 3) := by decide +kernel
theorem d_M_keyIn_87 : decode b_M_keyIn 87 = .ok (.iconst 0, 1) := by decide +kernel
theorem d_M_keyIn_88 : decode b_M_keyIn 88 = .ok (.ireturn, 1) := by decide +kernel
theorem d_M_keyIn_89 : decode b_M_keyIn 89 = .ok (.aload_n 0, 1) := by decide +kernel
theorem d_M_keyIn_90 : decode b_M_keyIn 90 = .ok (.getfield 470, 3) := by decide +kernel
theorem d_M_keyIn_93 : decode b_M_keyIn 93 = .ok (.istore 6, 2) := by decide +kernel
theorem d_M_keyIn_95 : decode b_M_keyIn 95 = .ok (.iload 6, 2) := by decide +kernel
theorem d_M_keyIn_97 : decode b_M_keyIn 97 = .ok (.aload_n 0, 1) := by decide +kernel
theorem d_M_keyIn_98 : decode b_M_keyIn 98 = .ok (.getfield 473, 3) := by decide +kernel
theorem d_M_keyIn_101 : decode b_M_keyIn 101 = .ok (.if_icmp .ge 25, 3) := by decide +kernel
theorem d_M_keyIn_104 : decode b_M_keyIn 104 = .ok (.aload_n 3, 1) := by decide +kernel
theorem d_M_keyIn_105 : decode b_M_keyIn 105 = .ok (.iload 6, 2) := by decide +kernel
theorem d_M_keyIn_107 : decode b_M_keyIn 107 = .ok (.aload_n 0, 1) := by decide +kernel
theorem d_M_keyIn_108 : decode b_M_keyIn 108 = .ok (.getfield 470, 3) := by decide +kernel
theorem d_M_keyIn_111 : decode b_M_keyIn 111 = .ok (.isub, 1) := by decide +kernel
theorem d_M_keyIn_112 : decode b_M_keyIn 112 = .ok (.aload_n 0, 1) := by decide +kernel
theorem d_M_keyIn_113 : decode b_M_keyIn 113 = .ok (.getfield 10, 3) := by decide +kernel
theorem d_M_keyIn_116 : decode b_M_keyIn 116 = .ok (.iload 6, 2) := by decide +kernel
theorem d_M_keyIn_118 : decode b_M_keyIn 118 = .ok (.baload, 1) := by decide +kernel
theorem d_M_keyIn_119 : decode b_M_keyIn 119 = .ok (.bastore, 1) := by decide +kernel
theorem d_M_keyIn_120 : decode b_M_keyIn 120 = .ok (.iinc 6 1, 3) := by decide +kernel
theorem d_M_keyIn_123 : decode b_M_keyIn 123 = .ok (.goto (-28), 3) := by decide +kernel
theorem d_M_keyIn_126 : decode b_M_keyIn 126 = .ok (.lload 4, 2) := by decide +kernel
theorem d_M_keyIn_128 : decode b_M_keyIn 128 = .ok (.l2i, 1) := by decide +kernel
theorem d_M_keyIn_129 : decode b_M_keyIn 129 = .ok (.ireturn, 1) := by decide +kernel
abbrev b_M_opensAuthenticator : ByteArray := prog_14_method_112_code
def y_M_opensAuthenticator : MethodName := ⟨R_M, "opensAuthenticator", "(I)I"⟩
abbrev k_M_opensAuthenticator : Cond := .code y_M_opensAuthenticator b_M_opensAuthenticator 5 (some .int)
theorem ki_M_opensAuthenticator : k_M_opensAuthenticator ∈ lw_tg := in_t 2679 (by decide +kernel)
theorem ks_M_opensAuthenticator : Cond.instanceMethod y_M_opensAuthenticator ∈ lw_tg := in_t 2678 (by decide +kernel)
theorem kx_M_opensAuthenticator : Cond.selects R_M y_M_opensAuthenticator y_M_opensAuthenticator ∈ lw_tg := List.mem_filter.mpr ⟨List.mem_append_left _ (List.mem_of_getElem? (i := 161) (by decide +kernel)), rfl⟩
theorem kl_M_opensAuthenticator : Cond.methodLink R_M 804 y_M_opensAuthenticator ∈ lw_tg := in_t 2676 (by decide +kernel)
theorem hd_M_opensAuthenticator : y_M_opensAuthenticator.cls = R_M ∧ y_M_opensAuthenticator.cls ≠ "java/lang/invoke/MethodHandle" ∧ y_M_opensAuthenticator.cls ≠ "java/lang/invoke/VarHandle" ∧ (parseMethodDescriptor y_M_opensAuthenticator.desc).map (fun d => d.parameters.length) = some 1 := by decide +kernel
theorem d_M_opensAuthenticator_0 : decode b_M_opensAuthenticator 0 = .ok (.aload_n 0, 1) := by decide +kernel
theorem d_M_opensAuthenticator_1 : decode b_M_opensAuthenticator 1 = .ok (.aload_n 0, 1) := by decide +kernel
theorem d_M_opensAuthenticator_2 : decode b_M_opensAuthenticator 2 = .ok (.iconst 4, 1) := by decide +kernel
theorem d_M_opensAuthenticator_3 : decode b_M_opensAuthenticator 3 = .ok (.iconst 1, 1) := by decide +kernel
theorem d_M_opensAuthenticator_4 : decode b_M_opensAuthenticator 4 = .ok (.aload_n 0, 1) := by decide +kernel
theorem d_M_opensAuthenticator_5 : decode b_M_opensAuthenticator 5 = .ok (.getfield 137, 3) := by decide +kernel
theorem d_M_opensAuthenticator_8 : decode b_M_opensAuthenticator 8 = .ok (.invokevirtual 781, 3) := by decide +kernel
theorem d_M_opensAuthenticator_11 : decode b_M_opensAuthenticator 11 = .ok (.putfield 785, 3) := by decide +kernel
theorem d_M_opensAuthenticator_14 : decode b_M_opensAuthenticator 14 = .ok (.aload_n 0, 1) := by decide +kernel
theorem d_M_opensAuthenticator_15 : decode b_M_opensAuthenticator 15 = .ok (.getfield 785, 3) := by decide +kernel
theorem d_M_opensAuthenticator_18 : decode b_M_opensAuthenticator 18 = .ok (.ifCond .ne 6, 3) := by decide +kernel
theorem d_M_opensAuthenticator_21 : decode b_M_opensAuthenticator 21 = .ok (.bipush 14, 2) := by decide +kernel
theorem d_M_opensAuthenticator_23 : decode b_M_opensAuthenticator 23 = .ok (.ireturn, 1) := by decide +kernel
theorem d_M_opensAuthenticator_24 : decode b_M_opensAuthenticator 24 = .ok (.aload_n 0, 1) := by decide +kernel
theorem d_M_opensAuthenticator_25 : decode b_M_opensAuthenticator 25 = .ok (.ldc_w 516, 3) := by decide +kernel
theorem d_M_opensAuthenticator_28 : decode b_M_opensAuthenticator 28 = .ok (.aload_n 0, 1) := by decide +kernel
theorem d_M_opensAuthenticator_29 : decode b_M_opensAuthenticator 29 = .ok (.iconst 2, 1) := by decide +kernel
theorem d_M_opensAuthenticator_30 : decode b_M_opensAuthenticator 30 = .ok (.iconst 4, 1) := by decide +kernel
theorem d_M_opensAuthenticator_31 : decode b_M_opensAuthenticator 31 = .ok (.invokevirtual 536, 3) := by decide +kernel
theorem d_M_opensAuthenticator_34 : decode b_M_opensAuthenticator 34 = .ok (.aload_n 0, 1) := by decide +kernel
theorem d_M_opensAuthenticator_35 : decode b_M_opensAuthenticator 35 = .ok (.iconst 2, 1) := by decide +kernel
theorem d_M_opensAuthenticator_36 : decode b_M_opensAuthenticator 36 = .ok (.iconst 4, 1) := by decide +kernel
theorem d_M_opensAuthenticator_37 : decode b_M_opensAuthenticator 37 = .ok (.invokevirtual 539, 3) := by decide +kernel
theorem d_M_opensAuthenticator_40 : decode b_M_opensAuthenticator 40 = .ok (.bipush 6, 2) := by decide +kernel
theorem d_M_opensAuthenticator_42 : decode b_M_opensAuthenticator 42 = .ok (.invokevirtual 487, 3) := by decide +kernel
theorem d_M_opensAuthenticator_45 : decode b_M_opensAuthenticator 45 = .ok (.pop, 1) := by decide +kernel
theorem d_M_opensAuthenticator_46 : decode b_M_opensAuthenticator 46 = .ok (.aload_n 0, 1) := by decide +kernel
theorem d_M_opensAuthenticator_47 : decode b_M_opensAuthenticator 47 = .ok (.aload_n 0, 1) := by decide +kernel
theorem d_M_opensAuthenticator_48 : decode b_M_opensAuthenticator 48 = .ok (.bipush 6, 2) := by decide +kernel
theorem d_M_opensAuthenticator_50 : decode b_M_opensAuthenticator 50 = .ok (.iconst 2, 1) := by decide +kernel
theorem d_M_opensAuthenticator_51 : decode b_M_opensAuthenticator 51 = .ok (.invokevirtual 536, 3) := by decide +kernel
theorem d_M_opensAuthenticator_54 : decode b_M_opensAuthenticator 54 = .ok (.aload_n 0, 1) := by decide +kernel
theorem d_M_opensAuthenticator_55 : decode b_M_opensAuthenticator 55 = .ok (.bipush 6, 2) := by decide +kernel
theorem d_M_opensAuthenticator_57 : decode b_M_opensAuthenticator 57 = .ok (.iconst 2, 1) := by decide +kernel
theorem d_M_opensAuthenticator_58 : decode b_M_opensAuthenticator 58 = .ok (.invokevirtual 539, 3) := by decide +kernel
theorem d_M_opensAuthenticator_61 : decode b_M_opensAuthenticator 61 = .ok (.iconst 4, 1) := by decide +kernel
theorem d_M_opensAuthenticator_62 : decode b_M_opensAuthenticator 62 = .ok (.invokevirtual 476, 3) := by decide +kernel
theorem d_M_opensAuthenticator_65 : decode b_M_opensAuthenticator 65 = .ok (.pop, 1) := by decide +kernel
theorem d_M_opensAuthenticator_66 : decode b_M_opensAuthenticator 66 = .ok (.aload_n 0, 1) := by decide +kernel
theorem d_M_opensAuthenticator_67 : decode b_M_opensAuthenticator 67 = .ok (.getfield 470, 3) := by decide +kernel
theorem d_M_opensAuthenticator_70 : decode b_M_opensAuthenticator 70 = .ok (.istore_n 2, 1) := by decide +kernel
theorem d_M_opensAuthenticator_71 : decode b_M_opensAuthenticator 71 = .ok (.aload_n 0, 1) := by decide +kernel
theorem d_M_opensAuthenticator_72 : decode b_M_opensAuthenticator 72 = .ok (.getfield 473, 3) := by decide +kernel
theorem d_M_opensAuthenticator_75 : decode b_M_opensAuthenticator 75 = .ok (.istore_n 3, 1) := by decide +kernel
theorem d_M_opensAuthenticator_76 : decode b_M_opensAuthenticator 76 = .ok (.aload_n 0, 1) := by decide +kernel
theorem d_M_opensAuthenticator_77 : decode b_M_opensAuthenticator 77 = .ok (.bipush 6, 2) := by decide +kernel
theorem d_M_opensAuthenticator_79 : decode b_M_opensAuthenticator 79 = .ok (.iconst 0, 1) := by decide +kernel
theorem d_M_opensAuthenticator_80 : decode b_M_opensAuthenticator 80 = .ok (.invokevirtual 665, 3) := by decide +kernel
theorem d_M_opensAuthenticator_83 : decode b_M_opensAuthenticator 83 = .ok (.aload_n 0, 1) := by decide +kernel
theorem d_M_opensAuthenticator_84 : decode b_M_opensAuthenticator 84 = .ok (.getfield 785, 3) := by decide +kernel
theorem d_M_opensAuthenticator_87 : decode b_M_opensAuthenticator 87 = .ok (.i2l, 1) := by decide +kernel
theorem d_M_opensAuthenticator_88 : decode b_M_opensAuthenticator 88 = .ok (.lcmp, 1) := by decide +kernel
theorem d_M_opensAuthenticator_89 : decode b_M_opensAuthenticator 89 = .ok (.ifCond .eq 6, 3) := by decide +kernel
theorem d_M_opensAuthenticator_92 : decode b_M_opensAuthenticator 92 = .ok (.bipush 31, 2) := by decide +kernel
theorem d_M_opensAuthenticator_94 : decode b_M_opensAuthenticator 94 = .ok (.ireturn, 1) := by decide +kernel
theorem d_M_opensAuthenticator_95 : decode b_M_opensAuthenticator 95 = .ok (.aload_n 0, 1) := by decide +kernel
theorem d_M_opensAuthenticator_96 : decode b_M_opensAuthenticator 96 = .ok (.aload_n 0, 1) := by decide +kernel
theorem d_M_opensAuthenticator_97 : decode b_M_opensAuthenticator 97 = .ok (.getfield 137, 3) := by decide +kernel
theorem d_M_opensAuthenticator_100 : decode b_M_opensAuthenticator 100 = .ok (.aload_n 0, 1) := by decide +kernel
theorem d_M_opensAuthenticator_101 : decode b_M_opensAuthenticator 101 = .ok (.getfield 785, 3) := by decide +kernel
theorem d_M_opensAuthenticator_104 : decode b_M_opensAuthenticator 104 = .ok (.iload_n 1, 1) := by decide +kernel
theorem d_M_opensAuthenticator_105 : decode b_M_opensAuthenticator 105 = .ok (.iload_n 2, 1) := by decide +kernel
theorem d_M_opensAuthenticator_106 : decode b_M_opensAuthenticator 106 = .ok (.iload_n 3, 1) := by decide +kernel
theorem d_M_opensAuthenticator_107 : decode b_M_opensAuthenticator 107 = .ok (.sipush 13200, 3) := by decide +kernel
theorem d_M_opensAuthenticator_110 : decode b_M_opensAuthenticator 110 = .ok (.invokevirtual 765, 3) := by decide +kernel
theorem d_M_opensAuthenticator_113 : decode b_M_opensAuthenticator 113 = .ok (.istore 4, 2) := by decide +kernel
theorem d_M_opensAuthenticator_115 : decode b_M_opensAuthenticator 115 = .ok (.iload 4, 2) := by decide +kernel
theorem d_M_opensAuthenticator_117 : decode b_M_opensAuthenticator 117 = .ok (.ifCond .ge 6, 3) := by decide +kernel
theorem d_M_opensAuthenticator_120 : decode b_M_opensAuthenticator 120 = .ok (.bipush 31, 2) := by decide +kernel
theorem d_M_opensAuthenticator_122 : decode b_M_opensAuthenticator 122 = .ok (.ireturn, 1) := by decide +kernel
theorem d_M_opensAuthenticator_123 : decode b_M_opensAuthenticator 123 = .ok (.aload_n 0, 1) := by decide +kernel
theorem d_M_opensAuthenticator_124 : decode b_M_opensAuthenticator 124 = .ok (.iconst 2, 1) := by decide +kernel
theorem d_M_opensAuthenticator_125 : decode b_M_opensAuthenticator 125 = .ok (.ldc_w 788, 3) := by decide +kernel
theorem d_M_opensAuthenticator_128 : decode b_M_opensAuthenticator 128 = .ok (.sipush 13200, 3) := by decide +kernel
theorem d_M_opensAuthenticator_131 : decode b_M_opensAuthenticator 131 = .ok (.sipush 13200, 3) := by decide +kernel
theorem d_M_opensAuthenticator_134 : decode b_M_opensAuthenticator 134 = .ok (.iload 4, 2) := by decide +kernel
theorem d_M_opensAuthenticator_136 : decode b_M_opensAuthenticator 136 = .ok (.iadd, 1) := by decide +kernel
theorem d_M_opensAuthenticator_137 : decode b_M_opensAuthenticator 137 = .ok (.iconst 5, 1) := by decide +kernel
theorem d_M_opensAuthenticator_138 : decode b_M_opensAuthenticator 138 = .ok (.invokevirtual 522, 3) := by decide +kernel
theorem d_M_opensAuthenticator_141 : decode b_M_opensAuthenticator 141 = .ok (.ifCond .ne 6, 3) := by decide +kernel
theorem d_M_opensAuthenticator_144 : decode b_M_opensAuthenticator 144 = .ok (.bipush 60, 2) := by decide +kernel
theorem d_M_opensAuthenticator_146 : decode b_M_opensAuthenticator 146 = .ok (.ireturn, 1) := by decide +kernel
theorem d_M_opensAuthenticator_147 : decode b_M_opensAuthenticator 147 = .ok (.iconst 0, 1) := by decide +kernel
theorem d_M_opensAuthenticator_148 : decode b_M_opensAuthenticator 148 = .ok (.ireturn, 1) := by decide +kernel
abbrev b_M_sameTime : ByteArray := prog_14_method_113_code
def y_M_sameTime : MethodName := ⟨R_M, "sameTime", "(I)I"⟩
abbrev k_M_sameTime : Cond := .code y_M_sameTime b_M_sameTime 2 (some .int)
theorem ki_M_sameTime : k_M_sameTime ∈ lw_tg := in_t 2684 (by decide +kernel)
theorem ks_M_sameTime : Cond.instanceMethod y_M_sameTime ∈ lw_tg := in_t 2683 (by decide +kernel)
theorem kx_M_sameTime : Cond.selects R_M y_M_sameTime y_M_sameTime ∈ lw_tg := List.mem_filter.mpr ⟨List.mem_append_left _ (List.mem_of_getElem? (i := 162) (by decide +kernel)), rfl⟩
theorem kl_M_sameTime : Cond.methodLink R_M 807 y_M_sameTime ∈ lw_tg := in_t 2681 (by decide +kernel)
theorem hd_M_sameTime : y_M_sameTime.cls = R_M ∧ y_M_sameTime.cls ≠ "java/lang/invoke/MethodHandle" ∧ y_M_sameTime.cls ≠ "java/lang/invoke/VarHandle" ∧ (parseMethodDescriptor y_M_sameTime.desc).map (fun d => d.parameters.length) = some 1 := by decide +kernel
theorem d_M_sameTime_0 : decode b_M_sameTime 0 = .ok (.aload_n 0, 1) := by decide +kernel
theorem d_M_sameTime_1 : decode b_M_sameTime 1 = .ok (.aload_n 0, 1) := by decide +kernel
theorem d_M_sameTime_2 : decode b_M_sameTime 2 = .ok (.iconst 5, 1) := by decide +kernel
theorem d_M_sameTime_3 : decode b_M_sameTime 3 = .ok (.iconst 1, 1) := by decide +kernel
theorem d_M_sameTime_4 : decode b_M_sameTime 4 = .ok (.invokevirtual 536, 3) := by decide +kernel
theorem d_M_sameTime_7 : decode b_M_sameTime 7 = .ok (.aload_n 0, 1) := by decide +kernel
theorem d_M_sameTime_8 : decode b_M_sameTime 8 = .ok (.iconst 5, 1) := by decide +kernel
theorem d_M_sameTime_9 : decode b_M_sameTime 9 = .ok (.iconst 1, 1) := by decide +kernel
theorem d_M_sameTime_10 : decode b_M_sameTime 10 = .ok (.invokevirtual 539, 3) := by decide +kernel
theorem d_M_sameTime_13 : decode b_M_sameTime 13 = .ok (.aload_n 0, 1) := by decide +kernel
theorem d_M_sameTime_14 : decode b_M_sameTime 14 = .ok (.iconst 4, 1) := by decide +kernel
theorem d_M_sameTime_15 : decode b_M_sameTime 15 = .ok (.iconst 2, 1) := by decide +kernel
theorem d_M_sameTime_16 : decode b_M_sameTime 16 = .ok (.invokevirtual 536, 3) := by decide +kernel
theorem d_M_sameTime_19 : decode b_M_sameTime 19 = .ok (.aload_n 0, 1) := by decide +kernel
theorem d_M_sameTime_20 : decode b_M_sameTime 20 = .ok (.iconst 4, 1) := by decide +kernel
theorem d_M_sameTime_21 : decode b_M_sameTime 21 = .ok (.iconst 2, 1) := by decide +kernel
theorem d_M_sameTime_22 : decode b_M_sameTime 22 = .ok (.invokevirtual 539, 3) := by decide +kernel
theorem d_M_sameTime_25 : decode b_M_sameTime 25 = .ok (.invokevirtual 549, 3) := by decide +kernel
theorem d_M_sameTime_28 : decode b_M_sameTime 28 = .ok (.ifCond .eq 34, 3) := by decide +kernel
theorem d_M_sameTime_31 : decode b_M_sameTime 31 = .ok (.aload_n 0, 1) := by decide +kernel
theorem d_M_sameTime_32 : decode b_M_sameTime 32 = .ok (.aload_n 0, 1) := by decide +kernel
theorem d_M_sameTime_33 : decode b_M_sameTime 33 = .ok (.iconst 5, 1) := by decide +kernel
theorem d_M_sameTime_34 : decode b_M_sameTime 34 = .ok (.iconst 2, 1) := by decide +kernel
theorem d_M_sameTime_35 : decode b_M_sameTime 35 = .ok (.invokevirtual 536, 3) := by decide +kernel
theorem d_M_sameTime_38 : decode b_M_sameTime 38 = .ok (.aload_n 0, 1) := by decide +kernel
theorem d_M_sameTime_39 : decode b_M_sameTime 39 = .ok (.iconst 5, 1) := by decide +kernel
theorem d_M_sameTime_40 : decode b_M_sameTime 40 = .ok (.iconst 2, 1) := by decide +kernel
theorem d_M_sameTime_41 : decode b_M_sameTime 41 = .ok (.invokevirtual 539, 3) := by decide +kernel
theorem d_M_sameTime_44 : decode b_M_sameTime 44 = .ok (.aload_n 0, 1) := by decide +kernel
theorem d_M_sameTime_45 : decode b_M_sameTime 45 = .ok (.iconst 4, 1) := by decide +kernel
theorem d_M_sameTime_46 : decode b_M_sameTime 46 = .ok (.iconst 3, 1) := by decide +kernel
theorem d_M_sameTime_47 : decode b_M_sameTime 47 = .ok (.invokevirtual 536, 3) := by decide +kernel
theorem d_M_sameTime_50 : decode b_M_sameTime 50 = .ok (.aload_n 0, 1) := by decide +kernel
theorem d_M_sameTime_51 : decode b_M_sameTime 51 = .ok (.iconst 4, 1) := by decide +kernel
theorem d_M_sameTime_52 : decode b_M_sameTime 52 = .ok (.iconst 3, 1) := by decide +kernel
theorem d_M_sameTime_53 : decode b_M_sameTime 53 = .ok (.invokevirtual 539, 3) := by decide +kernel
theorem d_M_sameTime_56 : decode b_M_sameTime 56 = .ok (.invokevirtual 790, 3) := by decide +kernel
theorem d_M_sameTime_59 : decode b_M_sameTime 59 = .ok (.ifCond .ne 6, 3) := by decide +kernel
theorem d_M_sameTime_62 : decode b_M_sameTime 62 = .ok (.bipush 36, 2) := by decide +kernel
theorem d_M_sameTime_64 : decode b_M_sameTime 64 = .ok (.ireturn, 1) := by decide +kernel
theorem d_M_sameTime_65 : decode b_M_sameTime 65 = .ok (.aload_n 0, 1) := by decide +kernel
theorem d_M_sameTime_66 : decode b_M_sameTime 66 = .ok (.aload_n 0, 1) := by decide +kernel
theorem d_M_sameTime_67 : decode b_M_sameTime 67 = .ok (.iconst 5, 1) := by decide +kernel
theorem d_M_sameTime_68 : decode b_M_sameTime 68 = .ok (.iconst 5, 1) := by decide +kernel
theorem d_M_sameTime_69 : decode b_M_sameTime 69 = .ok (.invokevirtual 731, 3) := by decide +kernel
theorem d_M_sameTime_72 : decode b_M_sameTime 72 = .ok (.aload_n 0, 1) := by decide +kernel
theorem d_M_sameTime_73 : decode b_M_sameTime 73 = .ok (.getfield 18, 3) := by decide +kernel
theorem d_M_sameTime_76 : decode b_M_sameTime 76 = .ok (.i2l, 1) := by decide +kernel
theorem d_M_sameTime_77 : decode b_M_sameTime 77 = .ok (.invokevirtual 771, 3) := by decide +kernel
theorem d_M_sameTime_80 : decode b_M_sameTime 80 = .ok (.ifCond .eq 6, 3) := by decide +kernel
theorem d_M_sameTime_83 : decode b_M_sameTime 83 = .ok (.bipush 37, 2) := by decide +kernel
theorem d_M_sameTime_85 : decode b_M_sameTime 85 = .ok (.ireturn, 1) := by decide +kernel
theorem d_M_sameTime_86 : decode b_M_sameTime 86 = .ok (.aload_n 0, 1) := by decide +kernel
theorem d_M_sameTime_87 : decode b_M_sameTime 87 = .ok (.iload_n 1, 1) := by decide +kernel
theorem d_M_sameTime_88 : decode b_M_sameTime 88 = .ok (.aload_n 0, 1) := by decide +kernel
theorem d_M_sameTime_89 : decode b_M_sameTime 89 = .ok (.iconst 5, 1) := by decide +kernel
theorem d_M_sameTime_90 : decode b_M_sameTime 90 = .ok (.iconst 2, 1) := by decide +kernel
theorem d_M_sameTime_91 : decode b_M_sameTime 91 = .ok (.invokevirtual 536, 3) := by decide +kernel
theorem d_M_sameTime_94 : decode b_M_sameTime 94 = .ok (.aload_n 0, 1) := by decide +kernel
theorem d_M_sameTime_95 : decode b_M_sameTime 95 = .ok (.iconst 5, 1) := by decide +kernel
theorem d_M_sameTime_96 : decode b_M_sameTime 96 = .ok (.iconst 2, 1) := by decide +kernel
theorem d_M_sameTime_97 : decode b_M_sameTime 97 = .ok (.invokevirtual 539, 3) := by decide +kernel
theorem d_M_sameTime_100 : decode b_M_sameTime 100 = .ok (.aload_n 0, 1) := by decide +kernel
theorem d_M_sameTime_101 : decode b_M_sameTime 101 = .ok (.iconst 5, 1) := by decide +kernel
theorem d_M_sameTime_102 : decode b_M_sameTime 102 = .ok (.iconst 5, 1) := by decide +kernel
theorem d_M_sameTime_103 : decode b_M_sameTime 103 = .ok (.invokevirtual 731, 3) := by decide +kernel
theorem d_M_sameTime_106 : decode b_M_sameTime 106 = .ok (.aload_n 0, 1) := by decide +kernel
theorem d_M_sameTime_107 : decode b_M_sameTime 107 = .ok (.iconst 5, 1) := by decide +kernel
theorem d_M_sameTime_108 : decode b_M_sameTime 108 = .ok (.iconst 4, 1) := by decide +kernel
theorem d_M_sameTime_109 : decode b_M_sameTime 109 = .ok (.invokevirtual 665, 3) := by decide +kernel
theorem d_M_sameTime_112 : decode b_M_sameTime 112 = .ok (.l2i, 1) := by decide +kernel
theorem d_M_sameTime_113 : decode b_M_sameTime 113 = .ok (.invokevirtual 793, 3) := by decide +kernel
theorem d_M_sameTime_116 : decode b_M_sameTime 116 = .ok (.ireturn, 1) := by decide +kernel
abbrev b_M_startOf : ByteArray := prog_14_method_114_code
def y_M_startOf : MethodName := ⟨R_M, "startOf", "(III)J"⟩
abbrev k_M_startOf : Cond := .code y_M_startOf b_M_startOf 4 (some .long)
theorem ki_M_startOf : k_M_startOf ∈ lw_tg := in_t 2545 (by decide +kernel)
theorem ks_M_startOf : Cond.instanceMethod y_M_startOf ∈ lw_tg := in_t 2544 (by decide +kernel)
theorem kx_M_startOf : Cond.selects R_M y_M_startOf y_M_startOf ∈ lw_tg := List.mem_filter.mpr ⟨List.mem_append_left _ (List.mem_of_getElem? (i := 129) (by decide +kernel)), rfl⟩
theorem kl_M_startOf : Cond.methodLink R_M 816 y_M_startOf ∈ lw_tg := in_t 2542 (by decide +kernel)
theorem hd_M_startOf : y_M_startOf.cls = R_M ∧ y_M_startOf.cls ≠ "java/lang/invoke/MethodHandle" ∧ y_M_startOf.cls ≠ "java/lang/invoke/VarHandle" ∧ (parseMethodDescriptor y_M_startOf.desc).map (fun d => d.parameters.length) = some 3 := by decide +kernel
theorem d_M_startOf_0 : decode b_M_startOf 0 = .ok (.aload_n 0, 1) := by decide +kernel
theorem d_M_startOf_1 : decode b_M_startOf 1 = .ok (.iload_n 1, 1) := by decide +kernel
theorem d_M_startOf_2 : decode b_M_startOf 2 = .ok (.iload_n 2, 1) := by decide +kernel
theorem d_M_startOf_3 : decode b_M_startOf 3 = .ok (.invokevirtual 675, 3) := by decide +kernel
theorem d_M_startOf_6 : decode b_M_startOf 6 = .ok (.ifCond .eq 12, 3) := by decide +kernel
theorem d_M_startOf_9 : decode b_M_startOf 9 = .ok (.aload_n 0, 1) := by decide +kernel
theorem d_M_startOf_10 : decode b_M_startOf 10 = .ok (.iload_n 1, 1) := by decide +kernel
theorem d_M_startOf_11 : decode b_M_startOf 11 = .ok (.iload_n 2, 1) := by decide +kernel
theorem d_M_startOf_12 : decode b_M_startOf 12 = .ok (.invokevirtual 731, 3) := by decide +kernel
theorem d_M_startOf_15 : decode b_M_startOf 15 = .ok (.goto 9, 3) := by decide +kernel
theorem d_M_startOf_18 : decode b_M_startOf 18 = .ok (.aload_n 0, 1) := by decide +kernel
theorem d_M_startOf_19 : decode b_M_startOf 19 = .ok (.iload_n 1, 1) := by decide +kernel
theorem d_M_startOf_20 : decode b_M_startOf 20 = .ok (.iload_n 3, 1) := by decide +kernel
theorem d_M_startOf_21 : decode b_M_startOf 21 = .ok (.invokevirtual 731, 3) := by decide +kernel
theorem d_M_startOf_24 : decode b_M_startOf 24 = .ok (.lreturn, 1) := by decide +kernel
abbrev b_M_further : ByteArray := prog_14_method_115_code
def y_M_further : MethodName := ⟨R_M, "further", "()I"⟩
abbrev k_M_further : Cond := .code y_M_further b_M_further 6 (some .int)
theorem ki_M_further : k_M_further ∈ lw_tg := List.mem_filter.mpr ⟨List.mem_append_right _ (List.mem_append_right _ (List.mem_append_right _ (List.mem_append_right _ (List.mem_append_right _ (List.mem_append_right _ (List.mem_append_right _ (List.mem_append_right _ (List.mem_append_right _ (List.mem_append_right _ (List.mem_append_right _ (List.mem_append_right _ (List.mem_append_left _ (List.mem_of_getElem? (i := 24) rfl))))))))))))), rfl⟩
theorem ks_M_further : Cond.instanceMethod y_M_further ∈ lw_tg := in_t 2663 (by decide +kernel)
theorem kx_M_further : Cond.selects R_M y_M_further y_M_further ∈ lw_tg := List.mem_filter.mpr ⟨List.mem_append_left _ (List.mem_of_getElem? (i := 158) (by decide +kernel)), rfl⟩
theorem kl_M_further : Cond.methodLink R_M 685 y_M_further ∈ lw_tg := in_t 2661 (by decide +kernel)
theorem hd_M_further : y_M_further.cls = R_M ∧ y_M_further.cls ≠ "java/lang/invoke/MethodHandle" ∧ y_M_further.cls ≠ "java/lang/invoke/VarHandle" ∧ (parseMethodDescriptor y_M_further.desc).map (fun d => d.parameters.length) = some 0 := by decide +kernel
theorem d_M_further_0 : decode b_M_further 0 = .ok (.aload_n 0, 1) := by decide +kernel
theorem d_M_further_1 : decode b_M_further 1 = .ok (.iconst 1, 1) := by decide +kernel
theorem d_M_further_2 : decode b_M_further 2 = .ok (.invokevirtual 749, 3) := by decide +kernel
theorem d_M_further_5 : decode b_M_further 5 = .ok (.ifCond .ne 6, 3) := by decide +kernel
theorem d_M_further_8 : decode b_M_further 8 = .ok (.bipush 25, 2) := by decide +kernel
theorem d_M_further_10 : decode b_M_further 10 = .ok (.ireturn, 1) := by decide +kernel
theorem d_M_further_11 : decode b_M_further 11 = .ok (.aload_n 0, 1) := by decide +kernel
theorem d_M_further_12 : decode b_M_further 12 = .ok (.getfield 470, 3) := by decide +kernel
theorem d_M_further_15 : decode b_M_further 15 = .ok (.istore_n 1, 1) := by decide +kernel
theorem d_M_further_16 : decode b_M_further 16 = .ok (.aload_n 0, 1) := by decide +kernel
theorem d_M_further_17 : decode b_M_further 17 = .ok (.getfield 473, 3) := by decide +kernel
theorem d_M_further_20 : decode b_M_further 20 = .ok (.istore_n 2, 1) := by decide +kernel
theorem d_M_further_21 : decode b_M_further 21 = .ok (.aload_n 0, 1) := by decide +kernel
theorem d_M_further_22 : decode b_M_further 22 = .ok (.bipush 14, 2) := by decide +kernel
theorem d_M_further_24 : decode b_M_further 24 = .ok (.ldc_w 797, 3) := by decide +kernel
theorem d_M_further_27 : decode b_M_further 27 = .ok (.iload_n 1, 1) := by decide +kernel
theorem d_M_further_28 : decode b_M_further 28 = .ok (.iload_n 2, 1) := by decide +kernel
theorem d_M_further_29 : decode b_M_further 29 = .ok (.iconst 2, 1) := by decide +kernel
theorem d_M_further_30 : decode b_M_further 30 = .ok (.invokevirtual 522, 3) := by decide +kernel
theorem d_M_further_33 : decode b_M_further 33 = .ok (.ifCond .ne 6, 3) := by decide +kernel
theorem d_M_further_36 : decode b_M_further 36 = .ok (.bipush 60, 2) := by decide +kernel
theorem d_M_further_38 : decode b_M_further 38 = .ok (.ireturn, 1) := by decide +kernel
theorem d_M_further_39 : decode b_M_further 39 = .ok (.aload_n 0, 1) := by decide +kernel
theorem d_M_further_40 : decode b_M_further 40 = .ok (.iconst 2, 1) := by decide +kernel
theorem d_M_further_41 : decode b_M_further 41 = .ok (.iconst 0, 1) := by decide +kernel
theorem d_M_further_42 : decode b_M_further 42 = .ok (.invokevirtual 665, 3) := by decide +kernel
theorem d_M_further_45 : decode b_M_further 45 = .ok (.ldc2_w 669, 3) := by decide +kernel
theorem d_M_further_48 : decode b_M_further 48 = .ok (.lcmp, 1) := by decide +kernel
theorem d_M_further_49 : decode b_M_further 49 = .ok (.ifCond .eq 5, 3) := by decide +kernel
theorem d_M_further_52 : decode b_M_further 52 = .ok (.iconst 3, 1) := by decide +kernel
theorem d_M_further_53 : decode b_M_further 53 = .ok (.ireturn, 1) := by decide +kernel
theorem d_M_further_54 : decode b_M_further 54 = .ok (.aload_n 0, 1) := by decide +kernel
theorem d_M_further_55 : decode b_M_further 55 = .ok (.iconst 2, 1) := by decide +kernel
theorem d_M_further_56 : decode b_M_further 56 = .ok (.iconst 1, 1) := by decide +kernel
theorem d_M_further_57 : decode b_M_further 57 = .ok (.invokevirtual 665, 3) := by decide +kernel
theorem d_M_further_60 : decode b_M_further 60 = .ok (.ldc2_w 799, 3) := by decide +kernel
theorem d_M_further_63 : decode b_M_further 63 = .ok (.lcmp, 1) := by decide +kernel
theorem d_M_further_64 : decode b_M_further 64 = .ok (.ifCond .eq 6, 3) := by decide +kernel
theorem d_M_further_67 : decode b_M_further 67 = .ok (.bipush 40, 2) := by decide +kernel
theorem d_M_further_69 : decode b_M_further 69 = .ok (.ireturn, 1) := by decide +kernel
theorem d_M_further_70 : decode b_M_further 70 = .ok (.aload_n 0, 1) := by decide +kernel
theorem d_M_further_71 : decode b_M_further 71 = .ok (.aload_n 0, 1) := by decide +kernel
theorem d_M_further_72 : decode b_M_further 72 = .ok (.iconst 2, 1) := by decide +kernel
theorem d_M_further_73 : decode b_M_further 73 = .ok (.iconst 3, 1) := by decide +kernel
theorem d_M_further_74 : decode b_M_further 74 = .ok (.invokevirtual 536, 3) := by decide +kernel
theorem d_M_further_77 : decode b_M_further 77 = .ok (.aload_n 0, 1) := by decide +kernel
theorem d_M_further_78 : decode b_M_further 78 = .ok (.iconst 2, 1) := by decide +kernel
theorem d_M_further_79 : decode b_M_further 79 = .ok (.iconst 3, 1) := by decide +kernel
theorem d_M_further_80 : decode b_M_further 80 = .ok (.invokevirtual 539, 3) := by decide +kernel
theorem d_M_further_83 : decode b_M_further 83 = .ok (.bipush 97, 2) := by decide +kernel
theorem d_M_further_85 : decode b_M_further 85 = .ok (.invokevirtual 480, 3) := by decide +kernel
theorem d_M_further_88 : decode b_M_further 88 = .ok (.pop, 1) := by decide +kernel
theorem d_M_further_89 : decode b_M_further 89 = .ok (.aload_n 0, 1) := by decide +kernel
theorem d_M_further_90 : decode b_M_further 90 = .ok (.ldc_w 520, 3) := by decide +kernel
theorem d_M_further_93 : decode b_M_further 93 = .ok (.aload_n 0, 1) := by decide +kernel
theorem d_M_further_94 : decode b_M_further 94 = .ok (.getfield 470, 3) := by decide +kernel
theorem d_M_further_97 : decode b_M_further 97 = .ok (.aload_n 0, 1) := by decide +kernel
theorem d_M_further_98 : decode b_M_further 98 = .ok (.iconst 2, 1) := by decide +kernel
theorem d_M_further_99 : decode b_M_further 99 = .ok (.iconst 3, 1) := by decide +kernel
theorem d_M_further_100 : decode b_M_further 100 = .ok (.invokevirtual 539, 3) := by decide +kernel
theorem d_M_further_103 : decode b_M_further 103 = .ok (.iconst 3, 1) := by decide +kernel
theorem d_M_further_104 : decode b_M_further 104 = .ok (.invokevirtual 487, 3) := by decide +kernel
theorem d_M_further_107 : decode b_M_further 107 = .ok (.pop, 1) := by decide +kernel
theorem d_M_further_108 : decode b_M_further 108 = .ok (.aload_n 0, 1) := by decide +kernel
theorem d_M_further_109 : decode b_M_further 109 = .ok (.iconst 0, 1) := by decide +kernel
theorem d_M_further_110 : decode b_M_further 110 = .ok (.iconst 1, 1) := by decide +kernel
theorem d_M_further_111 : decode b_M_further 111 = .ok (.invokevirtual 801, 3) := by decide +kernel
theorem d_M_further_114 : decode b_M_further 114 = .ok (.istore_n 3, 1) := by decide +kernel
theorem d_M_further_115 : decode b_M_further 115 = .ok (.iload_n 3, 1) := by decide +kernel
theorem d_M_further_116 : decode b_M_further 116 = .ok (.ifCond .ne 10, 3) := by decide +kernel
theorem d_M_further_119 : decode b_M_further 119 = .ok (.aload_n 0, 1) := by decide +kernel
theorem d_M_further_120 : decode b_M_further 120 = .ok (.bipush 7, 2) := by decide +kernel
theorem d_M_further_122 : decode b_M_further 122 = .ok (.invokevirtual 804, 3) := by decide +kernel
theorem d_M_further_125 : decode b_M_further 125 = .ok (.istore_n 3, 1) := by decide +kernel
theorem d_M_further_126 : decode b_M_further 126 = .ok (.iload_n 3, 1) := by decide +kernel
theorem d_M_further_127 : decode b_M_further 127 = .ok (.ifCond .ne 10, 3) := by decide +kernel
theorem d_M_further_130 : decode b_M_further 130 = .ok (.aload_n 0, 1) := by decide +kernel
theorem d_M_further_131 : decode b_M_further 131 = .ok (.bipush 12, 2) := by decide +kernel
theorem d_M_further_133 : decode b_M_further 133 = .ok (.invokevirtual 807, 3) := by decide +kernel
theorem d_M_further_136 : decode b_M_further 136 = .ok (.istore_n 3, 1) := by decide +kernel
theorem d_M_further_137 : decode b_M_further 137 = .ok (.iload_n 3, 1) := by decide +kernel
theorem d_M_further_138 : decode b_M_further 138 = .ok (.ifCond .eq 5, 3) := by decide +kernel
theorem d_M_further_141 : decode b_M_further 141 = .ok (.iload_n 3, 1) := by decide +kernel
theorem d_M_further_142 : decode b_M_further 142 = .ok (.ireturn, 1) := by decide +kernel
theorem d_M_further_143 : decode b_M_further 143 = .ok (.aload_n 0, 1) := by decide +kernel
theorem d_M_further_144 : decode b_M_further 144 = .ok (.iconst 5, 1) := by decide +kernel
theorem d_M_further_145 : decode b_M_further 145 = .ok (.iconst 3, 1) := by decide +kernel
theorem d_M_further_146 : decode b_M_further 146 = .ok (.invokevirtual 675, 3) := by decide +kernel
theorem d_M_further_149 : decode b_M_further 149 = .ok (.ifCond .ne 6, 3) := by decide +kernel
theorem d_M_further_152 : decode b_M_further 152 = .ok (.bipush 50, 2) := by decide +kernel
theorem d_M_further_154 : decode b_M_further 154 = .ok (.ireturn, 1) := by decide +kernel
theorem d_M_further_155 : decode b_M_further 155 = .ok (.aload_n 0, 1) := by decide +kernel
theorem d_M_further_156 : decode b_M_further 156 = .ok (.ldc_w 518, 3) := by decide +kernel
theorem d_M_further_159 : decode b_M_further 159 = .ok (.aload_n 0, 1) := by decide +kernel
theorem d_M_further_160 : decode b_M_further 160 = .ok (.iconst 5, 1) := by decide +kernel
theorem d_M_further_161 : decode b_M_further 161 = .ok (.iconst 3, 1) := by decide +kernel
theorem d_M_further_162 : decode b_M_further 162 = .ok (.invokevirtual 536, 3) := by decide +kernel
theorem d_M_further_165 : decode b_M_further 165 = .ok (.aload_n 0, 1) := by decide +kernel
theorem d_M_further_166 : decode b_M_further 166 = .ok (.iconst 5, 1) := by decide +kernel
theorem d_M_further_167 : decode b_M_further 167 = .ok (.iconst 3, 1) := by decide +kernel
theorem d_M_further_168 : decode b_M_further 168 = .ok (.invokevirtual 539, 3) := by decide +kernel
theorem d_M_further_171 : decode b_M_further 171 = .ok (.bipush 8, 2) := by decide +kernel
theorem d_M_further_173 : decode b_M_further 173 = .ok (.invokevirtual 487, 3) := by decide +kernel
theorem d_M_further_176 : decode b_M_further 176 = .ok (.pop, 1) := by decide +kernel
theorem d_M_further_177 : decode b_M_further 177 = .ok (.aload_n 0, 1) := by decide +kernel
theorem d_M_further_178 : decode b_M_further 178 = .ok (.bipush 8, 2) := by decide +kernel
theorem d_M_further_180 : decode b_M_further 180 = .ok (.iconst 0, 1) := by decide +kernel
theorem d_M_further_181 : decode b_M_further 181 = .ok (.invokevirtual 665, 3) := by decide +kernel
theorem d_M_further_184 : decode b_M_further 184 = .ok (.aload_n 0, 1) := by decide +kernel
theorem d_M_further_185 : decode b_M_further 185 = .ok (.getfield 785, 3) := by decide +kernel
theorem d_M_further_188 : decode b_M_further 188 = .ok (.i2l, 1) := by decide +kernel
theorem d_M_further_189 : decode b_M_further 189 = .ok (.ldc2_w 810, 3) := by decide +kernel
theorem d_M_further_192 : decode b_M_further 192 = .ok (.lsub, 1) := by decide +kernel
theorem d_M_further_193 : decode b_M_further 193 = .ok (.lcmp, 1) := by decide +kernel
theorem d_M_further_194 : decode b_M_further 194 = .ok (.ifCond .eq 6, 3) := by decide +kernel
theorem d_M_further_197 : decode b_M_further 197 = .ok (.bipush 50, 2) := by decide +kernel
theorem d_M_further_199 : decode b_M_further 199 = .ok (.ireturn, 1) := by decide +kernel
theorem d_M_further_200 : decode b_M_further 200 = .ok (.aload_n 0, 1) := by decide +kernel
theorem d_M_further_201 : decode b_M_further 201 = .ok (.aload_n 0, 1) := by decide +kernel
theorem d_M_further_202 : decode b_M_further 202 = .ok (.getfield 137, 3) := by decide +kernel
theorem d_M_further_205 : decode b_M_further 205 = .ok (.aload_n 0, 1) := by decide +kernel
theorem d_M_further_206 : decode b_M_further 206 = .ok (.getfield 785, 3) := by decide +kernel
theorem d_M_further_209 : decode b_M_further 209 = .ok (.bipush 6, 2) := by decide +kernel
theorem d_M_further_211 : decode b_M_further 211 = .ok (.aload_n 0, 1) := by decide +kernel
theorem d_M_further_212 : decode b_M_further 212 = .ok (.iconst 0, 1) := by decide +kernel
theorem d_M_further_213 : decode b_M_further 213 = .ok (.iconst 4, 1) := by decide +kernel
theorem d_M_further_214 : decode b_M_further 214 = .ok (.invokevirtual 536, 3) := by decide +kernel
theorem d_M_further_217 : decode b_M_further 217 = .ok (.aload_n 0, 1) := by decide +kernel
theorem d_M_further_218 : decode b_M_further 218 = .ok (.iconst 0, 1) := by decide +kernel
theorem d_M_further_219 : decode b_M_further 219 = .ok (.iconst 4, 1) := by decide +kernel
theorem d_M_further_220 : decode b_M_further 220 = .ok (.invokevirtual 539, 3) := by decide +kernel
theorem d_M_further_223 : decode b_M_further 223 = .ok (.invokevirtual 812, 3) := by decide +kernel
theorem d_M_further_226 : decode b_M_further 226 = .ok (.aload_n 0, 1) := by decide +kernel
theorem d_M_further_227 : decode b_M_further 227 = .ok (.aload_n 0, 1) := by decide +kernel
theorem d_M_further_228 : decode b_M_further 228 = .ok (.bipush 8, 2) := by decide +kernel
theorem d_M_further_230 : decode b_M_further 230 = .ok (.iconst 1, 1) := by decide +kernel
theorem d_M_further_231 : decode b_M_further 231 = .ok (.invokevirtual 536, 3) := by decide +kernel
theorem d_M_further_234 : decode b_M_further 234 = .ok (.aload_n 0, 1) := by decide +kernel
theorem d_M_further_235 : decode b_M_further 235 = .ok (.bipush 8, 2) := by decide +kernel
theorem d_M_further_237 : decode b_M_further 237 = .ok (.iconst 1, 1) := by decide +kernel
theorem d_M_further_238 : decode b_M_further 238 = .ok (.invokevirtual 539, 3) := by decide +kernel
theorem d_M_further_241 : decode b_M_further 241 = .ok (.iconst 4, 1) := by decide +kernel
theorem d_M_further_242 : decode b_M_further 242 = .ok (.invokevirtual 476, 3) := by decide +kernel
theorem d_M_further_245 : decode b_M_further 245 = .ok (.pop, 1) := by decide +kernel
theorem d_M_further_246 : decode b_M_further 246 = .ok (.aload_n 0, 1) := by decide +kernel
theorem d_M_further_247 : decode b_M_further 247 = .ok (.getfield 473, 3) := by decide +kernel
theorem d_M_further_250 : decode b_M_further 250 = .ok (.aload_n 0, 1) := by decide +kernel
theorem d_M_further_251 : decode b_M_further 251 = .ok (.getfield 470, 3) := by decide +kernel
theorem d_M_further_254 : decode b_M_further 254 = .ok (.isub, 1) := by decide +kernel
theorem d_M_further_255 : decode b_M_further 255 = .ok (.bipush 12, 2) := by decide +kernel
theorem d_M_further_257 : decode b_M_further 257 = .ok (.if_icmp .eq 6, 3) := by decide +kernel
theorem d_M_further_260 : decode b_M_further 260 = .ok (.bipush 41, 2) := by decide +kernel
theorem d_M_further_262 : decode b_M_further 262 = .ok (.ireturn, 1) := by decide +kernel
theorem d_M_further_263 : decode b_M_further 263 = .ok (.iconst 0, 1) := by decide +kernel
theorem d_M_further_264 : decode b_M_further 264 = .ok (.istore 4, 2) := by decide +kernel
theorem d_M_further_266 : decode b_M_further 266 = .ok (.iload 4, 2) := by decide +kernel
theorem d_M_further_268 : decode b_M_further 268 = .ok (.bipush 12, 2) := by decide +kernel
theorem d_M_further_270 : decode b_M_further 270 = .ok (.if_icmp .ge 34, 3) := by decide +kernel
theorem d_M_further_273 : decode b_M_further 273 = .ok (.aload_n 0, 1) := by decide +kernel
theorem d_M_further_274 : decode b_M_further 274 = .ok (.getfield 10, 3) := by decide +kernel
theorem d_M_further_277 : decode b_M_further 277 = .ok (.aload_n 0, 1) := by decide +kernel
theorem d_M_further_278 : decode b_M_further 278 = .ok (.getfield 470, 3) := by decide +kernel
theorem d_M_further_281 : decode b_M_further 281 = .ok (.iload 4, 2) := by decide +kernel
theorem d_M_further_283 : decode b_M_further 283 = .ok (.iadd, 1) := by decide +kernel
theorem d_M_further_284 : decode b_M_further 284 = .ok (.baload, 1) := by decide +kernel
theorem d_M_further_285 : decode b_M_further 285 = .ok (.aload_n 0, 1) := by decide +kernel
theorem d_M_further_286 : decode b_M_further 286 = .ok (.getfield 35, 3) := by decide +kernel
theorem d_M_further_289 : decode b_M_further 289 = .ok (.iload 4, 2) := by decide +kernel
theorem d_M_further_291 : decode b_M_further 291 = .ok (.baload, 1) := by decide +kernel
theorem d_M_further_292 : decode b_M_further 292 = .ok (.if_icmp .eq 6, 3) := by decide +kernel
theorem d_M_further_295 : decode b_M_further 295 = .ok (.bipush 41, 2) := by decide +kernel
theorem d_M_further_297 : decode b_M_further 297 = .ok (.ireturn, 1) := by decide +kernel
theorem d_M_further_298 : decode b_M_further 298 = .ok (.iinc 4 1, 3) := by decide +kernel
theorem d_M_further_301 : decode b_M_further 301 = .ok (.goto (-35), 3) := by decide +kernel
theorem d_M_further_304 : decode b_M_further 304 = .ok (.aload_n 0, 1) := by decide +kernel
theorem d_M_further_305 : decode b_M_further 305 = .ok (.iconst 4, 1) := by decide +kernel
theorem d_M_further_306 : decode b_M_further 306 = .ok (.bipush 6, 2) := by decide +kernel
theorem d_M_further_308 : decode b_M_further 308 = .ok (.iconst 5, 1) := by decide +kernel
theorem d_M_further_309 : decode b_M_further 309 = .ok (.invokevirtual 816, 3) := by decide +kernel
theorem d_M_further_312 : decode b_M_further 312 = .ok (.aload_n 0, 1) := by decide +kernel
theorem d_M_further_313 : decode b_M_further 313 = .ok (.getfield 18, 3) := by decide +kernel
theorem d_M_further_316 : decode b_M_further 316 = .ok (.i2l, 1) := by decide +kernel
theorem d_M_further_317 : decode b_M_further 317 = .ok (.ldc2_w 646, 3) := by decide +kernel
theorem d_M_further_320 : decode b_M_further 320 = .ok (.ladd, 1) := by decide +kernel
theorem d_M_further_321 : decode b_M_further 321 = .ok (.lcmp, 1) := by decide +kernel
theorem d_M_further_322 : decode b_M_further 322 = .ok (.ifCond .le 6, 3) := by decide +kernel
theorem d_M_further_325 : decode b_M_further 325 = .ok (.bipush 33, 2) := by decide +kernel
theorem d_M_further_327 : decode b_M_further 327 = .ok (.ireturn, 1) := by decide +kernel
theorem d_M_further_328 : decode b_M_further 328 = .ok (.aload_n 0, 1) := by decide +kernel
theorem d_M_further_329 : decode b_M_further 329 = .ok (.iconst 4, 1) := by decide +kernel
theorem d_M_further_330 : decode b_M_further 330 = .ok (.bipush 7, 2) := by decide +kernel
theorem d_M_further_332 : decode b_M_further 332 = .ok (.invokevirtual 731, 3) := by decide +kernel
theorem d_M_further_335 : decode b_M_further 335 = .ok (.aload_n 0, 1) := by decide +kernel
theorem d_M_further_336 : decode b_M_further 336 = .ok (.getfield 18, 3) := by decide +kernel
theorem d_M_further_339 : decode b_M_further 339 = .ok (.i2l, 1) := by decide +kernel
theorem d_M_further_340 : decode b_M_further 340 = .ok (.lcmp, 1) := by decide +kernel
theorem d_M_further_341 : decode b_M_further 341 = .ok (.ifCond .gt 6, 3) := by decide +kernel
theorem d_M_further_344 : decode b_M_further 344 = .ok (.bipush 32, 2) := by decide +kernel
theorem d_M_further_346 : decode b_M_further 346 = .ok (.ireturn, 1) := by decide +kernel
theorem d_M_further_347 : decode b_M_further 347 = .ok (.aload_n 0, 1) := by decide +kernel
theorem d_M_further_348 : decode b_M_further 348 = .ok (.aload_n 0, 1) := by decide +kernel
theorem d_M_further_349 : decode b_M_further 349 = .ok (.aload_n 0, 1) := by decide +kernel
theorem d_M_further_350 : decode b_M_further 350 = .ok (.iconst 4, 1) := by decide +kernel
theorem d_M_further_351 : decode b_M_further 351 = .ok (.iconst 3, 1) := by decide +kernel
theorem d_M_further_352 : decode b_M_further 352 = .ok (.invokevirtual 536, 3) := by decide +kernel
theorem d_M_further_355 : decode b_M_further 355 = .ok (.aload_n 0, 1) := by decide +kernel
theorem d_M_further_356 : decode b_M_further 356 = .ok (.iconst 4, 1) := by decide +kernel
theorem d_M_further_357 : decode b_M_further 357 = .ok (.iconst 3, 1) := by decide +kernel
theorem d_M_further_358 : decode b_M_further 358 = .ok (.invokevirtual 539, 3) := by decide +kernel
theorem d_M_further_361 : decode b_M_further 361 = .ok (.invokevirtual 710, 3) := by decide +kernel
theorem d_M_further_364 : decode b_M_further 364 = .ok (.putfield 722, 3) := by decide +kernel
theorem d_M_further_367 : decode b_M_further 367 = .ok (.aload_n 0, 1) := by decide +kernel
theorem d_M_further_368 : decode b_M_further 368 = .ok (.getfield 722, 3) := by decide +kernel
theorem d_M_further_371 : decode b_M_further 371 = .ok (.ifCond .ge 6, 3) := by decide +kernel
theorem d_M_further_374 : decode b_M_further 374 = .ok (.bipush 6, 2) := by decide +kernel
theorem d_M_further_376 : decode b_M_further 376 = .ok (.ireturn, 1) := by decide +kernel
theorem d_M_further_377 : decode b_M_further 377 = .ok (.aload_n 0, 1) := by decide +kernel
theorem d_M_further_378 : decode b_M_further 378 = .ok (.aload_n 0, 1) := by decide +kernel
theorem d_M_further_379 : decode b_M_further 379 = .ok (.getfield 722, 3) := by decide +kernel
theorem d_M_further_382 : decode b_M_further 382 = .ok (.bipush 32, 2) := by decide +kernel
theorem d_M_further_384 : decode b_M_further 384 = .ok (.invokevirtual 716, 3) := by decide +kernel
theorem d_M_further_387 : decode b_M_further 387 = .ok (.ifCond .eq 6, 3) := by decide +kernel
theorem d_M_further_390 : decode b_M_further 390 = .ok (.bipush 18, 2) := by decide +kernel
theorem d_M_further_392 : decode b_M_further 392 = .ok (.ireturn, 1) := by decide +kernel
theorem d_M_further_393 : decode b_M_further 393 = .ok (.aload_n 0, 1) := by decide +kernel
theorem d_M_further_394 : decode b_M_further 394 = .ok (.aload_n 0, 1) := by decide +kernel
theorem d_M_further_395 : decode b_M_further 395 = .ok (.getfield 722, 3) := by decide +kernel
theorem d_M_further_398 : decode b_M_further 398 = .ok (.invokevirtual 719, 3) := by decide +kernel
theorem d_M_further_401 : decode b_M_further 401 = .ok (.ifCond .eq 5, 3) := by decide +kernel
theorem d_M_further_404 : decode b_M_further 404 = .ok (.iconst 1, 1) := by decide +kernel
theorem d_M_further_405 : decode b_M_further 405 = .ok (.ireturn, 1) := by decide +kernel
theorem d_M_further_406 : decode b_M_further 406 = .ok (.aload_n 0, 1) := by decide +kernel
theorem d_M_further_407 : decode b_M_further 407 = .ok (.invokevirtual 725, 3) := by decide +kernel
theorem d_M_further_410 : decode b_M_further 410 = .ok (.istore_n 3, 1) := by decide +kernel
theorem d_M_further_411 : decode b_M_further 411 = .ok (.iload_n 3, 1) := by decide +kernel
theorem d_M_further_412 : decode b_M_further 412 = .ok (.ifCond .eq 5, 3) := by decide +kernel
theorem d_M_further_415 : decode b_M_further 415 = .ok (.iload_n 3, 1) := by decide +kernel
theorem d_M_further_416 : decode b_M_further 416 = .ok (.ireturn, 1) := by decide +kernel
theorem d_M_further_417 : decode b_M_further 417 = .ok (.aload_n 0, 1) := by decide +kernel
theorem d_M_further_418 : decode b_M_further 418 = .ok (.iconst 2, 1) := by decide +kernel
theorem d_M_further_419 : decode b_M_further 419 = .ok (.invokestatic 701, 3) := by decide +kernel
theorem d_M_further_422 : decode b_M_further 422 = .ok (.iconst 4, 1) := by decide +kernel
theorem d_M_further_423 : decode b_M_further 423 = .ok (.invokestatic 701, 3) := by decide +kernel
theorem d_M_further_426 : decode b_M_further 426 = .ok (.ior, 1) := by decide +kernel
theorem d_M_further_427 : decode b_M_further 427 = .ok (.bipush 30, 2) := by decide +kernel
theorem d_M_further_429 : decode b_M_further 429 = .ok (.invokestatic 701, 3) := by decide +kernel
theorem d_M_further_432 : decode b_M_further 432 = .ok (.ior, 1) := by decide +kernel
theorem d_M_further_433 : decode b_M_further 433 = .ok (.invokevirtual 728, 3) := by decide +kernel
theorem d_M_further_436 : decode b_M_further 436 = .ok (.ifCond .ne 6, 3) := by decide +kernel
theorem d_M_further_439 : decode b_M_further 439 = .ok (.bipush 13, 2) := by decide +kernel
theorem d_M_further_441 : decode b_M_further 441 = .ok (.ireturn, 1) := by decide +kernel
theorem d_M_further_442 : decode b_M_further 442 = .ok (.aload_n 0, 1) := by decide +kernel
theorem d_M_further_443 : decode b_M_further 443 = .ok (.iconst 1, 1) := by decide +kernel
theorem d_M_further_444 : decode b_M_further 444 = .ok (.iconst 0, 1) := by decide +kernel
theorem d_M_further_445 : decode b_M_further 445 = .ok (.invokevirtual 704, 3) := by decide +kernel
theorem d_M_further_448 : decode b_M_further 448 = .ok (.istore 4, 2) := by decide +kernel
theorem d_M_further_450 : decode b_M_further 450 = .ok (.aload_n 0, 1) := by decide +kernel
theorem d_M_further_451 : decode b_M_further 451 = .ok (.iconst 4, 1) := by decide +kernel
theorem d_M_further_452 : decode b_M_further 452 = .ok (.iconst 0, 1) := by decide +kernel
theorem d_M_further_453 : decode b_M_further 453 = .ok (.invokevirtual 704, 3) := by decide +kernel
theorem d_M_further_456 : decode b_M_further 456 = .ok (.istore 5, 2) := by decide +kernel
theorem d_M_further_458 : decode b_M_further 458 = .ok (.aload_n 0, 1) := by decide +kernel
theorem d_M_further_459 : decode b_M_further 459 = .ok (.iload 4, 2) := by decide +kernel
theorem d_M_further_461 : decode b_M_further 461 = .ok (.iconst 2, 1) := by decide +kernel
theorem d_M_further_462 : decode b_M_further 462 = .ok (.invokevirtual 820, 3) := by decide +kernel
theorem d_M_further_465 : decode b_M_further 465 = .ok (.ifCond .eq 16, 3) := by decide +kernel
theorem d_M_further_468 : decode b_M_further 468 = .ok (.aload_n 0, 1) := by decide +kernel
theorem d_M_further_469 : decode b_M_further 469 = .ok (.iload 5, 2) := by decide +kernel
theorem d_M_further_471 : decode b_M_further 471 = .ok (.iconst 1, 1) := by decide +kernel
theorem d_M_further_472 : decode b_M_further 472 = .ok (.invokevirtual 820, 3) := by decide +kernel
theorem d_M_further_475 : decode b_M_further 475 = .ok (.ifCond .ne 6, 3) := by decide +kernel
theorem d_M_further_478 : decode b_M_further 478 = .ok (.bipush 13, 2) := by decide +kernel
theorem d_M_further_480 : decode b_M_further 480 = .ok (.ireturn, 1) := by decide +kernel
theorem d_M_further_481 : decode b_M_further 481 = .ok (.aload_n 0, 1) := by decide +kernel
theorem d_M_further_482 : decode b_M_further 482 = .ok (.iload 4, 2) := by decide +kernel
theorem d_M_further_484 : decode b_M_further 484 = .ok (.iconst 4, 1) := by decide +kernel
theorem d_M_further_485 : decode b_M_further 485 = .ok (.invokevirtual 820, 3) := by decide +kernel
theorem d_M_further_488 : decode b_M_further 488 = .ok (.ifCond .eq 23, 3) := by decide +kernel
theorem d_M_further_491 : decode b_M_further 491 = .ok (.aload_n 0, 1) := by decide +kernel
theorem d_M_further_492 : decode b_M_further 492 = .ok (.iload 5, 2) := by decide +kernel
theorem d_M_further_494 : decode b_M_further 494 = .ok (.iconst 3, 1) := by decide +kernel
theorem d_M_further_495 : decode b_M_further 495 = .ok (.invokevirtual 820, 3) := by decide +kernel
theorem d_M_further_498 : decode b_M_further 498 = .ok (.ifCond .eq 10, 3) := by decide +kernel
theorem d_M_further_501 : decode b_M_further 501 = .ok (.aload_n 0, 1) := by decide +kernel
theorem d_M_further_502 : decode b_M_further 502 = .ok (.getfield 713, 3) := by decide +kernel
theorem d_M_further_505 : decode b_M_further 505 = .ok (.ifCond .ne 6, 3) := by decide +kernel
theorem d_M_further_508 : decode b_M_further 508 = .ok (.bipush 13, 2) := by decide +kernel
theorem d_M_further_510 : decode b_M_further 510 = .ok (.ireturn, 1) := by decide +kernel
theorem d_M_further_511 : decode b_M_further 511 = .ok (.aload_n 0, 1) := by decide +kernel
theorem d_M_further_512 : decode b_M_further 512 = .ok (.iload 4, 2) := by decide +kernel
theorem d_M_further_514 : decode b_M_further 514 = .ok (.bipush 30, 2) := by decide +kernel
theorem d_M_further_516 : decode b_M_further 516 = .ok (.invokevirtual 820, 3) := by decide +kernel
theorem d_M_further_519 : decode b_M_further 519 = .ok (.ifCond .eq 53, 3) := by decide +kernel
theorem d_M_further_522 : decode b_M_further 522 = .ok (.aload_n 0, 1) := by decide +kernel
theorem d_M_further_523 : decode b_M_further 523 = .ok (.iload 5, 2) := by decide +kernel
theorem d_M_further_525 : decode b_M_further 525 = .ok (.bipush 8, 2) := by decide +kernel
theorem d_M_further_527 : decode b_M_further 527 = .ok (.invokevirtual 820, 3) := by decide +kernel
theorem d_M_further_530 : decode b_M_further 530 = .ok (.ifCond .eq 20, 3) := by decide +kernel
theorem d_M_further_533 : decode b_M_further 533 = .ok (.aload_n 0, 1) := by decide +kernel
theorem d_M_further_534 : decode b_M_further 534 = .ok (.getfield 713, 3) := by decide +kernel
theorem d_M_further_537 : decode b_M_further 537 = .ok (.ifCond .ne 13, 3) := by decide +kernel
theorem d_M_further_540 : decode b_M_further 540 = .ok (.aload_n 0, 1) := by decide +kernel
theorem d_M_further_541 : decode b_M_further 541 = .ok (.iconst 4, 1) := by decide +kernel
theorem d_M_further_542 : decode b_M_further 542 = .ok (.bipush 8, 2) := by decide +kernel
theorem d_M_further_544 : decode b_M_further 544 = .ok (.invokevirtual 675, 3) := by decide +kernel
theorem d_M_further_547 : decode b_M_further 547 = .ok (.ifCond .ne 6, 3) := by decide +kernel
theorem d_M_further_550 : decode b_M_further 550 = .ok (.bipush 13, 2) := by decide +kernel
theorem d_M_further_552 : decode b_M_further 552 = .ok (.ireturn, 1) := by decide +kernel
theorem d_M_further_553 : decode b_M_further 553 = .ok (.aload_n 0, 1) := by decide +kernel
theorem d_M_further_554 : decode b_M_further 554 = .ok (.iconst 4, 1) := by decide +kernel
theorem d_M_further_555 : decode b_M_further 555 = .ok (.bipush 8, 2) := by decide +kernel
theorem d_M_further_557 : decode b_M_further 557 = .ok (.invokevirtual 731, 3) := by decide +kernel
theorem d_M_further_560 : decode b_M_further 560 = .ok (.aload_n 0, 1) := by decide +kernel
theorem d_M_further_561 : decode b_M_further 561 = .ok (.getfield 18, 3) := by decide +kernel
theorem d_M_further_564 : decode b_M_further 564 = .ok (.i2l, 1) := by decide +kernel
theorem d_M_further_565 : decode b_M_further 565 = .ok (.lcmp, 1) := by decide +kernel
theorem d_M_further_566 : decode b_M_further 566 = .ok (.ifCond .gt 6, 3) := by decide +kernel
theorem d_M_further_569 : decode b_M_further 569 = .ok (.bipush 32, 2) := by decide +kernel
theorem d_M_further_571 : decode b_M_further 571 = .ok (.ireturn, 1) := by decide +kernel
theorem d_M_further_572 : decode b_M_further 572 = .ok (.aload_n 0, 1) := by decide +kernel
theorem d_M_further_573 : decode b_M_further 573 = .ok (.aload_n 0, 1) := by decide +kernel
theorem d_M_further_574 : decode b_M_further 574 = .ok (.iconst 0, 1) := by decide +kernel
theorem d_M_further_575 : decode b_M_further 575 = .ok (.invokevirtual 734, 3) := by decide +kernel
theorem d_M_further_578 : decode b_M_further 578 = .ok (.putfield 737, 3) := by decide +kernel
theorem d_M_further_581 : decode b_M_further 581 = .ok (.aload_n 0, 1) := by decide +kernel
theorem d_M_further_582 : decode b_M_further 582 = .ok (.getfield 737, 3) := by decide +kernel
theorem d_M_further_585 : decode b_M_further 585 = .ok (.ifCond .ne 8, 3) := by decide +kernel
theorem d_M_further_588 : decode b_M_further 588 = .ok (.bipush 14, 2) := by decide +kernel
theorem d_M_further_590 : decode b_M_further 590 = .ok (.goto 7, 3) := by decide +kernel
theorem d_M_further_593 : decode b_M_further 593 = .ok (.aload_n 0, 1) := by decide +kernel
theorem d_M_further_594 : decode b_M_further 594 = .ok (.invokevirtual 746, 3) := by decide +kernel
theorem d_M_further_597 : decode b_M_further 597 = .ok (.ireturn, 1) := by decide +kernel
