abbrev b_M_checksum : ByteArray := prog_14_method_35_code
def y_M_checksum : MethodName := ⟨R_M, "checksum", "([BIIII)V"⟩
abbrev k_M_checksum : Cond := .code y_M_checksum b_M_checksum 7 none
theorem ki_M_checksum : k_M_checksum ∈ lw_tg := in_t 2701 (by decide +kernel)
theorem ks_M_checksum : Cond.instanceMethod y_M_checksum ∈ lw_tg := in_t 2700 (by decide +kernel)
theorem kx_M_checksum : Cond.selects R_M y_M_checksum y_M_checksum ∈ lw_tg := List.mem_filter.mpr ⟨List.mem_append_left _ (List.mem_of_getElem? (i := 166) (by decide +kernel)), rfl⟩
theorem kl_M_checksum : Cond.methodLink R_M 812 y_M_checksum ∈ lw_tg := in_t 2698 (by decide +kernel)
theorem hd_M_checksum : y_M_checksum.cls = R_M ∧ y_M_checksum.cls ≠ "java/lang/invoke/MethodHandle" ∧ y_M_checksum.cls ≠ "java/lang/invoke/VarHandle" ∧ (parseMethodDescriptor y_M_checksum.desc).map (fun d => d.parameters.length) = some 5 := by decide +kernel
theorem d_M_checksum_0 : decode b_M_checksum 0 = .ok (.aload_n 0, 1) := by decide +kernel
theorem d_M_checksum_1 : decode b_M_checksum 1 = .ok (.aload_n 1, 1) := by decide +kernel
theorem d_M_checksum_2 : decode b_M_checksum 2 = .ok (.iload_n 2, 1) := by decide +kernel
theorem d_M_checksum_3 : decode b_M_checksum 3 = .ok (.invokestatic 438, 3) := by decide +kernel
theorem d_M_checksum_6 : decode b_M_checksum 6 = .ok (.iload_n 3, 1) := by decide +kernel
theorem d_M_checksum_7 : decode b_M_checksum 7 = .ok (.sipush 153, 3) := by decide +kernel
theorem d_M_checksum_10 : decode b_M_checksum 10 = .ok (.invokevirtual 443, 3) := by decide +kernel
theorem d_M_checksum_13 : decode b_M_checksum 13 = .ok (.aload_n 0, 1) := by decide +kernel
theorem d_M_checksum_14 : decode b_M_checksum 14 = .ok (.aload_n 0, 1) := by decide +kernel
theorem d_M_checksum_15 : decode b_M_checksum 15 = .ok (.getfield 68, 3) := by decide +kernel
theorem d_M_checksum_18 : decode b_M_checksum 18 = .ok (.iload_n 2, 1) := by decide +kernel
theorem d_M_checksum_19 : decode b_M_checksum 19 = .ok (.invokestatic 438, 3) := by decide +kernel
theorem d_M_checksum_22 : decode b_M_checksum 22 = .ok (.invokevirtual 421, 3) := by decide +kernel
theorem d_M_checksum_25 : decode b_M_checksum 25 = .ok (.aload_n 0, 1) := by decide +kernel
theorem d_M_checksum_26 : decode b_M_checksum 26 = .ok (.invokevirtual 423, 3) := by decide +kernel
theorem d_M_checksum_29 : decode b_M_checksum 29 = .ok (.iload 4, 2) := by decide +kernel
theorem d_M_checksum_31 : decode b_M_checksum 31 = .ok (.istore 6, 2) := by decide +kernel
theorem d_M_checksum_33 : decode b_M_checksum 33 = .ok (.iload 6, 2) := by decide +kernel
theorem d_M_checksum_35 : decode b_M_checksum 35 = .ok (.iload 5, 2) := by decide +kernel
theorem d_M_checksum_37 : decode b_M_checksum 37 = .ok (.if_icmp .ge 20, 3) := by decide +kernel
theorem d_M_checksum_40 : decode b_M_checksum 40 = .ok (.aload_n 0, 1) := by decide +kernel
theorem d_M_checksum_41 : decode b_M_checksum 41 = .ok (.aload_n 0, 1) := by decide +kernel
theorem d_M_checksum_42 : decode b_M_checksum 42 = .ok (.getfield 10, 3) := by decide +kernel
theorem d_M_checksum_45 : decode b_M_checksum 45 = .ok (.iload 6, 2) := by decide +kernel
theorem d_M_checksum_47 : decode b_M_checksum 47 = .ok (.baload, 1) := by decide +kernel
theorem d_M_checksum_48 : decode b_M_checksum 48 = .ok (.invokevirtual 370, 3) := by decide +kernel
theorem d_M_checksum_51 : decode b_M_checksum 51 = .ok (.iinc 6 1, 3) := by decide +kernel
theorem d_M_checksum_54 : decode b_M_checksum 54 = .ok (.goto (-21), 3) := by decide +kernel
theorem d_M_checksum_57 : decode b_M_checksum 57 = .ok (.aload_n 0, 1) := by decide +kernel
theorem d_M_checksum_58 : decode b_M_checksum 58 = .ok (.invokevirtual 429, 3) := by decide +kernel
theorem d_M_checksum_61 : decode b_M_checksum 61 = .ok (.return_, 1) := by decide +kernel
abbrev b_M_daysTo : ByteArray := prog_14_method_36_code
def y_M_daysTo : MethodName := ⟨R_M, "daysTo", "(I)I"⟩
abbrev k_M_daysTo : Cond := .code y_M_daysTo b_M_daysTo 3 (some .int)
theorem ki_M_daysTo : k_M_daysTo ∈ lw_tg := in_t 2403 (by decide +kernel)
theorem ks_M_daysTo : Cond.static y_M_daysTo ∈ lw_tg := in_t 2402 (by decide +kernel)
theorem kl_M_daysTo : Cond.methodLink R_M 461 y_M_daysTo ∈ lw_tg := in_t 2401 (by decide +kernel)
theorem hd_M_daysTo : y_M_daysTo.cls = R_M ∧ y_M_daysTo.cls ≠ "java/lang/invoke/MethodHandle" ∧ y_M_daysTo.cls ≠ "java/lang/invoke/VarHandle" ∧ (parseMethodDescriptor y_M_daysTo.desc).map (fun d => d.parameters.length) = some 1 := by decide +kernel
theorem d_M_daysTo_0 : decode b_M_daysTo 0 = .ok (.iconst 0, 1) := by decide +kernel
theorem d_M_daysTo_1 : decode b_M_daysTo 1 = .ok (.istore_n 1, 1) := by decide +kernel
theorem d_M_daysTo_2 : decode b_M_daysTo 2 = .ok (.sipush 1970, 3) := by decide +kernel
theorem d_M_daysTo_5 : decode b_M_daysTo 5 = .ok (.istore_n 2, 1) := by decide +kernel
theorem d_M_daysTo_6 : decode b_M_daysTo 6 = .ok (.iload_n 2, 1) := by decide +kernel
theorem d_M_daysTo_7 : decode b_M_daysTo 7 = .ok (.iload_n 0, 1) := by decide +kernel
theorem d_M_daysTo_8 : decode b_M_daysTo 8 = .ok (.if_icmp .ge 27, 3) := by decide +kernel
theorem d_M_daysTo_11 : decode b_M_daysTo 11 = .ok (.iload_n 1, 1) := by decide +kernel
theorem d_M_daysTo_12 : decode b_M_daysTo 12 = .ok (.iload_n 2, 1) := by decide +kernel
theorem d_M_daysTo_13 : decode b_M_daysTo 13 = .ok (.iconst 4, 1) := by decide +kernel
theorem d_M_daysTo_14 : decode b_M_daysTo 14 = .ok (.irem, 1) := by decide +kernel
theorem d_M_daysTo_15 : decode b_M_daysTo 15 = .ok (.ifCond .ne 9, 3) := by decide +kernel
theorem d_M_daysTo_18 : decode b_M_daysTo 18 = .ok (.sipush 366, 3) := by decide +kernel
theorem d_M_daysTo_21 : decode b_M_daysTo 21 = .ok (.goto 6, 3) := by decide +kernel
theorem d_M_daysTo_24 : decode b_M_daysTo 24 = .ok (.sipush 365, 3) := by decide +kernel
theorem d_M_daysTo_27 : decode b_M_daysTo 27 = .ok (.iadd, 1) := by decide +kernel
theorem d_M_daysTo_28 : decode b_M_daysTo 28 = .ok (.istore_n 1, 1) := by decide +kernel
theorem d_M_daysTo_29 : decode b_M_daysTo 29 = .ok (.iinc 2 1, 3) := by decide +kernel
theorem d_M_daysTo_32 : decode b_M_daysTo 32 = .ok (.goto (-26), 3) := by decide +kernel
theorem d_M_daysTo_35 : decode b_M_daysTo 35 = .ok (.iload_n 1, 1) := by decide +kernel
theorem d_M_daysTo_36 : decode b_M_daysTo 36 = .ok (.ireturn, 1) := by decide +kernel
abbrev b_M_daysOf : ByteArray := prog_14_method_37_code
def y_M_daysOf : MethodName := ⟨R_M, "daysOf", "(II)I"⟩
abbrev k_M_daysOf : Cond := .code y_M_daysOf b_M_daysOf 2 (some .int)
theorem ki_M_daysOf : k_M_daysOf ∈ lw_tg := in_t 2399 (by decide +kernel)
theorem ks_M_daysOf : Cond.static y_M_daysOf ∈ lw_tg := in_t 2398 (by decide +kernel)
theorem kl_M_daysOf : Cond.methodLink R_M 456 y_M_daysOf ∈ lw_tg := in_t 2397 (by decide +kernel)
theorem hd_M_daysOf : y_M_daysOf.cls = R_M ∧ y_M_daysOf.cls ≠ "java/lang/invoke/MethodHandle" ∧ y_M_daysOf.cls ≠ "java/lang/invoke/VarHandle" ∧ (parseMethodDescriptor y_M_daysOf.desc).map (fun d => d.parameters.length) = some 2 := by decide +kernel
theorem d_M_daysOf_0 : decode b_M_daysOf 0 = .ok (.iload_n 1, 1) := by decide +kernel
theorem d_M_daysOf_1 : decode b_M_daysOf 1 = .ok (.iconst 2, 1) := by decide +kernel
theorem d_M_daysOf_2 : decode b_M_daysOf 2 = .ok (.if_icmp .ne 19, 3) := by decide +kernel
theorem d_M_daysOf_5 : decode b_M_daysOf 5 = .ok (.iload_n 0, 1) := by decide +kernel
theorem d_M_daysOf_6 : decode b_M_daysOf 6 = .ok (.iconst 4, 1) := by decide +kernel
theorem d_M_daysOf_7 : decode b_M_daysOf 7 = .ok (.irem, 1) := by decide +kernel
theorem d_M_daysOf_8 : decode b_M_daysOf 8 = .ok (.ifCond .ne 8, 3) := by decide +kernel
theorem d_M_daysOf_11 : decode b_M_daysOf 11 = .ok (.bipush 29, 2) := by decide +kernel
theorem d_M_daysOf_13 : decode b_M_daysOf 13 = .ok (.goto 38, 3) := by decide +kernel
theorem d_M_daysOf_16 : decode b_M_daysOf 16 = .ok (.bipush 28, 2) := by decide +kernel
theorem d_M_daysOf_18 : decode b_M_daysOf 18 = .ok (.goto 33, 3) := by decide +kernel
theorem d_M_daysOf_21 : decode b_M_daysOf 21 = .ok (.iload_n 1, 1) := by decide +kernel
theorem d_M_daysOf_22 : decode b_M_daysOf 22 = .ok (.iconst 4, 1) := by decide +kernel
theorem d_M_daysOf_23 : decode b_M_daysOf 23 = .ok (.if_icmp .eq 21, 3) := by decide +kernel
theorem d_M_daysOf_26 : decode b_M_daysOf 26 = .ok (.iload_n 1, 1) := by decide +kernel
theorem d_M_daysOf_27 : decode b_M_daysOf 27 = .ok (.bipush 6, 2) := by decide +kernel
theorem d_M_daysOf_29 : decode b_M_daysOf 29 = .ok (.if_icmp .eq 15, 3) := by decide +kernel
theorem d_M_daysOf_32 : decode b_M_daysOf 32 = .ok (.iload_n 1, 1) := by decide +kernel
theorem d_M_daysOf_33 : decode b_M_daysOf 33 = .ok (.bipush 9, 2) := by decide +kernel
theorem d_M_daysOf_35 : decode b_M_daysOf 35 = .ok (.if_icmp .eq 9, 3) := by decide +kernel
theorem d_M_daysOf_38 : decode b_M_daysOf 38 = .ok (.iload_n 1, 1) := by decide +kernel
theorem d_M_daysOf_39 : decode b_M_daysOf 39 = .ok (.bipush 11, 2) := by decide +kernel
theorem d_M_daysOf_41 : decode b_M_daysOf 41 = .ok (.if_icmp .ne 8, 3) := by decide +kernel
theorem d_M_daysOf_44 : decode b_M_daysOf 44 = .ok (.bipush 30, 2) := by decide +kernel
theorem d_M_daysOf_46 : decode b_M_daysOf 46 = .ok (.goto 5, 3) := by decide +kernel
theorem d_M_daysOf_49 : decode b_M_daysOf 49 = .ok (.bipush 31, 2) := by decide +kernel
theorem d_M_daysOf_51 : decode b_M_daysOf 51 = .ok (.ireturn, 1) := by decide +kernel
abbrev b_M_two : ByteArray := prog_14_method_38_code
def y_M_two : MethodName := ⟨R_M, "two", "(I)I"⟩
abbrev k_M_two : Cond := .code y_M_two b_M_two 4 (some .int)
theorem ki_M_two : k_M_two ∈ lw_tg := in_t 2396 (by decide +kernel)
theorem ks_M_two : Cond.instanceMethod y_M_two ∈ lw_tg := in_t 2395 (by decide +kernel)
theorem kx_M_two : Cond.selects R_M y_M_two y_M_two ∈ lw_tg := List.mem_filter.mpr ⟨List.mem_append_left _ (List.mem_of_getElem? (i := 101) (by decide +kernel)), rfl⟩
theorem kl_M_two : Cond.methodLink R_M 453 y_M_two ∈ lw_tg := in_t 2393 (by decide +kernel)
theorem hd_M_two : y_M_two.cls = R_M ∧ y_M_two.cls ≠ "java/lang/invoke/MethodHandle" ∧ y_M_two.cls ≠ "java/lang/invoke/VarHandle" ∧ (parseMethodDescriptor y_M_two.desc).map (fun d => d.parameters.length) = some 1 := by decide +kernel
theorem d_M_two_0 : decode b_M_two 0 = .ok (.aload_n 0, 1) := by decide +kernel
theorem d_M_two_1 : decode b_M_two 1 = .ok (.getfield 10, 3) := by decide +kernel
theorem d_M_two_4 : decode b_M_two 4 = .ok (.iload_n 1, 1) := by decide +kernel
theorem d_M_two_5 : decode b_M_two 5 = .ok (.baload, 1) := by decide +kernel
theorem d_M_two_6 : decode b_M_two 6 = .ok (.bipush 48, 2) := by decide +kernel
theorem d_M_two_8 : decode b_M_two 8 = .ok (.isub, 1) := by decide +kernel
theorem d_M_two_9 : decode b_M_two 9 = .ok (.istore_n 2, 1) := by decide +kernel
theorem d_M_two_10 : decode b_M_two 10 = .ok (.aload_n 0, 1) := by decide +kernel
theorem d_M_two_11 : decode b_M_two 11 = .ok (.getfield 10, 3) := by decide +kernel
theorem d_M_two_14 : decode b_M_two 14 = .ok (.iload_n 1, 1) := by decide +kernel
theorem d_M_two_15 : decode b_M_two 15 = .ok (.iconst 1, 1) := by decide +kernel
theorem d_M_two_16 : decode b_M_two 16 = .ok (.iadd, 1) := by decide +kernel
theorem d_M_two_17 : decode b_M_two 17 = .ok (.baload, 1) := by decide +kernel
theorem d_M_two_18 : decode b_M_two 18 = .ok (.bipush 48, 2) := by decide +kernel
theorem d_M_two_20 : decode b_M_two 20 = .ok (.isub, 1) := by decide +kernel
theorem d_M_two_21 : decode b_M_two 21 = .ok (.istore_n 3, 1) := by decide +kernel
theorem d_M_two_22 : decode b_M_two 22 = .ok (.iload_n 2, 1) := by decide +kernel
theorem d_M_two_23 : decode b_M_two 23 = .ok (.ifCond .lt 19, 3) := by decide +kernel
theorem d_M_two_26 : decode b_M_two 26 = .ok (.iload_n 2, 1) := by decide +kernel
theorem d_M_two_27 : decode b_M_two 27 = .ok (.bipush 9, 2) := by decide +kernel
theorem d_M_two_29 : decode b_M_two 29 = .ok (.if_icmp .gt 13, 3) := by decide +kernel
theorem d_M_two_32 : decode b_M_two 32 = .ok (.iload_n 3, 1) := by decide +kernel
theorem d_M_two_33 : decode b_M_two 33 = .ok (.ifCond .lt 9, 3) := by decide +kernel
theorem d_M_two_36 : decode b_M_two 36 = .ok (.iload_n 3, 1) := by decide +kernel
theorem d_M_two_37 : decode b_M_two 37 = .ok (.bipush 9, 2) := by decide +kernel
theorem d_M_two_39 : decode b_M_two 39 = .ok (.if_icmp .le 9, 3) := by decide +kernel
theorem d_M_two_42 : decode b_M_two 42 = .ok (.sipush (-10000), 3) := by decide +kernel
theorem d_M_two_45 : decode b_M_two 45 = .ok (.goto 9, 3) := by decide +kernel
theorem d_M_two_48 : decode b_M_two 48 = .ok (.bipush 10, 2) := by decide +kernel
theorem d_M_two_50 : decode b_M_two 50 = .ok (.iload_n 2, 1) := by decide +kernel
theorem d_M_two_51 : decode b_M_two 51 = .ok (.imul, 1) := by decide +kernel
theorem d_M_two_52 : decode b_M_two 52 = .ok (.iload_n 3, 1) := by decide +kernel
theorem d_M_two_53 : decode b_M_two 53 = .ok (.iadd, 1) := by decide +kernel
theorem d_M_two_54 : decode b_M_two 54 = .ok (.ireturn, 1) := by decide +kernel
abbrev b_M_timeAt : ByteArray := prog_14_method_39_code
def y_M_timeAt : MethodName := ⟨R_M, "timeAt", "(I)J"⟩
abbrev k_M_timeAt : Cond := .code y_M_timeAt b_M_timeAt 10 (some .long)
theorem ki_M_timeAt : k_M_timeAt ∈ lw_tg := in_t 2392 (by decide +kernel)
theorem ks_M_timeAt : Cond.instanceMethod y_M_timeAt ∈ lw_tg := in_t 2391 (by decide +kernel)
theorem kx_M_timeAt : Cond.selects R_M y_M_timeAt y_M_timeAt ∈ lw_tg := List.mem_filter.mpr ⟨List.mem_append_left _ (List.mem_of_getElem? (i := 100) (by decide +kernel)), rfl⟩
theorem kl_M_timeAt : Cond.methodLink R_M 507 y_M_timeAt ∈ lw_tg := in_t 2389 (by decide +kernel)
theorem hd_M_timeAt : y_M_timeAt.cls = R_M ∧ y_M_timeAt.cls ≠ "java/lang/invoke/MethodHandle" ∧ y_M_timeAt.cls ≠ "java/lang/invoke/VarHandle" ∧ (parseMethodDescriptor y_M_timeAt.desc).map (fun d => d.parameters.length) = some 1 := by decide +kernel
theorem d_M_timeAt_0 : decode b_M_timeAt 0 = .ok (.bipush 100, 2) := by decide +kernel
theorem d_M_timeAt_2 : decode b_M_timeAt 2 = .ok (.aload_n 0, 1) := by decide +kernel
theorem d_M_timeAt_3 : decode b_M_timeAt 3 = .ok (.iload_n 1, 1) := by decide +kernel
theorem d_M_timeAt_4 : decode b_M_timeAt 4 = .ok (.invokevirtual 453, 3) := by decide +kernel
theorem d_M_timeAt_7 : decode b_M_timeAt 7 = .ok (.imul, 1) := by decide +kernel
theorem d_M_timeAt_8 : decode b_M_timeAt 8 = .ok (.aload_n 0, 1) := by decide +kernel
theorem d_M_timeAt_9 : decode b_M_timeAt 9 = .ok (.iload_n 1, 1) := by decide +kernel
theorem d_M_timeAt_10 : decode b_M_timeAt 10 = .ok (.iconst 2, 1) := by decide +kernel
theorem d_M_timeAt_11 : decode b_M_timeAt 11 = .ok (.iadd, 1) := by decide +kernel
theorem d_M_timeAt_12 : decode b_M_timeAt 12 = .ok (.invokevirtual 453, 3) := by decide +kernel
theorem d_M_timeAt_15 : decode b_M_timeAt 15 = .ok (.iadd, 1) := by decide +kernel
theorem d_M_timeAt_16 : decode b_M_timeAt 16 = .ok (.istore_n 2, 1) := by decide +kernel
theorem d_M_timeAt_17 : decode b_M_timeAt 17 = .ok (.aload_n 0, 1) := by decide +kernel
theorem d_M_timeAt_18 : decode b_M_timeAt 18 = .ok (.iload_n 1, 1) := by decide +kernel
theorem d_M_timeAt_19 : decode b_M_timeAt 19 = .ok (.iconst 4, 1) := by decide +kernel
theorem d_M_timeAt_20 : decode b_M_timeAt 20 = .ok (.iadd, 1) := by decide +kernel
theorem d_M_timeAt_21 : decode b_M_timeAt 21 = .ok (.invokevirtual 453, 3) := by decide +kernel
theorem d_M_timeAt_24 : decode b_M_timeAt 24 = .ok (.istore_n 3, 1) := by decide +kernel
theorem d_M_timeAt_25 : decode b_M_timeAt 25 = .ok (.aload_n 0, 1) := by decide +kernel
theorem d_M_timeAt_26 : decode b_M_timeAt 26 = .ok (.iload_n 1, 1) := by decide +kernel
theorem d_M_timeAt_27 : decode b_M_timeAt 27 = .ok (.bipush 6, 2) := by decide +kernel
theorem d_M_timeAt_29 : decode b_M_timeAt 29 = .ok (.iadd, 1) := by decide +kernel
theorem d_M_timeAt_30 : decode b_M_timeAt 30 = .ok (.invokevirtual 453, 3) := by decide +kernel
theorem d_M_timeAt_33 : decode b_M_timeAt 33 = .ok (.istore 4, 2) := by decide +kernel
theorem d_M_timeAt_35 : decode b_M_timeAt 35 = .ok (.aload_n 0, 1) := by decide +kernel
theorem d_M_timeAt_36 : decode b_M_timeAt 36 = .ok (.iload_n 1, 1) := by decide +kernel
theorem d_M_timeAt_37 : decode b_M_timeAt 37 = .ok (.bipush 8, 2) := by decide +kernel
theorem d_M_timeAt_39 : decode b_M_timeAt 39 = .ok (.iadd, 1) := by decide +kernel
theorem d_M_timeAt_40 : decode b_M_timeAt 40 = .ok (.invokevirtual 453, 3) := by decide +kernel
theorem d_M_timeAt_43 : decode b_M_timeAt 43 = .ok (.istore 5, 2) := by decide +kernel
theorem d_M_timeAt_45 : decode b_M_timeAt 45 = .ok (.aload_n 0, 1) := by decide +kernel
theorem d_M_timeAt_46 : decode b_M_timeAt 46 = .ok (.iload_n 1, 1) := by decide +kernel
theorem d_M_timeAt_47 : decode b_M_timeAt 47 = .ok (.bipush 10, 2) := by decide +kernel
theorem d_M_timeAt_49 : decode b_M_timeAt 49 = .ok (.iadd, 1) := by decide +kernel
theorem d_M_timeAt_50 : decode b_M_timeAt 50 = .ok (.invokevirtual 453, 3) := by decide +kernel
theorem d_M_timeAt_53 : decode b_M_timeAt 53 = .ok (.istore 6, 2) := by decide +kernel
theorem d_M_timeAt_55 : decode b_M_timeAt 55 = .ok (.aload_n 0, 1) := by decide +kernel
theorem d_M_timeAt_56 : decode b_M_timeAt 56 = .ok (.iload_n 1, 1) := by decide +kernel
theorem d_M_timeAt_57 : decode b_M_timeAt 57 = .ok (.bipush 12, 2) := by decide +kernel
theorem d_M_timeAt_59 : decode b_M_timeAt 59 = .ok (.iadd, 1) := by decide +kernel
theorem d_M_timeAt_60 : decode b_M_timeAt 60 = .ok (.invokevirtual 453, 3) := by decide +kernel
theorem d_M_timeAt_63 : decode b_M_timeAt 63 = .ok (.istore 7, 2) := by decide +kernel
theorem d_M_timeAt_65 : decode b_M_timeAt 65 = .ok (.aload_n 0, 1) := by decide +kernel
theorem d_M_timeAt_66 : decode b_M_timeAt 66 = .ok (.getfield 10, 3) := by decide +kernel
theorem d_M_timeAt_69 : decode b_M_timeAt 69 = .ok (.iload_n 1, 1) := by decide +kernel
theorem d_M_timeAt_70 : decode b_M_timeAt 70 = .ok (.bipush 14, 2) := by decide +kernel
theorem d_M_timeAt_72 : decode b_M_timeAt 72 = .ok (.iadd, 1) := by decide +kernel
theorem d_M_timeAt_73 : decode b_M_timeAt 73 = .ok (.baload, 1) := by decide +kernel
theorem d_M_timeAt_74 : decode b_M_timeAt 74 = .ok (.bipush 90, 2) := by decide +kernel
theorem d_M_timeAt_76 : decode b_M_timeAt 76 = .ok (.if_icmp .ne 44, 3) := by decide +kernel
theorem d_M_timeAt_79 : decode b_M_timeAt 79 = .ok (.iload_n 2, 1) := by decide +kernel
theorem d_M_timeAt_80 : decode b_M_timeAt 80 = .ok (.sipush 1970, 3) := by decide +kernel
theorem d_M_timeAt_83 : decode b_M_timeAt 83 = .ok (.if_icmp .lt 37, 3) := by decide +kernel
theorem d_M_timeAt_86 : decode b_M_timeAt 86 = .ok (.iload_n 2, 1) := by decide +kernel
theorem d_M_timeAt_87 : decode b_M_timeAt 87 = .ok (.sipush 2037, 3) := by decide +kernel
theorem d_M_timeAt_90 : decode b_M_timeAt 90 = .ok (.if_icmp .gt 30, 3) := by decide +kernel
theorem d_M_timeAt_93 : decode b_M_timeAt 93 = .ok (.iload_n 3, 1) := by decide +kernel
theorem d_M_timeAt_94 : decode b_M_timeAt 94 = .ok (.iconst 1, 1) := by decide +kernel
theorem d_M_timeAt_95 : decode b_M_timeAt 95 = .ok (.if_icmp .lt 25, 3) := by decide +kernel
theorem d_M_timeAt_98 : decode b_M_timeAt 98 = .ok (.iload_n 3, 1) := by decide +kernel
theorem d_M_timeAt_99 : decode b_M_timeAt 99 = .ok (.bipush 12, 2) := by decide +kernel
theorem d_M_timeAt_101 : decode b_M_timeAt 101 = .ok (.if_icmp .gt 19, 3) := by decide +kernel
theorem d_M_timeAt_104 : decode b_M_timeAt 104 = .ok (.iload 4, 2) := by decide +kernel
theorem d_M_timeAt_106 : decode b_M_timeAt 106 = .ok (.iconst 1, 1) := by decide +kernel
theorem d_M_timeAt_107 : decode b_M_timeAt 107 = .ok (.if_icmp .lt 13, 3) := by decide +kernel
theorem d_M_timeAt_110 : decode b_M_timeAt 110 = .ok (.iload 4, 2) := by decide +kernel
theorem d_M_timeAt_112 : decode b_M_timeAt 112 = .ok (.iload_n 2, 1) := by decide +kernel
theorem d_M_timeAt_113 : decode b_M_timeAt 113 = .ok (.iload_n 3, 1) := by decide +kernel
theorem d_M_timeAt_114 : decode b_M_timeAt 114 = .ok (.invokestatic 456, 3) := by decide +kernel
theorem d_M_timeAt_117 : decode b_M_timeAt 117 = .ok (.if_icmp .le 7, 3) := by decide +kernel
theorem d_M_timeAt_120 : decode b_M_timeAt 120 = .ok (.ldc2_w 459, 3) := by decide +kernel
theorem d_M_timeAt_123 : decode b_M_timeAt 123 = .ok (.lreturn, 1) := by decide +kernel
theorem d_M_timeAt_124 : decode b_M_timeAt 124 = .ok (.iload 5, 2) := by decide +kernel
theorem d_M_timeAt_126 : decode b_M_timeAt 126 = .ok (.ifCond .lt 34, 3) := by decide +kernel
theorem d_M_timeAt_129 : decode b_M_timeAt 129 = .ok (.iload 5, 2) := by decide +kernel
theorem d_M_timeAt_131 : decode b_M_timeAt 131 = .ok (.bipush 23, 2) := by decide +kernel
theorem d_M_timeAt_133 : decode b_M_timeAt 133 = .ok (.if_icmp .gt 27, 3) := by decide +kernel
theorem d_M_timeAt_136 : decode b_M_timeAt 136 = .ok (.iload 6, 2) := by decide +kernel
theorem d_M_timeAt_138 : decode b_M_timeAt 138 = .ok (.ifCond .lt 22, 3) := by decide +kernel
theorem d_M_timeAt_141 : decode b_M_timeAt 141 = .ok (.iload 6, 2) := by decide +kernel
theorem d_M_timeAt_143 : decode b_M_timeAt 143 = .ok (.bipush 59, 2) := by decide +kernel
theorem d_M_timeAt_145 : decode b_M_timeAt 145 = .ok (.if_icmp .gt 15, 3) := by decide +kernel
theorem d_M_timeAt_148 : decode b_M_timeAt 148 = .ok (.iload 7, 2) := by decide +kernel
theorem d_M_timeAt_150 : decode b_M_timeAt 150 = .ok (.ifCond .lt 10, 3) := by decide +kernel
theorem d_M_timeAt_153 : decode b_M_timeAt 153 = .ok (.iload 7, 2) := by decide +kernel
theorem d_M_timeAt_155 : decode b_M_timeAt 155 = .ok (.bipush 59, 2) := by decide +kernel
theorem d_M_timeAt_157 : decode b_M_timeAt 157 = .ok (.if_icmp .le 7, 3) := by decide +kernel
theorem d_M_timeAt_160 : decode b_M_timeAt 160 = .ok (.ldc2_w 459, 3) := by decide +kernel
theorem d_M_timeAt_163 : decode b_M_timeAt 163 = .ok (.lreturn, 1) := by decide +kernel
theorem d_M_timeAt_164 : decode b_M_timeAt 164 = .ok (.iload_n 2, 1) := by decide +kernel
theorem d_M_timeAt_165 : decode b_M_timeAt 165 = .ok (.invokestatic 461, 3) := by decide +kernel
theorem d_M_timeAt_168 : decode b_M_timeAt 168 = .ok (.iload 4, 2) := by decide +kernel
theorem d_M_timeAt_170 : decode b_M_timeAt 170 = .ok (.iadd, 1) := by decide +kernel
theorem d_M_timeAt_171 : decode b_M_timeAt 171 = .ok (.iconst 1, 1) := by decide +kernel
theorem d_M_timeAt_172 : decode b_M_timeAt 172 = .ok (.isub, 1) := by decide +kernel
theorem d_M_timeAt_173 : decode b_M_timeAt 173 = .ok (.istore 8, 2) := by decide +kernel
theorem d_M_timeAt_175 : decode b_M_timeAt 175 = .ok (.iconst 1, 1) := by decide +kernel
theorem d_M_timeAt_176 : decode b_M_timeAt 176 = .ok (.istore 9, 2) := by decide +kernel
theorem d_M_timeAt_178 : decode b_M_timeAt 178 = .ok (.iload 9, 2) := by decide +kernel
theorem d_M_timeAt_180 : decode b_M_timeAt 180 = .ok (.iload_n 3, 1) := by decide +kernel
theorem d_M_timeAt_181 : decode b_M_timeAt 181 = .ok (.if_icmp .ge 20, 3) := by decide +kernel
theorem d_M_timeAt_184 : decode b_M_timeAt 184 = .ok (.iload 8, 2) := by decide +kernel
theorem d_M_timeAt_186 : decode b_M_timeAt 186 = .ok (.iload_n 2, 1) := by decide +kernel
theorem d_M_timeAt_187 : decode b_M_timeAt 187 = .ok (.iload 9, 2) := by decide +kernel
theorem d_M_timeAt_189 : decode b_M_timeAt 189 = .ok (.invokestatic 456, 3) := by decide +kernel
theorem d_M_timeAt_192 : decode b_M_timeAt 192 = .ok (.iadd, 1) := by decide +kernel
theorem d_M_timeAt_193 : decode b_M_timeAt 193 = .ok (.istore 8, 2) := by decide +kernel
theorem d_M_timeAt_195 : decode b_M_timeAt 195 = .ok (.iinc 9 1, 3) := by decide +kernel
theorem d_M_timeAt_198 : decode b_M_timeAt 198 = .ok (.goto (-20), 3) := by decide +kernel
theorem d_M_timeAt_201 : decode b_M_timeAt 201 = .ok (.ldc2_w 464, 3) := by decide +kernel
theorem d_M_timeAt_204 : decode b_M_timeAt 204 = .ok (.iload 8, 2) := by decide +kernel
theorem d_M_timeAt_206 : decode b_M_timeAt 206 = .ok (.i2l, 1) := by decide +kernel
theorem d_M_timeAt_207 : decode b_M_timeAt 207 = .ok (.lmul, 1) := by decide +kernel
theorem d_M_timeAt_208 : decode b_M_timeAt 208 = .ok (.ldc2_w 466, 3) := by decide +kernel
theorem d_M_timeAt_211 : decode b_M_timeAt 211 = .ok (.iload 5, 2) := by decide +kernel
theorem d_M_timeAt_213 : decode b_M_timeAt 213 = .ok (.i2l, 1) := by decide +kernel
theorem d_M_timeAt_214 : decode b_M_timeAt 214 = .ok (.lmul, 1) := by decide +kernel
theorem d_M_timeAt_215 : decode b_M_timeAt 215 = .ok (.ladd, 1) := by decide +kernel
theorem d_M_timeAt_216 : decode b_M_timeAt 216 = .ok (.ldc2_w 468, 3) := by decide +kernel
theorem d_M_timeAt_219 : decode b_M_timeAt 219 = .ok (.iload 6, 2) := by decide +kernel
theorem d_M_timeAt_221 : decode b_M_timeAt 221 = .ok (.i2l, 1) := by decide +kernel
theorem d_M_timeAt_222 : decode b_M_timeAt 222 = .ok (.lmul, 1) := by decide +kernel
theorem d_M_timeAt_223 : decode b_M_timeAt 223 = .ok (.ladd, 1) := by decide +kernel
theorem d_M_timeAt_224 : decode b_M_timeAt 224 = .ok (.iload 7, 2) := by decide +kernel
theorem d_M_timeAt_226 : decode b_M_timeAt 226 = .ok (.i2l, 1) := by decide +kernel
theorem d_M_timeAt_227 : decode b_M_timeAt 227 = .ok (.ladd, 1) := by decide +kernel
theorem d_M_timeAt_228 : decode b_M_timeAt 228 = .ok (.lreturn, 1) := by decide +kernel
abbrev b_M_element : ByteArray := prog_14_method_40_code
def y_M_element : MethodName := ⟨R_M, "element", "(III)Z"⟩
abbrev k_M_element : Cond := .code y_M_element b_M_element 8 (some .boolean)
theorem ki_M_element : k_M_element ∈ lw_tg := in_t 2372 (by decide +kernel)
theorem ks_M_element : Cond.instanceMethod y_M_element ∈ lw_tg := in_t 2371 (by decide +kernel)
theorem kx_M_element : Cond.selects R_M y_M_element y_M_element ∈ lw_tg := List.mem_filter.mpr ⟨List.mem_append_left _ (List.mem_of_getElem? (i := 96) (by decide +kernel)), rfl⟩
theorem kl_M_element : Cond.methodLink R_M 476 y_M_element ∈ lw_tg := in_t 2369 (by decide +kernel)
theorem hd_M_element : y_M_element.cls = R_M ∧ y_M_element.cls ≠ "java/lang/invoke/MethodHandle" ∧ y_M_element.cls ≠ "java/lang/invoke/VarHandle" ∧ (parseMethodDescriptor y_M_element.desc).map (fun d => d.parameters.length) = some 3 := by decide +kernel
theorem d_M_element_0 : decode b_M_element 0 = .ok (.iload_n 1, 1) := by decide +kernel
theorem d_M_element_1 : decode b_M_element 1 = .ok (.iconst 2, 1) := by decide +kernel
theorem d_M_element_2 : decode b_M_element 2 = .ok (.iadd, 1) := by decide +kernel
theorem d_M_element_3 : decode b_M_element 3 = .ok (.iload_n 2, 1) := by decide +kernel
theorem d_M_element_4 : decode b_M_element 4 = .ok (.if_icmp .gt 17, 3) := by decide +kernel
theorem d_M_element_7 : decode b_M_element 7 = .ok (.aload_n 0, 1) := by decide +kernel
theorem d_M_element_8 : decode b_M_element 8 = .ok (.getfield 10, 3) := by decide +kernel
theorem d_M_element_11 : decode b_M_element 11 = .ok (.iload_n 1, 1) := by decide +kernel
theorem d_M_element_12 : decode b_M_element 12 = .ok (.baload, 1) := by decide +kernel
theorem d_M_element_13 : decode b_M_element 13 = .ok (.sipush 255, 3) := by decide +kernel
theorem d_M_element_16 : decode b_M_element 16 = .ok (.iand, 1) := by decide +kernel
theorem d_M_element_17 : decode b_M_element 17 = .ok (.iload_n 3, 1) := by decide +kernel
theorem d_M_element_18 : decode b_M_element 18 = .ok (.if_icmp .eq 5, 3) := by decide +kernel
theorem d_M_element_21 : decode b_M_element 21 = .ok (.iconst 0, 1) := by decide +kernel
theorem d_M_element_22 : decode b_M_element 22 = .ok (.ireturn, 1) := by decide +kernel
theorem d_M_element_23 : decode b_M_element 23 = .ok (.aload_n 0, 1) := by decide +kernel
theorem d_M_element_24 : decode b_M_element 24 = .ok (.getfield 10, 3) := by decide +kernel
theorem d_M_element_27 : decode b_M_element 27 = .ok (.iload_n 1, 1) := by decide +kernel
theorem d_M_element_28 : decode b_M_element 28 = .ok (.iconst 1, 1) := by decide +kernel
theorem d_M_element_29 : decode b_M_element 29 = .ok (.iadd, 1) := by decide +kernel
theorem d_M_element_30 : decode b_M_element 30 = .ok (.baload, 1) := by decide +kernel
theorem d_M_element_31 : decode b_M_element 31 = .ok (.sipush 255, 3) := by decide +kernel
theorem d_M_element_34 : decode b_M_element 34 = .ok (.iand, 1) := by decide +kernel
theorem d_M_element_35 : decode b_M_element 35 = .ok (.istore 4, 2) := by decide +kernel
theorem d_M_element_37 : decode b_M_element 37 = .ok (.iload_n 1, 1) := by decide +kernel
theorem d_M_element_38 : decode b_M_element 38 = .ok (.iconst 2, 1) := by decide +kernel
theorem d_M_element_39 : decode b_M_element 39 = .ok (.iadd, 1) := by decide +kernel
theorem d_M_element_40 : decode b_M_element 40 = .ok (.istore 5, 2) := by decide +kernel
theorem d_M_element_42 : decode b_M_element 42 = .ok (.iload 4, 2) := by decide +kernel
theorem d_M_element_44 : decode b_M_element 44 = .ok (.bipush 127, 2) := by decide +kernel
theorem d_M_element_46 : decode b_M_element 46 = .ok (.if_icmp .le 102, 3) := by decide +kernel
theorem d_M_element_49 : decode b_M_element 49 = .ok (.iload 4, 2) := by decide +kernel
theorem d_M_element_51 : decode b_M_element 51 = .ok (.sipush 128, 3) := by decide +kernel
theorem d_M_element_54 : decode b_M_element 54 = .ok (.isub, 1) := by decide +kernel
theorem d_M_element_55 : decode b_M_element 55 = .ok (.istore 6, 2) := by decide +kernel
theorem d_M_element_57 : decode b_M_element 57 = .ok (.iload 6, 2) := by decide +kernel
theorem d_M_element_59 : decode b_M_element 59 = .ok (.iconst 1, 1) := by decide +kernel
theorem d_M_element_60 : decode b_M_element 60 = .ok (.if_icmp .lt 18, 3) := by decide +kernel
theorem d_M_element_63 : decode b_M_element 63 = .ok (.iload 6, 2) := by decide +kernel
theorem d_M_element_65 : decode b_M_element 65 = .ok (.iconst 3, 1) := by decide +kernel
theorem d_M_element_66 : decode b_M_element 66 = .ok (.if_icmp .gt 12, 3) := by decide +kernel
theorem d_M_element_69 : decode b_M_element 69 = .ok (.iload 5, 2) := by decide +kernel
theorem d_M_element_71 : decode b_M_element 71 = .ok (.iload 6, 2) := by decide +kernel
theorem d_M_element_73 : decode b_M_element 73 = .ok (.iadd, 1) := by decide +kernel
theorem d_M_element_74 : decode b_M_element 74 = .ok (.iload_n 2, 1) := by decide +kernel
theorem d_M_element_75 : decode b_M_element 75 = .ok (.if_icmp .le 5, 3) := by decide +kernel
theorem d_M_element_78 : decode b_M_element 78 = .ok (.iconst 0, 1) := by decide +kernel
theorem d_M_element_79 : decode b_M_element 79 = .ok (.ireturn, 1) := by decide +kernel
theorem d_M_element_80 : decode b_M_element 80 = .ok (.iconst 0, 1) := by decide +kernel
theorem d_M_element_81 : decode b_M_element 81 = .ok (.istore 4, 2) := by decide +kernel
theorem d_M_element_83 : decode b_M_element 83 = .ok (.iconst 0, 1) := by decide +kernel
theorem d_M_element_84 : decode b_M_element 84 = .ok (.istore 7, 2) := by decide +kernel
theorem d_M_element_86 : decode b_M_element 86 = .ok (.iload 7, 2) := by decide +kernel
theorem d_M_element_88 : decode b_M_element 88 = .ok (.iload 6, 2) := by decide +kernel
theorem d_M_element_90 : decode b_M_element 90 = .ok (.if_icmp .ge 31, 3) := by decide +kernel
theorem d_M_element_93 : decode b_M_element 93 = .ok (.iload 4, 2) := by decide +kernel
theorem d_M_element_95 : decode b_M_element 95 = .ok (.bipush 8, 2) := by decide +kernel
theorem d_M_element_97 : decode b_M_element 97 = .ok (.ishl, 1) := by decide +kernel
theorem d_M_element_98 : decode b_M_element 98 = .ok (.aload_n 0, 1) := by decide +kernel
theorem d_M_element_99 : decode b_M_element 99 = .ok (.getfield 10, 3) := by decide +kernel
theorem d_M_element_102 : decode b_M_element 102 = .ok (.iload 5, 2) := by decide +kernel
theorem d_M_element_104 : decode b_M_element 104 = .ok (.iload 7, 2) := by decide +kernel
theorem d_M_element_106 : decode b_M_element 106 = .ok (.iadd, 1) := by decide +kernel
theorem d_M_element_107 : decode b_M_element 107 = .ok (.baload, 1) := by decide +kernel
theorem d_M_element_108 : decode b_M_element 108 = .ok (.sipush 255, 3) := by decide +kernel
theorem d_M_element_111 : decode b_M_element 111 = .ok (.iand, 1) := by decide +kernel
theorem d_M_element_112 : decode b_M_element 112 = .ok (.ior, 1) := by decide +kernel
theorem d_M_element_113 : decode b_M_element 113 = .ok (.istore 4, 2) := by decide +kernel
theorem d_M_element_115 : decode b_M_element 115 = .ok (.iinc 7 1, 3) := by decide +kernel
theorem d_M_element_118 : decode b_M_element 118 = .ok (.goto (-32), 3) := by decide +kernel
theorem d_M_element_121 : decode b_M_element 121 = .ok (.aload_n 0, 1) := by decide +kernel
theorem d_M_element_122 : decode b_M_element 122 = .ok (.getfield 10, 3) := by decide +kernel
theorem d_M_element_125 : decode b_M_element 125 = .ok (.iload 5, 2) := by decide +kernel
theorem d_M_element_127 : decode b_M_element 127 = .ok (.baload, 1) := by decide +kernel
theorem d_M_element_128 : decode b_M_element 128 = .ok (.ifCond .eq 11, 3) := by decide +kernel
theorem d_M_element_131 : decode b_M_element 131 = .ok (.iload 4, 2) := by decide +kernel
theorem d_M_element_133 : decode b_M_element 133 = .ok (.sipush 128, 3) := by decide +kernel
theorem d_M_element_136 : decode b_M_element 136 = .ok (.if_icmp .ge 5, 3) := by decide +kernel
theorem d_M_element_139 : decode b_M_element 139 = .ok (.iconst 0, 1) := by decide +kernel
theorem d_M_element_140 : decode b_M_element 140 = .ok (.ireturn, 1) := by decide +kernel
theorem d_M_element_141 : decode b_M_element 141 = .ok (.iload 5, 2) := by decide +kernel
theorem d_M_element_143 : decode b_M_element 143 = .ok (.iload 6, 2) := by decide +kernel
theorem d_M_element_145 : decode b_M_element 145 = .ok (.iadd, 1) := by decide +kernel
theorem d_M_element_146 : decode b_M_element 146 = .ok (.istore 5, 2) := by decide +kernel
theorem d_M_element_148 : decode b_M_element 148 = .ok (.iload 4, 2) := by decide +kernel
theorem d_M_element_150 : decode b_M_element 150 = .ok (.iload_n 2, 1) := by decide +kernel
theorem d_M_element_151 : decode b_M_element 151 = .ok (.iload 5, 2) := by decide +kernel
theorem d_M_element_153 : decode b_M_element 153 = .ok (.isub, 1) := by decide +kernel
theorem d_M_element_154 : decode b_M_element 154 = .ok (.if_icmp .le 5, 3) := by decide +kernel
theorem d_M_element_157 : decode b_M_element 157 = .ok (.iconst 0, 1) := by decide +kernel
theorem d_M_element_158 : decode b_M_element 158 = .ok (.ireturn, 1) := by decide +kernel
theorem d_M_element_159 : decode b_M_element 159 = .ok (.aload_n 0, 1) := by decide +kernel
theorem d_M_element_160 : decode b_M_element 160 = .ok (.iload 5, 2) := by decide +kernel
theorem d_M_element_162 : decode b_M_element 162 = .ok (.putfield 470, 3) := by decide +kernel
theorem d_M_element_165 : decode b_M_element 165 = .ok (.aload_n 0, 1) := by decide +kernel
theorem d_M_element_166 : decode b_M_element 166 = .ok (.iload 5, 2) := by decide +kernel
theorem d_M_element_168 : decode b_M_element 168 = .ok (.iload 4, 2) := by decide +kernel
theorem d_M_element_170 : decode b_M_element 170 = .ok (.iadd, 1) := by decide +kernel
theorem d_M_element_171 : decode b_M_element 171 = .ok (.putfield 473, 3) := by decide +kernel
theorem d_M_element_174 : decode b_M_element 174 = .ok (.iconst 1, 1) := by decide +kernel
theorem d_M_element_175 : decode b_M_element 175 = .ok (.ireturn, 1) := by decide +kernel
abbrev b_M_whole : ByteArray := prog_14_method_41_code
def y_M_whole : MethodName := ⟨R_M, "whole", "(III)Z"⟩
abbrev k_M_whole : Cond := .code y_M_whole b_M_whole 4 (some .boolean)
theorem ki_M_whole : k_M_whole ∈ lw_tg := in_t 2368 (by decide +kernel)
theorem ks_M_whole : Cond.instanceMethod y_M_whole ∈ lw_tg := in_t 2367 (by decide +kernel)
theorem kx_M_whole : Cond.selects R_M y_M_whole y_M_whole ∈ lw_tg := List.mem_filter.mpr ⟨List.mem_append_left _ (List.mem_of_getElem? (i := 95) (by decide +kernel)), rfl⟩
theorem kl_M_whole : Cond.methodLink R_M 480 y_M_whole ∈ lw_tg := in_t 2365 (by decide +kernel)
theorem hd_M_whole : y_M_whole.cls = R_M ∧ y_M_whole.cls ≠ "java/lang/invoke/MethodHandle" ∧ y_M_whole.cls ≠ "java/lang/invoke/VarHandle" ∧ (parseMethodDescriptor y_M_whole.desc).map (fun d => d.parameters.length) = some 3 := by decide +kernel
theorem d_M_whole_0 : decode b_M_whole 0 = .ok (.aload_n 0, 1) := by decide +kernel
theorem d_M_whole_1 : decode b_M_whole 1 = .ok (.iload_n 1, 1) := by decide +kernel
theorem d_M_whole_2 : decode b_M_whole 2 = .ok (.iload_n 2, 1) := by decide +kernel
theorem d_M_whole_3 : decode b_M_whole 3 = .ok (.iload_n 3, 1) := by decide +kernel
theorem d_M_whole_4 : decode b_M_whole 4 = .ok (.invokevirtual 476, 3) := by decide +kernel
theorem d_M_whole_7 : decode b_M_whole 7 = .ok (.ifCond .eq 15, 3) := by decide +kernel
theorem d_M_whole_10 : decode b_M_whole 10 = .ok (.aload_n 0, 1) := by decide +kernel
theorem d_M_whole_11 : decode b_M_whole 11 = .ok (.getfield 473, 3) := by decide +kernel
theorem d_M_whole_14 : decode b_M_whole 14 = .ok (.iload_n 2, 1) := by decide +kernel
theorem d_M_whole_15 : decode b_M_whole 15 = .ok (.if_icmp .ne 7, 3) := by decide +kernel
theorem d_M_whole_18 : decode b_M_whole 18 = .ok (.iconst 1, 1) := by decide +kernel
theorem d_M_whole_19 : decode b_M_whole 19 = .ok (.goto 4, 3) := by decide +kernel
theorem d_M_whole_22 : decode b_M_whole 22 = .ok (.iconst 0, 1) := by decide +kernel
theorem d_M_whole_23 : decode b_M_whole 23 = .ok (.ireturn, 1) := by decide +kernel
abbrev b_M_sequence : ByteArray := prog_14_method_42_code
def y_M_sequence : MethodName := ⟨R_M, "sequence", "(Ljava/lang/String;III)Z"⟩
abbrev k_M_sequence : Cond := .code y_M_sequence b_M_sequence 13 (some .boolean)
theorem ki_M_sequence : k_M_sequence ∈ lw_tg := List.mem_filter.mpr ⟨List.mem_append_right _ (List.mem_append_right _ (List.mem_append_right _ (List.mem_append_right _ (List.mem_append_right _ (List.mem_append_right _ (List.mem_append_right _ (List.mem_append_right _ (List.mem_append_right _ (List.mem_append_right _ (List.mem_append_left _ (List.mem_of_getElem? (i := 216) rfl))))))))))), rfl⟩
theorem ks_M_sequence : Cond.instanceMethod y_M_sequence ∈ lw_tg := in_t 2375 (by decide +kernel)
theorem kx_M_sequence : Cond.selects R_M y_M_sequence y_M_sequence ∈ lw_tg := List.mem_filter.mpr ⟨List.mem_append_left _ (List.mem_of_getElem? (i := 97) (by decide +kernel)), rfl⟩
theorem kl_M_sequence : Cond.methodLink R_M 487 y_M_sequence ∈ lw_tg := in_t 2373 (by decide +kernel)
theorem hd_M_sequence : y_M_sequence.cls = R_M ∧ y_M_sequence.cls ≠ "java/lang/invoke/MethodHandle" ∧ y_M_sequence.cls ≠ "java/lang/invoke/VarHandle" ∧ (parseMethodDescriptor y_M_sequence.desc).map (fun d => d.parameters.length) = some 4 := by decide +kernel
theorem d_M_sequence_0 : decode b_M_sequence 0 = .ok (.aload_n 0, 1) := by decide +kernel
theorem d_M_sequence_1 : decode b_M_sequence 1 = .ok (.iload_n 2, 1) := by decide +kernel
theorem d_M_sequence_2 : decode b_M_sequence 2 = .ok (.iload_n 3, 1) := by decide +kernel
theorem d_M_sequence_3 : decode b_M_sequence 3 = .ok (.bipush 48, 2) := by decide +kernel
theorem d_M_sequence_5 : decode b_M_sequence 5 = .ok (.invokevirtual 480, 3) := by decide +kernel
theorem d_M_sequence_8 : decode b_M_sequence 8 = .ok (.ifCond .ne 5, 3) := by decide +kernel
theorem d_M_sequence_11 : decode b_M_sequence 11 = .ok (.iconst 0, 1) := by decide +kernel
theorem d_M_sequence_12 : decode b_M_sequence 12 = .ok (.ireturn, 1) := by decide +kernel
theorem d_M_sequence_13 : decode b_M_sequence 13 = .ok (.aload_n 0, 1) := by decide +kernel
theorem d_M_sequence_14 : decode b_M_sequence 14 = .ok (.getfield 470, 3) := by decide +kernel
theorem d_M_sequence_17 : decode b_M_sequence 17 = .ok (.istore 5, 2) := by decide +kernel
theorem d_M_sequence_19 : decode b_M_sequence 19 = .ok (.iconst 0, 1) := by decide +kernel
theorem d_M_sequence_20 : decode b_M_sequence 20 = .ok (.istore 6, 2) := by decide +kernel
theorem d_M_sequence_22 : decode b_M_sequence 22 = .ok (.iconst 0, 1) := by decide +kernel
theorem d_M_sequence_23 : decode b_M_sequence 23 = .ok (.istore 7, 2) := by decide +kernel
theorem d_M_sequence_25 : decode b_M_sequence 25 = .ok (.iload 7, 2) := by decide +kernel
theorem d_M_sequence_27 : decode b_M_sequence 27 = .ok (.bipush 16, 2) := by decide +kernel
theorem d_M_sequence_29 : decode b_M_sequence 29 = .ok (.if_icmp .ge 42, 3) := by decide +kernel
theorem d_M_sequence_32 : decode b_M_sequence 32 = .ok (.iload 4, 2) := by decide +kernel
theorem d_M_sequence_34 : decode b_M_sequence 34 = .ok (.ifCond .lt 37, 3) := by decide +kernel
theorem d_M_sequence_37 : decode b_M_sequence 37 = .ok (.aload_n 0, 1) := by decide +kernel
theorem d_M_sequence_38 : decode b_M_sequence 38 = .ok (.getfield 95, 3) := by decide +kernel
theorem d_M_sequence_41 : decode b_M_sequence 41 = .ok (.bipush 16, 2) := by decide +kernel
theorem d_M_sequence_43 : decode b_M_sequence 43 = .ok (.iload 4, 2) := by decide +kernel
theorem d_M_sequence_45 : decode b_M_sequence 45 = .ok (.imul, 1) := by decide +kernel
theorem d_M_sequence_46 : decode b_M_sequence 46 = .ok (.iload 7, 2) := by decide +kernel
theorem d_M_sequence_48 : decode b_M_sequence 48 = .ok (.iadd, 1) := by decide +kernel
theorem d_M_sequence_49 : decode b_M_sequence 49 = .ok (.iconst (-1), 1) := by decide +kernel
theorem d_M_sequence_50 : decode b_M_sequence 50 = .ok (.iastore, 1) := by decide +kernel
theorem d_M_sequence_51 : decode b_M_sequence 51 = .ok (.aload_n 0, 1) := by decide +kernel
theorem d_M_sequence_52 : decode b_M_sequence 52 = .ok (.getfield 98, 3) := by decide +kernel
theorem d_M_sequence_55 : decode b_M_sequence 55 = .ok (.bipush 16, 2) := by decide +kernel
theorem d_M_sequence_57 : decode b_M_sequence 57 = .ok (.iload 4, 2) := by decide +kernel
theorem d_M_sequence_59 : decode b_M_sequence 59 = .ok (.imul, 1) := by decide +kernel
theorem d_M_sequence_60 : decode b_M_sequence 60 = .ok (.iload 7, 2) := by decide +kernel
theorem d_M_sequence_62 : decode b_M_sequence 62 = .ok (.iadd, 1) := by decide +kernel
theorem d_M_sequence_63 : decode b_M_sequence 63 = .ok (.iconst (-1), 1) := by decide +kernel
theorem d_M_sequence_64 : decode b_M_sequence 64 = .ok (.iastore, 1) := by decide +kernel
theorem d_M_sequence_65 : decode b_M_sequence 65 = .ok (.iinc 7 1, 3) := by decide +kernel
theorem d_M_sequence_68 : decode b_M_sequence 68 = .ok (.goto (-43), 3) := by decide +kernel
theorem d_M_sequence_71 : decode b_M_sequence 71 = .ok (.iload 6, 2) := by decide +kernel
theorem d_M_sequence_73 : decode b_M_sequence 73 = .ok (.aload_n 1, 1) := by decide +kernel
theorem d_M_sequence_74 : decode b_M_sequence 74 = .ok (.invokevirtual 339, 3) := by decide +kernel
theorem d_M_sequence_77 : decode b_M_sequence 77 = .ok (.if_icmp .ge 228, 3) := by decide +kernel
theorem d_M_sequence_80 : decode b_M_sequence 80 = .ok (.iconst 0, 1) := by decide +kernel
theorem d_M_sequence_81 : decode b_M_sequence 81 = .ok (.istore 7, 2) := by decide +kernel
theorem d_M_sequence_83 : decode b_M_sequence 83 = .ok (.aload_n 1, 1) := by decide +kernel
theorem d_M_sequence_84 : decode b_M_sequence 84 = .ok (.iload 6, 2) := by decide +kernel
theorem d_M_sequence_86 : decode b_M_sequence 86 = .ok (.invokevirtual 344, 3) := by decide +kernel
theorem d_M_sequence_89 : decode b_M_sequence 89 = .ok (.bipush 48, 2) := by decide +kernel
theorem d_M_sequence_91 : decode b_M_sequence 91 = .ok (.if_icmp .lt 37, 3) := by decide +kernel
theorem d_M_sequence_94 : decode b_M_sequence 94 = .ok (.aload_n 1, 1) := by decide +kernel
theorem d_M_sequence_95 : decode b_M_sequence 95 = .ok (.iload 6, 2) := by decide +kernel
theorem d_M_sequence_97 : decode b_M_sequence 97 = .ok (.invokevirtual 344, 3) := by decide +kernel
theorem d_M_sequence_100 : decode b_M_sequence 100 = .ok (.bipush 57, 2) := by decide +kernel
theorem d_M_sequence_102 : decode b_M_sequence 102 = .ok (.if_icmp .gt 26, 3) := by decide +kernel
theorem d_M_sequence_105 : decode b_M_sequence 105 = .ok (.bipush 10, 2) := by decide +kernel
theorem d_M_sequence_107 : decode b_M_sequence 107 = .ok (.iload 7, 2) := by decide +kernel
theorem d_M_sequence_109 : decode b_M_sequence 109 = .ok (.imul, 1) := by decide +kernel
theorem d_M_sequence_110 : decode b_M_sequence 110 = .ok (.aload_n 1, 1) := by decide +kernel
theorem d_M_sequence_111 : decode b_M_sequence 111 = .ok (.iload 6, 2) := by decide +kernel
theorem d_M_sequence_113 : decode b_M_sequence 113 = .ok (.invokevirtual 344, 3) := by decide +kernel
theorem d_M_sequence_116 : decode b_M_sequence 116 = .ok (.iadd, 1) := by decide +kernel
theorem d_M_sequence_117 : decode b_M_sequence 117 = .ok (.bipush 48, 2) := by decide +kernel
theorem d_M_sequence_119 : decode b_M_sequence 119 = .ok (.isub, 1) := by decide +kernel
theorem d_M_sequence_120 : decode b_M_sequence 120 = .ok (.istore 7, 2) := by decide +kernel
theorem d_M_sequence_122 : decode b_M_sequence 122 = .ok (.iinc 6 1, 3) := by decide +kernel
theorem d_M_sequence_125 : decode b_M_sequence 125 = .ok (.goto (-42), 3) := by decide +kernel
theorem d_M_sequence_128 : decode b_M_sequence 128 = .ok (.aload_n 1, 1) := by decide +kernel
theorem d_M_sequence_129 : decode b_M_sequence 129 = .ok (.iload 6, 2) := by decide +kernel
theorem d_M_sequence_131 : decode b_M_sequence 131 = .ok (.invokevirtual 344, 3) := by decide +kernel
theorem d_M_sequence_134 : decode b_M_sequence 134 = .ok (.bipush 63, 2) := by decide +kernel
theorem d_M_sequence_136 : decode b_M_sequence 136 = .ok (.if_icmp .ne 7, 3) := by decide +kernel
theorem d_M_sequence_139 : decode b_M_sequence 139 = .ok (.iconst 1, 1) := by decide +kernel
theorem d_M_sequence_140 : decode b_M_sequence 140 = .ok (.goto 4, 3) := by decide +kernel
theorem d_M_sequence_143 : decode b_M_sequence 143 = .ok (.iconst 0, 1) := by decide +kernel
theorem d_M_sequence_144 : decode b_M_sequence 144 = .ok (.istore 8, 2) := by decide +kernel
theorem d_M_sequence_146 : decode b_M_sequence 146 = .ok (.iload 8, 2) := by decide +kernel
theorem d_M_sequence_148 : decode b_M_sequence 148 = .ok (.ifCond .eq 6, 3) := by decide +kernel
theorem d_M_sequence_151 : decode b_M_sequence 151 = .ok (.iinc 6 1, 3) := by decide +kernel
theorem d_M_sequence_154 : decode b_M_sequence 154 = .ok (.aload_n 1, 1) := by decide +kernel
theorem d_M_sequence_155 : decode b_M_sequence 155 = .ok (.iload 6, 2) := by decide +kernel
theorem d_M_sequence_157 : decode b_M_sequence 157 = .ok (.invokevirtual 344, 3) := by decide +kernel
theorem d_M_sequence_160 : decode b_M_sequence 160 = .ok (.istore 9, 2) := by decide +kernel
theorem d_M_sequence_162 : decode b_M_sequence 162 = .ok (.iinc 6 2, 3) := by decide +kernel
theorem d_M_sequence_165 : decode b_M_sequence 165 = .ok (.iload 5, 2) := by decide +kernel
theorem d_M_sequence_167 : decode b_M_sequence 167 = .ok (.iload_n 3, 1) := by decide +kernel
theorem d_M_sequence_168 : decode b_M_sequence 168 = .ok (.if_icmp .ge 27, 3) := by decide +kernel
theorem d_M_sequence_171 : decode b_M_sequence 171 = .ok (.aload_n 0, 1) := by decide +kernel
theorem d_M_sequence_172 : decode b_M_sequence 172 = .ok (.getfield 10, 3) := by decide +kernel
theorem d_M_sequence_175 : decode b_M_sequence 175 = .ok (.iload 5, 2) := by decide +kernel
theorem d_M_sequence_177 : decode b_M_sequence 177 = .ok (.baload, 1) := by decide +kernel
theorem d_M_sequence_178 : decode b_M_sequence 178 = .ok (.sipush 255, 3) := by decide +kernel
theorem d_M_sequence_181 : decode b_M_sequence 181 = .ok (.iand, 1) := by decide +kernel
theorem d_M_sequence_182 : decode b_M_sequence 182 = .ok (.sipush 160, 3) := by decide +kernel
theorem d_M_sequence_185 : decode b_M_sequence 185 = .ok (.iload 7, 2) := by decide +kernel
theorem d_M_sequence_187 : decode b_M_sequence 187 = .ok (.iadd, 1) := by decide +kernel
theorem d_M_sequence_188 : decode b_M_sequence 188 = .ok (.if_icmp .ne 7, 3) := by decide +kernel
theorem d_M_sequence_191 : decode b_M_sequence 191 = .ok (.iconst 1, 1) := by decide +kernel
theorem d_M_sequence_192 : decode b_M_sequence 192 = .ok (.goto 4, 3) := by decide +kernel
theorem d_M_sequence_195 : decode b_M_sequence 195 = .ok (.iconst 0, 1) := by decide +kernel
theorem d_M_sequence_196 : decode b_M_sequence 196 = .ok (.istore 10, 2) := by decide +kernel
theorem d_M_sequence_198 : decode b_M_sequence 198 = .ok (.iload 10, 2) := by decide +kernel
theorem d_M_sequence_200 : decode b_M_sequence 200 = .ok (.ifCond .ne 10, 3) := by decide +kernel
theorem d_M_sequence_203 : decode b_M_sequence 203 = .ok (.iload 8, 2) := by decide +kernel
theorem d_M_sequence_205 : decode b_M_sequence 205 = .ok (.ifCond .ne 5, 3) := by decide +kernel
theorem d_M_sequence_208 : decode b_M_sequence 208 = .ok (.iconst 0, 1) := by decide +kernel
theorem d_M_sequence_209 : decode b_M_sequence 209 = .ok (.ireturn, 1) := by decide +kernel
theorem d_M_sequence_210 : decode b_M_sequence 210 = .ok (.iload 10, 2) := by decide +kernel
theorem d_M_sequence_212 : decode b_M_sequence 212 = .ok (.ifCond .ne 6, 3) := by decide +kernel
theorem d_M_sequence_215 : decode b_M_sequence 215 = .ok (.goto (-144), 3) := by decide +kernel
theorem d_M_sequence_218 : decode b_M_sequence 218 = .ok (.aload_n 0, 1) := by decide +kernel
theorem d_M_sequence_219 : decode b_M_sequence 219 = .ok (.iload 5, 2) := by decide +kernel
theorem d_M_sequence_221 : decode b_M_sequence 221 = .ok (.iload_n 3, 1) := by decide +kernel
theorem d_M_sequence_222 : decode b_M_sequence 222 = .ok (.sipush 160, 3) := by decide +kernel
theorem d_M_sequence_225 : decode b_M_sequence 225 = .ok (.iload 7, 2) := by decide +kernel
theorem d_M_sequence_227 : decode b_M_sequence 227 = .ok (.iadd, 1) := by decide +kernel
theorem d_M_sequence_228 : decode b_M_sequence 228 = .ok (.invokevirtual 476, 3) := by decide +kernel
theorem d_M_sequence_231 : decode b_M_sequence 231 = .ok (.ifCond .ne 5, 3) := by decide +kernel
theorem d_M_sequence_234 : decode b_M_sequence 234 = .ok (.iconst 0, 1) := by decide +kernel
theorem d_M_sequence_235 : decode b_M_sequence 235 = .ok (.ireturn, 1) := by decide +kernel
theorem d_M_sequence_236 : decode b_M_sequence 236 = .ok (.aload_n 0, 1) := by decide +kernel
theorem d_M_sequence_237 : decode b_M_sequence 237 = .ok (.getfield 470, 3) := by decide +kernel
theorem d_M_sequence_240 : decode b_M_sequence 240 = .ok (.istore 11, 2) := by decide +kernel
theorem d_M_sequence_242 : decode b_M_sequence 242 = .ok (.aload_n 0, 1) := by decide +kernel
theorem d_M_sequence_243 : decode b_M_sequence 243 = .ok (.getfield 473, 3) := by decide +kernel
theorem d_M_sequence_246 : decode b_M_sequence 246 = .ok (.istore 12, 2) := by decide +kernel
theorem d_M_sequence_248 : decode b_M_sequence 248 = .ok (.aload_n 0, 1) := by decide +kernel
theorem d_M_sequence_249 : decode b_M_sequence 249 = .ok (.iload 9, 2) := by decide +kernel
theorem d_M_sequence_251 : decode b_M_sequence 251 = .ok (.iload 11, 2) := by decide +kernel
theorem d_M_sequence_253 : decode b_M_sequence 253 = .ok (.iload 12, 2) := by decide +kernel
theorem d_M_sequence_255 : decode b_M_sequence 255 = .ok (.invokevirtual 483, 3) := by decide +kernel
theorem d_M_sequence_258 : decode b_M_sequence 258 = .ok (.ifCond .ne 5, 3) := by decide +kernel
theorem d_M_sequence_261 : decode b_M_sequence 261 = .ok (.iconst 0, 1) := by decide +kernel
theorem d_M_sequence_262 : decode b_M_sequence 262 = .ok (.ireturn, 1) := by decide +kernel
theorem d_M_sequence_263 : decode b_M_sequence 263 = .ok (.iload 4, 2) := by decide +kernel
theorem d_M_sequence_265 : decode b_M_sequence 265 = .ok (.ifCond .lt 33, 3) := by decide +kernel
theorem d_M_sequence_268 : decode b_M_sequence 268 = .ok (.aload_n 0, 1) := by decide +kernel
theorem d_M_sequence_269 : decode b_M_sequence 269 = .ok (.getfield 95, 3) := by decide +kernel
theorem d_M_sequence_272 : decode b_M_sequence 272 = .ok (.bipush 16, 2) := by decide +kernel
theorem d_M_sequence_274 : decode b_M_sequence 274 = .ok (.iload 4, 2) := by decide +kernel
theorem d_M_sequence_276 : decode b_M_sequence 276 = .ok (.imul, 1) := by decide +kernel
theorem d_M_sequence_277 : decode b_M_sequence 277 = .ok (.iload 7, 2) := by decide +kernel
theorem d_M_sequence_279 : decode b_M_sequence 279 = .ok (.iadd, 1) := by decide +kernel
theorem d_M_sequence_280 : decode b_M_sequence 280 = .ok (.iload 11, 2) := by decide +kernel
theorem d_M_sequence_282 : decode b_M_sequence 282 = .ok (.iastore, 1) := by decide +kernel
theorem d_M_sequence_283 : decode b_M_sequence 283 = .ok (.aload_n 0, 1) := by decide +kernel
theorem d_M_sequence_284 : decode b_M_sequence 284 = .ok (.getfield 98, 3) := by decide +kernel
theorem d_M_sequence_287 : decode b_M_sequence 287 = .ok (.bipush 16, 2) := by decide +kernel
theorem d_M_sequence_289 : decode b_M_sequence 289 = .ok (.iload 4, 2) := by decide +kernel
theorem d_M_sequence_291 : decode b_M_sequence 291 = .ok (.imul, 1) := by decide +kernel
theorem d_M_sequence_292 : decode b_M_sequence 292 = .ok (.iload 7, 2) := by decide +kernel
theorem d_M_sequence_294 : decode b_M_sequence 294 = .ok (.iadd, 1) := by decide +kernel
theorem d_M_sequence_295 : decode b_M_sequence 295 = .ok (.iload 12, 2) := by decide +kernel
theorem d_M_sequence_297 : decode b_M_sequence 297 = .ok (.iastore, 1) := by decide +kernel
theorem d_M_sequence_298 : decode b_M_sequence 298 = .ok (.iload 12, 2) := by decide +kernel
theorem d_M_sequence_300 : decode b_M_sequence 300 = .ok (.istore 5, 2) := by decide +kernel
theorem d_M_sequence_302 : decode b_M_sequence 302 = .ok (.goto (-231), 3) := by decide +kernel
theorem d_M_sequence_305 : decode b_M_sequence 305 = .ok (.iload 5, 2) := by decide +kernel
theorem d_M_sequence_307 : decode b_M_sequence 307 = .ok (.iload_n 3, 1) := by decide +kernel
theorem d_M_sequence_308 : decode b_M_sequence 308 = .ok (.if_icmp .ne 7, 3) := by decide +kernel
theorem d_M_sequence_311 : decode b_M_sequence 311 = .ok (.iconst 1, 1) := by decide +kernel
theorem d_M_sequence_312 : decode b_M_sequence 312 = .ok (.goto 4, 3) := by decide +kernel
theorem d_M_sequence_315 : decode b_M_sequence 315 = .ok (.iconst 0, 1) := by decide +kernel
theorem d_M_sequence_316 : decode b_M_sequence 316 = .ok (.ireturn, 1) := by decide +kernel
abbrev b_M_applied : ByteArray := prog_14_method_43_code
def y_M_applied : MethodName := ⟨R_M, "applied", "(ILjava/lang/String;III)Z"⟩
abbrev k_M_applied : Cond := .code y_M_applied b_M_applied 6 (some .boolean)
theorem ki_M_applied : k_M_applied ∈ lw_tg := in_t 2364 (by decide +kernel)
theorem ks_M_applied : Cond.instanceMethod y_M_applied ∈ lw_tg := in_t 2363 (by decide +kernel)
theorem kx_M_applied : Cond.selects R_M y_M_applied y_M_applied ∈ lw_tg := List.mem_filter.mpr ⟨List.mem_append_left _ (List.mem_of_getElem? (i := 94) (by decide +kernel)), rfl⟩
theorem kl_M_applied : Cond.methodLink R_M 522 y_M_applied ∈ lw_tg := in_t 2361 (by decide +kernel)
theorem hd_M_applied : y_M_applied.cls = R_M ∧ y_M_applied.cls ≠ "java/lang/invoke/MethodHandle" ∧ y_M_applied.cls ≠ "java/lang/invoke/VarHandle" ∧ (parseMethodDescriptor y_M_applied.desc).map (fun d => d.parameters.length) = some 5 := by decide +kernel
theorem d_M_applied_0 : decode b_M_applied 0 = .ok (.aload_n 0, 1) := by decide +kernel
theorem d_M_applied_1 : decode b_M_applied 1 = .ok (.iload_n 3, 1) := by decide +kernel
theorem d_M_applied_2 : decode b_M_applied 2 = .ok (.iload 4, 2) := by decide +kernel
theorem d_M_applied_4 : decode b_M_applied 4 = .ok (.bipush 96, 2) := by decide +kernel
theorem d_M_applied_6 : decode b_M_applied 6 = .ok (.iload_n 1, 1) := by decide +kernel
theorem d_M_applied_7 : decode b_M_applied 7 = .ok (.iadd, 1) := by decide +kernel
theorem d_M_applied_8 : decode b_M_applied 8 = .ok (.invokevirtual 480, 3) := by decide +kernel
theorem d_M_applied_11 : decode b_M_applied 11 = .ok (.ifCond .ne 5, 3) := by decide +kernel
theorem d_M_applied_14 : decode b_M_applied 14 = .ok (.iconst 0, 1) := by decide +kernel
theorem d_M_applied_15 : decode b_M_applied 15 = .ok (.ireturn, 1) := by decide +kernel
theorem d_M_applied_16 : decode b_M_applied 16 = .ok (.aload_n 0, 1) := by decide +kernel
theorem d_M_applied_17 : decode b_M_applied 17 = .ok (.aload_n 2, 1) := by decide +kernel
theorem d_M_applied_18 : decode b_M_applied 18 = .ok (.aload_n 0, 1) := by decide +kernel
theorem d_M_applied_19 : decode b_M_applied 19 = .ok (.getfield 470, 3) := by decide +kernel
theorem d_M_applied_22 : decode b_M_applied 22 = .ok (.iload 4, 2) := by decide +kernel
theorem d_M_applied_24 : decode b_M_applied 24 = .ok (.iload 5, 2) := by decide +kernel
theorem d_M_applied_26 : decode b_M_applied 26 = .ok (.invokevirtual 487, 3) := by decide +kernel
theorem d_M_applied_29 : decode b_M_applied 29 = .ok (.ireturn, 1) := by decide +kernel
abbrev b_M_number : ByteArray := prog_14_method_44_code
def y_M_number : MethodName := ⟨R_M, "number", "(IIJJ)Z"⟩
abbrev k_M_number : Cond := .code y_M_number b_M_number 12 (some .boolean)
theorem ki_M_number : k_M_number ∈ lw_tg := in_t 2386 (by decide +kernel)
theorem ks_M_number : Cond.instanceMethod y_M_number ∈ lw_tg := in_t 2385 (by decide +kernel)
theorem kx_M_number : Cond.selects R_M y_M_number y_M_number ∈ lw_tg := List.mem_filter.mpr ⟨List.mem_append_left _ (List.mem_of_getElem? (i := 99) (by decide +kernel)), rfl⟩
theorem kl_M_number : Cond.methodLink R_M 499 y_M_number ∈ lw_tg := in_t 2383 (by decide +kernel)
theorem hd_M_number : y_M_number.cls = R_M ∧ y_M_number.cls ≠ "java/lang/invoke/MethodHandle" ∧ y_M_number.cls ≠ "java/lang/invoke/VarHandle" ∧ (parseMethodDescriptor y_M_number.desc).map (fun d => d.parameters.length) = some 4 := by decide +kernel
theorem d_M_number_0 : decode b_M_number 0 = .ok (.aload_n 0, 1) := by decide +kernel
theorem d_M_number_1 : decode b_M_number 1 = .ok (.iload_n 1, 1) := by decide +kernel
theorem d_M_number_2 : decode b_M_number 2 = .ok (.iload_n 2, 1) := by decide +kernel
theorem d_M_number_3 : decode b_M_number 3 = .ok (.iconst 2, 1) := by decide +kernel
theorem d_M_number_4 : decode b_M_number 4 = .ok (.invokevirtual 480, 3) := by decide +kernel
theorem d_M_number_7 : decode b_M_number 7 = .ok (.ifCond .ne 5, 3) := by decide +kernel
theorem d_M_number_10 : decode b_M_number 10 = .ok (.iconst 0, 1) := by decide +kernel
theorem d_M_number_11 : decode b_M_number 11 = .ok (.ireturn, 1) := by decide +kernel
theorem d_M_number_12 : decode b_M_number 12 = .ok (.aload_n 0, 1) := by decide +kernel
theorem d_M_number_13 : decode b_M_number 13 = .ok (.getfield 470, 3) := by decide +kernel
theorem d_M_number_16 : decode b_M_number 16 = .ok (.istore 7, 2) := by decide +kernel
theorem d_M_number_18 : decode b_M_number 18 = .ok (.iload_n 2, 1) := by decide +kernel
theorem d_M_number_19 : decode b_M_number 19 = .ok (.iload 7, 2) := by decide +kernel
theorem d_M_number_21 : decode b_M_number 21 = .ok (.isub, 1) := by decide +kernel
theorem d_M_number_22 : decode b_M_number 22 = .ok (.istore 8, 2) := by decide +kernel
theorem d_M_number_24 : decode b_M_number 24 = .ok (.iload 8, 2) := by decide +kernel
theorem d_M_number_26 : decode b_M_number 26 = .ok (.iconst 1, 1) := by decide +kernel
theorem d_M_number_27 : decode b_M_number 27 = .ok (.if_icmp .lt 60, 3) := by decide +kernel
theorem d_M_number_30 : decode b_M_number 30 = .ok (.iload 8, 2) := by decide +kernel
theorem d_M_number_32 : decode b_M_number 32 = .ok (.iconst 5, 1) := by decide +kernel
theorem d_M_number_33 : decode b_M_number 33 = .ok (.if_icmp .gt 54, 3) := by decide +kernel
theorem d_M_number_36 : decode b_M_number 36 = .ok (.iload 8, 2) := by decide +kernel
theorem d_M_number_38 : decode b_M_number 38 = .ok (.iconst 1, 1) := by decide +kernel
theorem d_M_number_39 : decode b_M_number 39 = .ok (.if_icmp .le 50, 3) := by decide +kernel
theorem d_M_number_42 : decode b_M_number 42 = .ok (.aload_n 0, 1) := by decide +kernel
theorem d_M_number_43 : decode b_M_number 43 = .ok (.getfield 10, 3) := by decide +kernel
theorem d_M_number_46 : decode b_M_number 46 = .ok (.iload 7, 2) := by decide +kernel
theorem d_M_number_48 : decode b_M_number 48 = .ok (.baload, 1) := by decide +kernel
theorem d_M_number_49 : decode b_M_number 49 = .ok (.ifCond .ne 15, 3) := by decide +kernel
theorem d_M_number_52 : decode b_M_number 52 = .ok (.aload_n 0, 1) := by decide +kernel
theorem d_M_number_53 : decode b_M_number 53 = .ok (.getfield 10, 3) := by decide +kernel
theorem d_M_number_56 : decode b_M_number 56 = .ok (.iload 7, 2) := by decide +kernel
theorem d_M_number_58 : decode b_M_number 58 = .ok (.iconst 1, 1) := by decide +kernel
theorem d_M_number_59 : decode b_M_number 59 = .ok (.iadd, 1) := by decide +kernel
theorem d_M_number_60 : decode b_M_number 60 = .ok (.baload, 1) := by decide +kernel
theorem d_M_number_61 : decode b_M_number 61 = .ok (.ifCond .ge 26, 3) := by decide +kernel
theorem d_M_number_64 : decode b_M_number 64 = .ok (.aload_n 0, 1) := by decide +kernel
theorem d_M_number_65 : decode b_M_number 65 = .ok (.getfield 10, 3) := by decide +kernel
theorem d_M_number_68 : decode b_M_number 68 = .ok (.iload 7, 2) := by decide +kernel
theorem d_M_number_70 : decode b_M_number 70 = .ok (.baload, 1) := by decide +kernel
theorem d_M_number_71 : decode b_M_number 71 = .ok (.iconst (-1), 1) := by decide +kernel
theorem d_M_number_72 : decode b_M_number 72 = .ok (.if_icmp .ne 17, 3) := by decide +kernel
theorem d_M_number_75 : decode b_M_number 75 = .ok (.aload_n 0, 1) := by decide +kernel
theorem d_M_number_76 : decode b_M_number 76 = .ok (.getfield 10, 3) := by decide +kernel
theorem d_M_number_79 : decode b_M_number 79 = .ok (.iload 7, 2) := by decide +kernel
theorem d_M_number_81 : decode b_M_number 81 = .ok (.iconst 1, 1) := by decide +kernel
theorem d_M_number_82 : decode b_M_number 82 = .ok (.iadd, 1) := by decide +kernel
theorem d_M_number_83 : decode b_M_number 83 = .ok (.baload, 1) := by decide +kernel
theorem d_M_number_84 : decode b_M_number 84 = .ok (.ifCond .ge 5, 3) := by decide +kernel
theorem d_M_number_87 : decode b_M_number 87 = .ok (.iconst 0, 1) := by decide +kernel
theorem d_M_number_88 : decode b_M_number 88 = .ok (.ireturn, 1) := by decide +kernel
theorem d_M_number_89 : decode b_M_number 89 = .ok (.aload_n 0, 1) := by decide +kernel
theorem d_M_number_90 : decode b_M_number 90 = .ok (.getfield 10, 3) := by decide +kernel
theorem d_M_number_93 : decode b_M_number 93 = .ok (.iload 7, 2) := by decide +kernel
theorem d_M_number_95 : decode b_M_number 95 = .ok (.baload, 1) := by decide +kernel
theorem d_M_number_96 : decode b_M_number 96 = .ok (.i2l, 1) := by decide +kernel
theorem d_M_number_97 : decode b_M_number 97 = .ok (.lstore 9, 2) := by decide +kernel
theorem d_M_number_99 : decode b_M_number 99 = .ok (.iconst 1, 1) := by decide +kernel
theorem d_M_number_100 : decode b_M_number 100 = .ok (.istore 11, 2) := by decide +kernel
theorem d_M_number_102 : decode b_M_number 102 = .ok (.iload 11, 2) := by decide +kernel
theorem d_M_number_104 : decode b_M_number 104 = .ok (.iload 8, 2) := by decide +kernel
theorem d_M_number_106 : decode b_M_number 106 = .ok (.if_icmp .ge 32, 3) := by decide +kernel
theorem d_M_number_109 : decode b_M_number 109 = .ok (.lload 9, 2) := by decide +kernel
theorem d_M_number_111 : decode b_M_number 111 = .ok (.bipush 8, 2) := by decide +kernel
theorem d_M_number_113 : decode b_M_number 113 = .ok (.lshl, 1) := by decide +kernel
theorem d_M_number_114 : decode b_M_number 114 = .ok (.aload_n 0, 1) := by decide +kernel
theorem d_M_number_115 : decode b_M_number 115 = .ok (.getfield 10, 3) := by decide +kernel
theorem d_M_number_118 : decode b_M_number 118 = .ok (.iload 7, 2) := by decide +kernel
theorem d_M_number_120 : decode b_M_number 120 = .ok (.iload 11, 2) := by decide +kernel
theorem d_M_number_122 : decode b_M_number 122 = .ok (.iadd, 1) := by decide +kernel
theorem d_M_number_123 : decode b_M_number 123 = .ok (.baload, 1) := by decide +kernel
theorem d_M_number_124 : decode b_M_number 124 = .ok (.sipush 255, 3) := by decide +kernel
theorem d_M_number_127 : decode b_M_number 127 = .ok (.iand, 1) := by decide +kernel
theorem d_M_number_128 : decode b_M_number 128 = .ok (.i2l, 1) := by decide +kernel
theorem d_M_number_129 : decode b_M_number 129 = .ok (.lor, 1) := by decide +kernel
theorem d_M_number_130 : decode b_M_number 130 = .ok (.lstore 9, 2) := by decide +kernel
theorem d_M_number_132 : decode b_M_number 132 = .ok (.iinc 11 1, 3) := by decide +kernel
theorem d_M_number_135 : decode b_M_number 135 = .ok (.goto (-33), 3) := by decide +kernel
theorem d_M_number_138 : decode b_M_number 138 = .ok (.aload_n 0, 1) := by decide +kernel
theorem d_M_number_139 : decode b_M_number 139 = .ok (.lload 9, 2) := by decide +kernel
theorem d_M_number_141 : decode b_M_number 141 = .ok (.putfield 491, 3) := by decide +kernel
theorem d_M_number_144 : decode b_M_number 144 = .ok (.lload 9, 2) := by decide +kernel
theorem d_M_number_146 : decode b_M_number 146 = .ok (.lload_n 3, 1) := by decide +kernel
theorem d_M_number_147 : decode b_M_number 147 = .ok (.lcmp, 1) := by decide +kernel
theorem d_M_number_148 : decode b_M_number 148 = .ok (.ifCond .lt 15, 3) := by decide +kernel
theorem d_M_number_151 : decode b_M_number 151 = .ok (.lload 9, 2) := by decide +kernel
theorem d_M_number_153 : decode b_M_number 153 = .ok (.lload 5, 2) := by decide +kernel
theorem d_M_number_155 : decode b_M_number 155 = .ok (.lcmp, 1) := by decide +kernel
theorem d_M_number_156 : decode b_M_number 156 = .ok (.ifCond .gt 7, 3) := by decide +kernel
theorem d_M_number_159 : decode b_M_number 159 = .ok (.iconst 1, 1) := by decide +kernel
theorem d_M_number_160 : decode b_M_number 160 = .ok (.goto 4, 3) := by decide +kernel
theorem d_M_number_163 : decode b_M_number 163 = .ok (.iconst 0, 1) := by decide +kernel
theorem d_M_number_164 : decode b_M_number 164 = .ok (.ireturn, 1) := by decide +kernel
abbrev b_M_is : ByteArray := prog_14_method_45_code
def y_M_is : MethodName := ⟨R_M, "is", "(CII)Z"⟩
abbrev k_M_is : Cond := .code y_M_is b_M_is 6 (some .boolean)
theorem ki_M_is : k_M_is ∈ lw_tg := List.mem_filter.mpr ⟨List.mem_append_right _ (List.mem_append_right _ (List.mem_append_right _ (List.mem_append_right _ (List.mem_append_right _ (List.mem_append_right _ (List.mem_append_right _ (List.mem_append_right _ (List.mem_append_right _ (List.mem_append_right _ (List.mem_append_left _ (List.mem_of_getElem? (i := 220) rfl))))))))))), rfl⟩
theorem ks_M_is : Cond.instanceMethod y_M_is ∈ lw_tg := in_t 2379 (by decide +kernel)
theorem kx_M_is : Cond.selects R_M y_M_is y_M_is ∈ lw_tg := List.mem_filter.mpr ⟨List.mem_append_left _ (List.mem_of_getElem? (i := 98) (by decide +kernel)), rfl⟩
theorem kl_M_is : Cond.methodLink R_M 483 y_M_is ∈ lw_tg := in_t 2377 (by decide +kernel)
theorem hd_M_is : y_M_is.cls = R_M ∧ y_M_is.cls ≠ "java/lang/invoke/MethodHandle" ∧ y_M_is.cls ≠ "java/lang/invoke/VarHandle" ∧ (parseMethodDescriptor y_M_is.desc).map (fun d => d.parameters.length) = some 3 := by decide +kernel
theorem d_M_is_0 : decode b_M_is 0 = .ok (.iload_n 1, 1) := by decide +kernel
theorem d_M_is_1 : decode b_M_is 1 = .ok (.tableswitch 577 65 117 #[479, 577, 447, 577, 436, 577, 577, 447, 546, 577, 447, 557, 577, 416, 577, 488, 577, 447, 427, 458, 577, 537, 577, 577, 526, 577, 577, 577, 577, 577, 577, 577, 577, 577, 577, 577, 508, 378, 577, 470, 227, 577, 517, 566, 251, 577, 262, 497, 577, 577, 270, 337, 240], 227) := by decide +kernel
theorem d_M_is_228 : decode b_M_is 228 = .ok (.aload_n 0, 1) := by decide +kernel
theorem d_M_is_229 : decode b_M_is 229 = .ok (.iload_n 2, 1) := by decide +kernel
theorem d_M_is_230 : decode b_M_is 230 = .ok (.iload_n 3, 1) := by decide +kernel
theorem d_M_is_231 : decode b_M_is 231 = .ok (.ldc2_w 495, 3) := by decide +kernel
theorem d_M_is_234 : decode b_M_is 234 = .ok (.ldc2_w 497, 3) := by decide +kernel
theorem d_M_is_237 : decode b_M_is 237 = .ok (.invokevirtual 499, 3) := by decide +kernel
theorem d_M_is_240 : decode b_M_is 240 = .ok (.ireturn, 1) := by decide +kernel
theorem d_M_is_241 : decode b_M_is 241 = .ok (.aload_n 0, 1) := by decide +kernel
theorem d_M_is_242 : decode b_M_is 242 = .ok (.iload_n 2, 1) := by decide +kernel
theorem d_M_is_243 : decode b_M_is 243 = .ok (.iload_n 3, 1) := by decide +kernel
theorem d_M_is_244 : decode b_M_is 244 = .ok (.lconst 0, 1) := by decide +kernel
theorem d_M_is_245 : decode b_M_is 245 = .ok (.ldc2_w 503, 3) := by decide +kernel
theorem d_M_is_248 : decode b_M_is 248 = .ok (.invokevirtual 499, 3) := by decide +kernel
theorem d_M_is_251 : decode b_M_is 251 = .ok (.ireturn, 1) := by decide +kernel
theorem d_M_is_252 : decode b_M_is 252 = .ok (.aload_n 0, 1) := by decide +kernel
theorem d_M_is_253 : decode b_M_is 253 = .ok (.iload_n 2, 1) := by decide +kernel
theorem d_M_is_254 : decode b_M_is 254 = .ok (.iload_n 3, 1) := by decide +kernel
theorem d_M_is_255 : decode b_M_is 255 = .ok (.lconst 0, 1) := by decide +kernel
theorem d_M_is_256 : decode b_M_is 256 = .ok (.ldc2_w 505, 3) := by decide +kernel
theorem d_M_is_259 : decode b_M_is 259 = .ok (.invokevirtual 499, 3) := by decide +kernel
theorem d_M_is_262 : decode b_M_is 262 = .ok (.ireturn, 1) := by decide +kernel
theorem d_M_is_263 : decode b_M_is 263 = .ok (.aload_n 0, 1) := by decide +kernel
theorem d_M_is_264 : decode b_M_is 264 = .ok (.iload_n 2, 1) := by decide +kernel
theorem d_M_is_265 : decode b_M_is 265 = .ok (.iload_n 3, 1) := by decide +kernel
theorem d_M_is_266 : decode b_M_is 266 = .ok (.iconst 4, 1) := by decide +kernel
theorem d_M_is_267 : decode b_M_is 267 = .ok (.invokevirtual 480, 3) := by decide +kernel
theorem d_M_is_270 : decode b_M_is 270 = .ok (.ireturn, 1) := by decide +kernel
theorem d_M_is_271 : decode b_M_is 271 = .ok (.aload_n 0, 1) := by decide +kernel
theorem d_M_is_272 : decode b_M_is 272 = .ok (.iload_n 2, 1) := by decide +kernel
theorem d_M_is_273 : decode b_M_is 273 = .ok (.iload_n 3, 1) := by decide +kernel
theorem d_M_is_274 : decode b_M_is 274 = .ok (.bipush 27, 2) := by decide +kernel
theorem d_M_is_276 : decode b_M_is 276 = .ok (.invokevirtual 480, 3) := by decide +kernel
theorem d_M_is_279 : decode b_M_is 279 = .ok (.istore 4, 2) := by decide +kernel
theorem d_M_is_281 : decode b_M_is 281 = .ok (.aload_n 0, 1) := by decide +kernel
theorem d_M_is_282 : decode b_M_is 282 = .ok (.getfield 470, 3) := by decide +kernel
theorem d_M_is_285 : decode b_M_is 285 = .ok (.istore 5, 2) := by decide +kernel
theorem d_M_is_287 : decode b_M_is 287 = .ok (.iload 5, 2) := by decide +kernel
theorem d_M_is_289 : decode b_M_is 289 = .ok (.iload_n 3, 1) := by decide +kernel
theorem d_M_is_290 : decode b_M_is 290 = .ok (.if_icmp .ge 45, 3) := by decide +kernel
theorem d_M_is_293 : decode b_M_is 293 = .ok (.iload 4, 2) := by decide +kernel
theorem d_M_is_295 : decode b_M_is 295 = .ok (.ifCond .eq 40, 3) := by decide +kernel
theorem d_M_is_298 : decode b_M_is 298 = .ok (.aload_n 0, 1) := by decide +kernel
theorem d_M_is_299 : decode b_M_is 299 = .ok (.getfield 10, 3) := by decide +kernel
theorem d_M_is_302 : decode b_M_is 302 = .ok (.iload 5, 2) := by decide +kernel
theorem d_M_is_304 : decode b_M_is 304 = .ok (.baload, 1) := by decide +kernel
theorem d_M_is_305 : decode b_M_is 305 = .ok (.bipush 32, 2) := by decide +kernel
theorem d_M_is_307 : decode b_M_is 307 = .ok (.if_icmp .lt 19, 3) := by decide +kernel
theorem d_M_is_310 : decode b_M_is 310 = .ok (.aload_n 0, 1) := by decide +kernel
theorem d_M_is_311 : decode b_M_is 311 = .ok (.getfield 10, 3) := by decide +kernel
theorem d_M_is_314 : decode b_M_is 314 = .ok (.iload 5, 2) := by decide +kernel
theorem d_M_is_316 : decode b_M_is 316 = .ok (.baload, 1) := by decide +kernel
theorem d_M_is_317 : decode b_M_is 317 = .ok (.bipush 126, 2) := by decide +kernel
theorem d_M_is_319 : decode b_M_is 319 = .ok (.if_icmp .gt 7, 3) := by decide +kernel
theorem d_M_is_322 : decode b_M_is 322 = .ok (.iconst 1, 1) := by decide +kernel
theorem d_M_is_323 : decode b_M_is 323 = .ok (.goto 4, 3) := by decide +kernel
theorem d_M_is_326 : decode b_M_is 326 = .ok (.iconst 0, 1) := by decide +kernel
theorem d_M_is_327 : decode b_M_is 327 = .ok (.istore 4, 2) := by decide +kernel
theorem d_M_is_329 : decode b_M_is 329 = .ok (.iinc 5 1, 3) := by decide +kernel
theorem d_M_is_332 : decode b_M_is 332 = .ok (.goto (-45), 3) := by decide +kernel
theorem d_M_is_335 : decode b_M_is 335 = .ok (.iload 4, 2) := by decide +kernel
theorem d_M_is_337 : decode b_M_is 337 = .ok (.ireturn, 1) := by decide +kernel
theorem d_M_is_338 : decode b_M_is 338 = .ok (.aload_n 0, 1) := by decide +kernel
theorem d_M_is_339 : decode b_M_is 339 = .ok (.iload_n 2, 1) := by decide +kernel
theorem d_M_is_340 : decode b_M_is 340 = .ok (.iload_n 3, 1) := by decide +kernel
theorem d_M_is_341 : decode b_M_is 341 = .ok (.bipush 24, 2) := by decide +kernel
theorem d_M_is_343 : decode b_M_is 343 = .ok (.invokevirtual 480, 3) := by decide +kernel
theorem d_M_is_346 : decode b_M_is 346 = .ok (.ifCond .eq 31, 3) := by decide +kernel
theorem d_M_is_349 : decode b_M_is 349 = .ok (.iload_n 3, 1) := by decide +kernel
theorem d_M_is_350 : decode b_M_is 350 = .ok (.aload_n 0, 1) := by decide +kernel
theorem d_M_is_351 : decode b_M_is 351 = .ok (.getfield 470, 3) := by decide +kernel
theorem d_M_is_354 : decode b_M_is 354 = .ok (.isub, 1) := by decide +kernel
theorem d_M_is_355 : decode b_M_is 355 = .ok (.bipush 15, 2) := by decide +kernel
theorem d_M_is_357 : decode b_M_is 357 = .ok (.if_icmp .ne 20, 3) := by decide +kernel
theorem d_M_is_360 : decode b_M_is 360 = .ok (.aload_n 0, 1) := by decide +kernel
theorem d_M_is_361 : decode b_M_is 361 = .ok (.aload_n 0, 1) := by decide +kernel
theorem d_M_is_362 : decode b_M_is 362 = .ok (.getfield 470, 3) := by decide +kernel
theorem d_M_is_365 : decode b_M_is 365 = .ok (.invokevirtual 507, 3) := by decide +kernel
theorem d_M_is_368 : decode b_M_is 368 = .ok (.lconst 0, 1) := by decide +kernel
theorem d_M_is_369 : decode b_M_is 369 = .ok (.lcmp, 1) := by decide +kernel
theorem d_M_is_370 : decode b_M_is 370 = .ok (.ifCond .lt 7, 3) := by decide +kernel
theorem d_M_is_373 : decode b_M_is 373 = .ok (.iconst 1, 1) := by decide +kernel
theorem d_M_is_374 : decode b_M_is 374 = .ok (.goto 4, 3) := by decide +kernel
theorem d_M_is_377 : decode b_M_is 377 = .ok (.iconst 0, 1) := by decide +kernel
theorem d_M_is_378 : decode b_M_is 378 = .ok (.ireturn, 1) := by decide +kernel
theorem d_M_is_379 : decode b_M_is 379 = .ok (.aload_n 0, 1) := by decide +kernel
theorem d_M_is_380 : decode b_M_is 380 = .ok (.iload_n 2, 1) := by decide +kernel
theorem d_M_is_381 : decode b_M_is 381 = .ok (.iload_n 3, 1) := by decide +kernel
theorem d_M_is_382 : decode b_M_is 382 = .ok (.iconst 3, 1) := by decide +kernel
theorem d_M_is_383 : decode b_M_is 383 = .ok (.invokevirtual 480, 3) := by decide +kernel
theorem d_M_is_386 : decode b_M_is 386 = .ok (.ifCond .eq 29, 3) := by decide +kernel
theorem d_M_is_389 : decode b_M_is 389 = .ok (.iload_n 3, 1) := by decide +kernel
theorem d_M_is_390 : decode b_M_is 390 = .ok (.aload_n 0, 1) := by decide +kernel
theorem d_M_is_391 : decode b_M_is 391 = .ok (.getfield 470, 3) := by decide +kernel
theorem d_M_is_394 : decode b_M_is 394 = .ok (.isub, 1) := by decide +kernel
theorem d_M_is_395 : decode b_M_is 395 = .ok (.iconst 5, 1) := by decide +kernel
theorem d_M_is_396 : decode b_M_is 396 = .ok (.if_icmp .lt 19, 3) := by decide +kernel
theorem d_M_is_399 : decode b_M_is 399 = .ok (.aload_n 0, 1) := by decide +kernel
theorem d_M_is_400 : decode b_M_is 400 = .ok (.getfield 10, 3) := by decide +kernel
theorem d_M_is_403 : decode b_M_is 403 = .ok (.aload_n 0, 1) := by decide +kernel
theorem d_M_is_404 : decode b_M_is 404 = .ok (.getfield 470, 3) := by decide +kernel
theorem d_M_is_407 : decode b_M_is 407 = .ok (.baload, 1) := by decide +kernel
theorem d_M_is_408 : decode b_M_is 408 = .ok (.ifCond .ne 7, 3) := by decide +kernel
theorem d_M_is_411 : decode b_M_is 411 = .ok (.iconst 1, 1) := by decide +kernel
theorem d_M_is_412 : decode b_M_is 412 = .ok (.goto 4, 3) := by decide +kernel
theorem d_M_is_415 : decode b_M_is 415 = .ok (.iconst 0, 1) := by decide +kernel
theorem d_M_is_416 : decode b_M_is 416 = .ok (.ireturn, 1) := by decide +kernel
theorem d_M_is_417 : decode b_M_is 417 = .ok (.aload_n 0, 1) := by decide +kernel
theorem d_M_is_418 : decode b_M_is 418 = .ok (.ldc_w 511, 3) := by decide +kernel
theorem d_M_is_421 : decode b_M_is 421 = .ok (.iload_n 2, 1) := by decide +kernel
theorem d_M_is_422 : decode b_M_is 422 = .ok (.iload_n 3, 1) := by decide +kernel
theorem d_M_is_423 : decode b_M_is 423 = .ok (.iconst (-1), 1) := by decide +kernel
theorem d_M_is_424 : decode b_M_is 424 = .ok (.invokevirtual 487, 3) := by decide +kernel
theorem d_M_is_427 : decode b_M_is 427 = .ok (.ireturn, 1) := by decide +kernel
theorem d_M_is_428 : decode b_M_is 428 = .ok (.aload_n 0, 1) := by decide +kernel
theorem d_M_is_429 : decode b_M_is 429 = .ok (.bipush 115, 2) := by decide +kernel
theorem d_M_is_431 : decode b_M_is 431 = .ok (.iload_n 2, 1) := by decide +kernel
theorem d_M_is_432 : decode b_M_is 432 = .ok (.iload_n 3, 1) := by decide +kernel
theorem d_M_is_433 : decode b_M_is 433 = .ok (.invokevirtual 513, 3) := by decide +kernel
theorem d_M_is_436 : decode b_M_is 436 = .ok (.ireturn, 1) := by decide +kernel
theorem d_M_is_437 : decode b_M_is 437 = .ok (.aload_n 0, 1) := by decide +kernel
theorem d_M_is_438 : decode b_M_is 438 = .ok (.ldc_w 516, 3) := by decide +kernel
theorem d_M_is_441 : decode b_M_is 441 = .ok (.iload_n 2, 1) := by decide +kernel
theorem d_M_is_442 : decode b_M_is 442 = .ok (.iload_n 3, 1) := by decide +kernel
theorem d_M_is_443 : decode b_M_is 443 = .ok (.iconst (-1), 1) := by decide +kernel
theorem d_M_is_444 : decode b_M_is 444 = .ok (.invokevirtual 487, 3) := by decide +kernel
theorem d_M_is_447 : decode b_M_is 447 = .ok (.ireturn, 1) := by decide +kernel
theorem d_M_is_448 : decode b_M_is 448 = .ok (.aload_n 0, 1) := by decide +kernel
theorem d_M_is_449 : decode b_M_is 449 = .ok (.ldc_w 518, 3) := by decide +kernel
theorem d_M_is_452 : decode b_M_is 452 = .ok (.iload_n 2, 1) := by decide +kernel
theorem d_M_is_453 : decode b_M_is 453 = .ok (.iload_n 3, 1) := by decide +kernel
theorem d_M_is_454 : decode b_M_is 454 = .ok (.iconst (-1), 1) := by decide +kernel
theorem d_M_is_455 : decode b_M_is 455 = .ok (.invokevirtual 487, 3) := by decide +kernel
theorem d_M_is_458 : decode b_M_is 458 = .ok (.ireturn, 1) := by decide +kernel
theorem d_M_is_459 : decode b_M_is 459 = .ok (.aload_n 0, 1) := by decide +kernel
theorem d_M_is_460 : decode b_M_is 460 = .ok (.iconst 1, 1) := by decide +kernel
theorem d_M_is_461 : decode b_M_is 461 = .ok (.ldc_w 520, 3) := by decide +kernel
theorem d_M_is_464 : decode b_M_is 464 = .ok (.iload_n 2, 1) := by decide +kernel
theorem d_M_is_465 : decode b_M_is 465 = .ok (.iload_n 3, 1) := by decide +kernel
theorem d_M_is_466 : decode b_M_is 466 = .ok (.iconst (-1), 1) := by decide +kernel
theorem d_M_is_467 : decode b_M_is 467 = .ok (.invokevirtual 522, 3) := by decide +kernel
theorem d_M_is_470 : decode b_M_is 470 = .ok (.ireturn, 1) := by decide +kernel
theorem d_M_is_471 : decode b_M_is 471 = .ok (.aload_n 0, 1) := by decide +kernel
theorem d_M_is_472 : decode b_M_is 472 = .ok (.bipush 72, 2) := by decide +kernel
theorem d_M_is_474 : decode b_M_is 474 = .ok (.iload_n 2, 1) := by decide +kernel
theorem d_M_is_475 : decode b_M_is 475 = .ok (.iload_n 3, 1) := by decide +kernel
theorem d_M_is_476 : decode b_M_is 476 = .ok (.invokevirtual 513, 3) := by decide +kernel
theorem d_M_is_479 : decode b_M_is 479 = .ok (.ireturn, 1) := by decide +kernel
theorem d_M_is_480 : decode b_M_is 480 = .ok (.aload_n 0, 1) := by decide +kernel
theorem d_M_is_481 : decode b_M_is 481 = .ok (.bipush 75, 2) := by decide +kernel
theorem d_M_is_483 : decode b_M_is 483 = .ok (.iload_n 2, 1) := by decide +kernel
theorem d_M_is_484 : decode b_M_is 484 = .ok (.iload_n 3, 1) := by decide +kernel
theorem d_M_is_485 : decode b_M_is 485 = .ok (.invokevirtual 513, 3) := by decide +kernel
theorem d_M_is_488 : decode b_M_is 488 = .ok (.ireturn, 1) := by decide +kernel
theorem d_M_is_489 : decode b_M_is 489 = .ok (.aload_n 0, 1) := by decide +kernel
theorem d_M_is_490 : decode b_M_is 490 = .ok (.bipush 112, 2) := by decide +kernel
theorem d_M_is_492 : decode b_M_is 492 = .ok (.iload_n 2, 1) := by decide +kernel
theorem d_M_is_493 : decode b_M_is 493 = .ok (.iload_n 3, 1) := by decide +kernel
theorem d_M_is_494 : decode b_M_is 494 = .ok (.invokevirtual 513, 3) := by decide +kernel
theorem d_M_is_497 : decode b_M_is 497 = .ok (.ireturn, 1) := by decide +kernel
theorem d_M_is_498 : decode b_M_is 498 = .ok (.aload_n 0, 1) := by decide +kernel
theorem d_M_is_499 : decode b_M_is 499 = .ok (.ldc_w 526, 3) := by decide +kernel
theorem d_M_is_502 : decode b_M_is 502 = .ok (.iload_n 2, 1) := by decide +kernel
theorem d_M_is_503 : decode b_M_is 503 = .ok (.iload_n 3, 1) := by decide +kernel
theorem d_M_is_504 : decode b_M_is 504 = .ok (.iconst (-1), 1) := by decide +kernel
theorem d_M_is_505 : decode b_M_is 505 = .ok (.invokevirtual 487, 3) := by decide +kernel
theorem d_M_is_508 : decode b_M_is 508 = .ok (.ireturn, 1) := by decide +kernel
theorem d_M_is_509 : decode b_M_is 509 = .ok (.aload_n 0, 1) := by decide +kernel
theorem d_M_is_510 : decode b_M_is 510 = .ok (.bipush 105, 2) := by decide +kernel
theorem d_M_is_512 : decode b_M_is 512 = .ok (.iload_n 2, 1) := by decide +kernel
theorem d_M_is_513 : decode b_M_is 513 = .ok (.iload_n 3, 1) := by decide +kernel
theorem d_M_is_514 : decode b_M_is 514 = .ok (.invokevirtual 513, 3) := by decide +kernel
theorem d_M_is_517 : decode b_M_is 517 = .ok (.ireturn, 1) := by decide +kernel
theorem d_M_is_518 : decode b_M_is 518 = .ok (.aload_n 0, 1) := by decide +kernel
theorem d_M_is_519 : decode b_M_is 519 = .ok (.bipush 84, 2) := by decide +kernel
theorem d_M_is_521 : decode b_M_is 521 = .ok (.iload_n 2, 1) := by decide +kernel
theorem d_M_is_522 : decode b_M_is 522 = .ok (.iload_n 3, 1) := by decide +kernel
theorem d_M_is_523 : decode b_M_is 523 = .ok (.invokevirtual 513, 3) := by decide +kernel
theorem d_M_is_526 : decode b_M_is 526 = .ok (.ireturn, 1) := by decide +kernel
theorem d_M_is_527 : decode b_M_is 527 = .ok (.aload_n 0, 1) := by decide +kernel
theorem d_M_is_528 : decode b_M_is 528 = .ok (.ldc_w 528, 3) := by decide +kernel
theorem d_M_is_531 : decode b_M_is 531 = .ok (.iload_n 2, 1) := by decide +kernel
theorem d_M_is_532 : decode b_M_is 532 = .ok (.iload_n 3, 1) := by decide +kernel
theorem d_M_is_533 : decode b_M_is 533 = .ok (.iconst (-1), 1) := by decide +kernel
theorem d_M_is_534 : decode b_M_is 534 = .ok (.invokevirtual 487, 3) := by decide +kernel
theorem d_M_is_537 : decode b_M_is 537 = .ok (.ireturn, 1) := by decide +kernel
theorem d_M_is_538 : decode b_M_is 538 = .ok (.aload_n 0, 1) := by decide +kernel
theorem d_M_is_539 : decode b_M_is 539 = .ok (.bipush 73, 2) := by decide +kernel
theorem d_M_is_541 : decode b_M_is 541 = .ok (.iload_n 2, 1) := by decide +kernel
theorem d_M_is_542 : decode b_M_is 542 = .ok (.iload_n 3, 1) := by decide +kernel
theorem d_M_is_543 : decode b_M_is 543 = .ok (.invokevirtual 513, 3) := by decide +kernel
theorem d_M_is_546 : decode b_M_is 546 = .ok (.ireturn, 1) := by decide +kernel
theorem d_M_is_547 : decode b_M_is 547 = .ok (.aload_n 0, 1) := by decide +kernel
theorem d_M_is_548 : decode b_M_is 548 = .ok (.ldc_w 530, 3) := by decide +kernel
theorem d_M_is_551 : decode b_M_is 551 = .ok (.iload_n 2, 1) := by decide +kernel
theorem d_M_is_552 : decode b_M_is 552 = .ok (.iload_n 3, 1) := by decide +kernel
theorem d_M_is_553 : decode b_M_is 553 = .ok (.iconst (-1), 1) := by decide +kernel
theorem d_M_is_554 : decode b_M_is 554 = .ok (.invokevirtual 487, 3) := by decide +kernel
theorem d_M_is_557 : decode b_M_is 557 = .ok (.ireturn, 1) := by decide +kernel
theorem d_M_is_558 : decode b_M_is 558 = .ok (.aload_n 0, 1) := by decide +kernel
theorem d_M_is_559 : decode b_M_is 559 = .ok (.bipush 108, 2) := by decide +kernel
theorem d_M_is_561 : decode b_M_is 561 = .ok (.iload_n 2, 1) := by decide +kernel
theorem d_M_is_562 : decode b_M_is 562 = .ok (.iload_n 3, 1) := by decide +kernel
theorem d_M_is_563 : decode b_M_is 563 = .ok (.invokevirtual 513, 3) := by decide +kernel
theorem d_M_is_566 : decode b_M_is 566 = .ok (.ireturn, 1) := by decide +kernel
theorem d_M_is_567 : decode b_M_is 567 = .ok (.aload_n 0, 1) := by decide +kernel
theorem d_M_is_568 : decode b_M_is 568 = .ok (.ldc_w 532, 3) := by decide +kernel
theorem d_M_is_571 : decode b_M_is 571 = .ok (.iload_n 2, 1) := by decide +kernel
theorem d_M_is_572 : decode b_M_is 572 = .ok (.iload_n 3, 1) := by decide +kernel
theorem d_M_is_573 : decode b_M_is 573 = .ok (.iconst (-1), 1) := by decide +kernel
theorem d_M_is_574 : decode b_M_is 574 = .ok (.invokevirtual 487, 3) := by decide +kernel
theorem d_M_is_577 : decode b_M_is 577 = .ok (.ireturn, 1) := by decide +kernel
theorem d_M_is_578 : decode b_M_is 578 = .ok (.aload_n 0, 1) := by decide +kernel
theorem d_M_is_579 : decode b_M_is 579 = .ok (.ldc_w 534, 3) := by decide +kernel
theorem d_M_is_582 : decode b_M_is 582 = .ok (.iload_n 2, 1) := by decide +kernel
theorem d_M_is_583 : decode b_M_is 583 = .ok (.iload_n 3, 1) := by decide +kernel
theorem d_M_is_584 : decode b_M_is 584 = .ok (.iconst (-1), 1) := by decide +kernel
theorem d_M_is_585 : decode b_M_is 585 = .ok (.invokevirtual 487, 3) := by decide +kernel
theorem d_M_is_588 : decode b_M_is 588 = .ok (.ireturn, 1) := by decide +kernel
abbrev b_M_row : ByteArray := prog_14_method_46_code
def y_M_row : MethodName := ⟨R_M, "row", "(CII)Z"⟩
abbrev k_M_row : Cond := .code y_M_row b_M_row 7 (some .boolean)
theorem ki_M_row : k_M_row ∈ lw_tg := in_t 2411 (by decide +kernel)
theorem ks_M_row : Cond.instanceMethod y_M_row ∈ lw_tg := in_t 2410 (by decide +kernel)
theorem kx_M_row : Cond.selects R_M y_M_row y_M_row ∈ lw_tg := List.mem_filter.mpr ⟨List.mem_append_left _ (List.mem_of_getElem? (i := 102) (by decide +kernel)), rfl⟩
theorem kl_M_row : Cond.methodLink R_M 513 y_M_row ∈ lw_tg := in_t 2408 (by decide +kernel)
theorem hd_M_row : y_M_row.cls = R_M ∧ y_M_row.cls ≠ "java/lang/invoke/MethodHandle" ∧ y_M_row.cls ≠ "java/lang/invoke/VarHandle" ∧ (parseMethodDescriptor y_M_row.desc).map (fun d => d.parameters.length) = some 3 := by decide +kernel
theorem d_M_row_0 : decode b_M_row 0 = .ok (.aload_n 0, 1) := by decide +kernel
theorem d_M_row_1 : decode b_M_row 1 = .ok (.iload_n 2, 1) := by decide +kernel
theorem d_M_row_2 : decode b_M_row 2 = .ok (.iload_n 3, 1) := by decide +kernel
theorem d_M_row_3 : decode b_M_row 3 = .ok (.bipush 48, 2) := by decide +kernel
theorem d_M_row_5 : decode b_M_row 5 = .ok (.invokevirtual 480, 3) := by decide +kernel
theorem d_M_row_8 : decode b_M_row 8 = .ok (.ifCond .ne 5, 3) := by decide +kernel
theorem d_M_row_11 : decode b_M_row 11 = .ok (.iconst 0, 1) := by decide +kernel
theorem d_M_row_12 : decode b_M_row 12 = .ok (.ireturn, 1) := by decide +kernel
theorem d_M_row_13 : decode b_M_row 13 = .ok (.aload_n 0, 1) := by decide +kernel
theorem d_M_row_14 : decode b_M_row 14 = .ok (.getfield 470, 3) := by decide +kernel
theorem d_M_row_17 : decode b_M_row 17 = .ok (.istore 4, 2) := by decide +kernel
theorem d_M_row_19 : decode b_M_row 19 = .ok (.iconst 0, 1) := by decide +kernel
theorem d_M_row_20 : decode b_M_row 20 = .ok (.istore 5, 2) := by decide +kernel
theorem d_M_row_22 : decode b_M_row 22 = .ok (.iload 4, 2) := by decide +kernel
theorem d_M_row_24 : decode b_M_row 24 = .ok (.iload_n 3, 1) := by decide +kernel
theorem d_M_row_25 : decode b_M_row 25 = .ok (.if_icmp .ge 71, 3) := by decide +kernel
theorem d_M_row_28 : decode b_M_row 28 = .ok (.iload 5, 2) := by decide +kernel
theorem d_M_row_30 : decode b_M_row 30 = .ok (.bipush 16, 2) := by decide +kernel
theorem d_M_row_32 : decode b_M_row 32 = .ok (.if_icmp .eq 32, 3) := by decide +kernel
theorem d_M_row_35 : decode b_M_row 35 = .ok (.iload 4, 2) := by decide +kernel
theorem d_M_row_37 : decode b_M_row 37 = .ok (.iconst 2, 1) := by decide +kernel
theorem d_M_row_38 : decode b_M_row 38 = .ok (.iadd, 1) := by decide +kernel
theorem d_M_row_39 : decode b_M_row 39 = .ok (.iload_n 3, 1) := by decide +kernel
theorem d_M_row_40 : decode b_M_row 40 = .ok (.if_icmp .gt 24, 3) := by decide +kernel
theorem d_M_row_43 : decode b_M_row 43 = .ok (.aload_n 0, 1) := by decide +kernel
theorem d_M_row_44 : decode b_M_row 44 = .ok (.iload 4, 2) := by decide +kernel
theorem d_M_row_46 : decode b_M_row 46 = .ok (.iload_n 3, 1) := by decide +kernel
theorem d_M_row_47 : decode b_M_row 47 = .ok (.aload_n 0, 1) := by decide +kernel
theorem d_M_row_48 : decode b_M_row 48 = .ok (.getfield 10, 3) := by decide +kernel
theorem d_M_row_51 : decode b_M_row 51 = .ok (.iload 4, 2) := by decide +kernel
theorem d_M_row_53 : decode b_M_row 53 = .ok (.baload, 1) := by decide +kernel
theorem d_M_row_54 : decode b_M_row 54 = .ok (.sipush 255, 3) := by decide +kernel
theorem d_M_row_57 : decode b_M_row 57 = .ok (.iand, 1) := by decide +kernel
theorem d_M_row_58 : decode b_M_row 58 = .ok (.invokevirtual 476, 3) := by decide +kernel
theorem d_M_row_61 : decode b_M_row 61 = .ok (.ifCond .ne 5, 3) := by decide +kernel
theorem d_M_row_64 : decode b_M_row 64 = .ok (.iconst 0, 1) := by decide +kernel
theorem d_M_row_65 : decode b_M_row 65 = .ok (.ireturn, 1) := by decide +kernel
theorem d_M_row_66 : decode b_M_row 66 = .ok (.aload_n 0, 1) := by decide +kernel
theorem d_M_row_67 : decode b_M_row 67 = .ok (.getfield 473, 3) := by decide +kernel
theorem d_M_row_70 : decode b_M_row 70 = .ok (.istore 6, 2) := by decide +kernel
theorem d_M_row_72 : decode b_M_row 72 = .ok (.aload_n 0, 1) := by decide +kernel
theorem d_M_row_73 : decode b_M_row 73 = .ok (.iload_n 1, 1) := by decide +kernel
theorem d_M_row_74 : decode b_M_row 74 = .ok (.iload 4, 2) := by decide +kernel
theorem d_M_row_76 : decode b_M_row 76 = .ok (.iload 6, 2) := by decide +kernel
theorem d_M_row_78 : decode b_M_row 78 = .ok (.invokevirtual 483, 3) := by decide +kernel
theorem d_M_row_81 : decode b_M_row 81 = .ok (.ifCond .ne 5, 3) := by decide +kernel
theorem d_M_row_84 : decode b_M_row 84 = .ok (.iconst 0, 1) := by decide +kernel
theorem d_M_row_85 : decode b_M_row 85 = .ok (.ireturn, 1) := by decide +kernel
theorem d_M_row_86 : decode b_M_row 86 = .ok (.iload 6, 2) := by decide +kernel
theorem d_M_row_88 : decode b_M_row 88 = .ok (.istore 4, 2) := by decide +kernel
theorem d_M_row_90 : decode b_M_row 90 = .ok (.iinc 5 1, 3) := by decide +kernel
theorem d_M_row_93 : decode b_M_row 93 = .ok (.goto (-71), 3) := by decide +kernel
theorem d_M_row_96 : decode b_M_row 96 = .ok (.iconst 1, 1) := by decide +kernel
theorem d_M_row_97 : decode b_M_row 97 = .ok (.ireturn, 1) := by decide +kernel
abbrev b_M_has : ByteArray := prog_14_method_47_code
def y_M_has : MethodName := ⟨R_M, "has", "(II)Z"⟩
abbrev k_M_has : Cond := .code y_M_has b_M_has 3 (some .boolean)
theorem ki_M_has : k_M_has ∈ lw_tg := in_t 2440 (by decide +kernel)
theorem ks_M_has : Cond.instanceMethod y_M_has ∈ lw_tg := in_t 2439 (by decide +kernel)
theorem kx_M_has : Cond.selects R_M y_M_has y_M_has ∈ lw_tg := List.mem_filter.mpr ⟨List.mem_append_left _ (List.mem_of_getElem? (i := 106) (by decide +kernel)), rfl⟩
theorem kl_M_has : Cond.methodLink R_M 675 y_M_has ∈ lw_tg := in_t 2437 (by decide +kernel)
theorem hd_M_has : y_M_has.cls = R_M ∧ y_M_has.cls ≠ "java/lang/invoke/MethodHandle" ∧ y_M_has.cls ≠ "java/lang/invoke/VarHandle" ∧ (parseMethodDescriptor y_M_has.desc).map (fun d => d.parameters.length) = some 2 := by decide +kernel
theorem d_M_has_0 : decode b_M_has 0 = .ok (.aload_n 0, 1) := by decide +kernel
theorem d_M_has_1 : decode b_M_has 1 = .ok (.getfield 95, 3) := by decide +kernel
theorem d_M_has_4 : decode b_M_has 4 = .ok (.bipush 16, 2) := by decide +kernel
theorem d_M_has_6 : decode b_M_has 6 = .ok (.iload_n 1, 1) := by decide +kernel
theorem d_M_has_7 : decode b_M_has 7 = .ok (.imul, 1) := by decide +kernel
theorem d_M_has_8 : decode b_M_has 8 = .ok (.iload_n 2, 1) := by decide +kernel
theorem d_M_has_9 : decode b_M_has 9 = .ok (.iadd, 1) := by decide +kernel
theorem d_M_has_10 : decode b_M_has 10 = .ok (.iaload, 1) := by decide +kernel
theorem d_M_has_11 : decode b_M_has 11 = .ok (.ifCond .lt 7, 3) := by decide +kernel
theorem d_M_has_14 : decode b_M_has 14 = .ok (.iconst 1, 1) := by decide +kernel
theorem d_M_has_15 : decode b_M_has 15 = .ok (.goto 4, 3) := by decide +kernel
theorem d_M_has_18 : decode b_M_has 18 = .ok (.iconst 0, 1) := by decide +kernel
theorem d_M_has_19 : decode b_M_has 19 = .ok (.ireturn, 1) := by decide +kernel
abbrev b_M_a : ByteArray := prog_14_method_48_code
def y_M_a : MethodName := ⟨R_M, "a", "(II)I"⟩
abbrev k_M_a : Cond := .code y_M_a b_M_a 3 (some .int)
theorem ki_M_a : k_M_a ∈ lw_tg := in_t 2423 (by decide +kernel)
theorem ks_M_a : Cond.instanceMethod y_M_a ∈ lw_tg := in_t 2422 (by decide +kernel)
theorem kx_M_a : Cond.selects R_M y_M_a y_M_a ∈ lw_tg := List.mem_filter.mpr ⟨List.mem_append_left _ (List.mem_of_getElem? (i := 103) (by decide +kernel)), rfl⟩
theorem kl_M_a : Cond.methodLink R_M 536 y_M_a ∈ lw_tg := in_t 2420 (by decide +kernel)
theorem hd_M_a : y_M_a.cls = R_M ∧ y_M_a.cls ≠ "java/lang/invoke/MethodHandle" ∧ y_M_a.cls ≠ "java/lang/invoke/VarHandle" ∧ (parseMethodDescriptor y_M_a.desc).map (fun d => d.parameters.length) = some 2 := by decide +kernel
theorem d_M_a_0 : decode b_M_a 0 = .ok (.aload_n 0, 1) := by decide +kernel
theorem d_M_a_1 : decode b_M_a 1 = .ok (.getfield 95, 3) := by decide +kernel
theorem d_M_a_4 : decode b_M_a 4 = .ok (.bipush 16, 2) := by decide +kernel
theorem d_M_a_6 : decode b_M_a 6 = .ok (.iload_n 1, 1) := by decide +kernel
theorem d_M_a_7 : decode b_M_a 7 = .ok (.imul, 1) := by decide +kernel
theorem d_M_a_8 : decode b_M_a 8 = .ok (.iload_n 2, 1) := by decide +kernel
theorem d_M_a_9 : decode b_M_a 9 = .ok (.iadd, 1) := by decide +kernel
theorem d_M_a_10 : decode b_M_a 10 = .ok (.iaload, 1) := by decide +kernel
theorem d_M_a_11 : decode b_M_a 11 = .ok (.ireturn, 1) := by decide +kernel
abbrev b_M_b : ByteArray := prog_14_method_49_code
def y_M_b : MethodName := ⟨R_M, "b", "(II)I"⟩
abbrev k_M_b : Cond := .code y_M_b b_M_b 3 (some .int)
theorem ki_M_b : k_M_b ∈ lw_tg := in_t 2427 (by decide +kernel)
theorem ks_M_b : Cond.instanceMethod y_M_b ∈ lw_tg := in_t 2426 (by decide +kernel)
theorem kx_M_b : Cond.selects R_M y_M_b y_M_b ∈ lw_tg := List.mem_filter.mpr ⟨List.mem_append_left _ (List.mem_of_getElem? (i := 104) (by decide +kernel)), rfl⟩
theorem kl_M_b : Cond.methodLink R_M 539 y_M_b ∈ lw_tg := in_t 2424 (by decide +kernel)
theorem hd_M_b : y_M_b.cls = R_M ∧ y_M_b.cls ≠ "java/lang/invoke/MethodHandle" ∧ y_M_b.cls ≠ "java/lang/invoke/VarHandle" ∧ (parseMethodDescriptor y_M_b.desc).map (fun d => d.parameters.length) = some 2 := by decide +kernel
theorem d_M_b_0 : decode b_M_b 0 = .ok (.aload_n 0, 1) := by decide +kernel
theorem d_M_b_1 : decode b_M_b 1 = .ok (.getfield 98, 3) := by decide +kernel
theorem d_M_b_4 : decode b_M_b 4 = .ok (.bipush 16, 2) := by decide +kernel
theorem d_M_b_6 : decode b_M_b 6 = .ok (.iload_n 1, 1) := by decide +kernel
theorem d_M_b_7 : decode b_M_b 7 = .ok (.imul, 1) := by decide +kernel
theorem d_M_b_8 : decode b_M_b 8 = .ok (.iload_n 2, 1) := by decide +kernel
theorem d_M_b_9 : decode b_M_b 9 = .ok (.iadd, 1) := by decide +kernel
theorem d_M_b_10 : decode b_M_b 10 = .ok (.iaload, 1) := by decide +kernel
theorem d_M_b_11 : decode b_M_b 11 = .ok (.ireturn, 1) := by decide +kernel
abbrev b_M_numberAt : ByteArray := prog_14_method_50_code
def y_M_numberAt : MethodName := ⟨R_M, "numberAt", "(II)J"⟩
abbrev k_M_numberAt : Cond := .code y_M_numberAt b_M_numberAt 3 (some .long)
theorem ki_M_numberAt : k_M_numberAt ∈ lw_tg := in_t 2431 (by decide +kernel)
theorem ks_M_numberAt : Cond.instanceMethod y_M_numberAt ∈ lw_tg := in_t 2430 (by decide +kernel)
theorem kx_M_numberAt : Cond.selects R_M y_M_numberAt y_M_numberAt ∈ lw_tg := List.mem_filter.mpr ⟨List.mem_append_left _ (List.mem_of_getElem? (i := 105) (by decide +kernel)), rfl⟩
theorem kl_M_numberAt : Cond.methodLink R_M 665 y_M_numberAt ∈ lw_tg := in_t 2428 (by decide +kernel)
theorem hd_M_numberAt : y_M_numberAt.cls = R_M ∧ y_M_numberAt.cls ≠ "java/lang/invoke/MethodHandle" ∧ y_M_numberAt.cls ≠ "java/lang/invoke/VarHandle" ∧ (parseMethodDescriptor y_M_numberAt.desc).map (fun d => d.parameters.length) = some 2 := by decide +kernel
theorem d_M_numberAt_0 : decode b_M_numberAt 0 = .ok (.aload_n 0, 1) := by decide +kernel
theorem d_M_numberAt_1 : decode b_M_numberAt 1 = .ok (.aload_n 0, 1) := by decide +kernel
theorem d_M_numberAt_2 : decode b_M_numberAt 2 = .ok (.iload_n 1, 1) := by decide +kernel
theorem d_M_numberAt_3 : decode b_M_numberAt 3 = .ok (.iload_n 2, 1) := by decide +kernel
theorem d_M_numberAt_4 : decode b_M_numberAt 4 = .ok (.invokevirtual 536, 3) := by decide +kernel
theorem d_M_numberAt_7 : decode b_M_numberAt 7 = .ok (.aload_n 0, 1) := by decide +kernel
theorem d_M_numberAt_8 : decode b_M_numberAt 8 = .ok (.iload_n 1, 1) := by decide +kernel
theorem d_M_numberAt_9 : decode b_M_numberAt 9 = .ok (.iload_n 2, 1) := by decide +kernel
theorem d_M_numberAt_10 : decode b_M_numberAt 10 = .ok (.invokevirtual 539, 3) := by decide +kernel
theorem d_M_numberAt_13 : decode b_M_numberAt 13 = .ok (.ldc2_w 542, 3) := by decide +kernel
theorem d_M_numberAt_16 : decode b_M_numberAt 16 = .ok (.ldc2_w 544, 3) := by decide +kernel
theorem d_M_numberAt_19 : decode b_M_numberAt 19 = .ok (.invokevirtual 499, 3) := by decide +kernel
theorem d_M_numberAt_22 : decode b_M_numberAt 22 = .ok (.pop, 1) := by decide +kernel
theorem d_M_numberAt_23 : decode b_M_numberAt 23 = .ok (.aload_n 0, 1) := by decide +kernel
theorem d_M_numberAt_24 : decode b_M_numberAt 24 = .ok (.getfield 491, 3) := by decide +kernel
theorem d_M_numberAt_27 : decode b_M_numberAt 27 = .ok (.lreturn, 1) := by decide +kernel
abbrev b_M_timeOf : ByteArray := prog_14_method_51_code
def y_M_timeOf : MethodName := ⟨R_M, "timeOf", "(II)J"⟩
abbrev k_M_timeOf : Cond := .code y_M_timeOf b_M_timeOf 3 (some .long)
theorem ki_M_timeOf : k_M_timeOf ∈ lw_tg := in_t 2487 (by decide +kernel)
theorem ks_M_timeOf : Cond.instanceMethod y_M_timeOf ∈ lw_tg := in_t 2486 (by decide +kernel)
theorem kx_M_timeOf : Cond.selects R_M y_M_timeOf y_M_timeOf ∈ lw_tg := List.mem_filter.mpr ⟨List.mem_append_left _ (List.mem_of_getElem? (i := 117) (by decide +kernel)), rfl⟩
theorem kl_M_timeOf : Cond.methodLink R_M 731 y_M_timeOf ∈ lw_tg := in_t 2484 (by decide +kernel)
theorem hd_M_timeOf : y_M_timeOf.cls = R_M ∧ y_M_timeOf.cls ≠ "java/lang/invoke/MethodHandle" ∧ y_M_timeOf.cls ≠ "java/lang/invoke/VarHandle" ∧ (parseMethodDescriptor y_M_timeOf.desc).map (fun d => d.parameters.length) = some 2 := by decide +kernel
theorem d_M_timeOf_0 : decode b_M_timeOf 0 = .ok (.aload_n 0, 1) := by decide +kernel
theorem d_M_timeOf_1 : decode b_M_timeOf 1 = .ok (.aload_n 0, 1) := by decide +kernel
theorem d_M_timeOf_2 : decode b_M_timeOf 2 = .ok (.iload_n 1, 1) := by decide +kernel
theorem d_M_timeOf_3 : decode b_M_timeOf 3 = .ok (.iload_n 2, 1) := by decide +kernel
theorem d_M_timeOf_4 : decode b_M_timeOf 4 = .ok (.invokevirtual 536, 3) := by decide +kernel
theorem d_M_timeOf_7 : decode b_M_timeOf 7 = .ok (.aload_n 0, 1) := by decide +kernel
theorem d_M_timeOf_8 : decode b_M_timeOf 8 = .ok (.iload_n 1, 1) := by decide +kernel
theorem d_M_timeOf_9 : decode b_M_timeOf 9 = .ok (.iload_n 2, 1) := by decide +kernel
theorem d_M_timeOf_10 : decode b_M_timeOf 10 = .ok (.invokevirtual 539, 3) := by decide +kernel
theorem d_M_timeOf_13 : decode b_M_timeOf 13 = .ok (.bipush 24, 2) := by decide +kernel
theorem d_M_timeOf_15 : decode b_M_timeOf 15 = .ok (.invokevirtual 476, 3) := by decide +kernel
theorem d_M_timeOf_18 : decode b_M_timeOf 18 = .ok (.pop, 1) := by decide +kernel
theorem d_M_timeOf_19 : decode b_M_timeOf 19 = .ok (.aload_n 0, 1) := by decide +kernel
theorem d_M_timeOf_20 : decode b_M_timeOf 20 = .ok (.aload_n 0, 1) := by decide +kernel
theorem d_M_timeOf_21 : decode b_M_timeOf 21 = .ok (.getfield 470, 3) := by decide +kernel
theorem d_M_timeOf_24 : decode b_M_timeOf 24 = .ok (.invokevirtual 507, 3) := by decide +kernel
theorem d_M_timeOf_27 : decode b_M_timeOf 27 = .ok (.lreturn, 1) := by decide +kernel
abbrev b_M_flagsAt : ByteArray := prog_14_method_52_code
def y_M_flagsAt : MethodName := ⟨R_M, "flagsAt", "(II)I"⟩
abbrev k_M_flagsAt : Cond := .code y_M_flagsAt b_M_flagsAt 4 (some .int)
theorem ki_M_flagsAt : k_M_flagsAt ∈ lw_tg := in_t 2479 (by decide +kernel)
theorem ks_M_flagsAt : Cond.instanceMethod y_M_flagsAt ∈ lw_tg := in_t 2478 (by decide +kernel)
theorem kx_M_flagsAt : Cond.selects R_M y_M_flagsAt y_M_flagsAt ∈ lw_tg := List.mem_filter.mpr ⟨List.mem_append_left _ (List.mem_of_getElem? (i := 115) (by decide +kernel)), rfl⟩
theorem kl_M_flagsAt : Cond.methodLink R_M 704 y_M_flagsAt ∈ lw_tg := in_t 2476 (by decide +kernel)
theorem hd_M_flagsAt : y_M_flagsAt.cls = R_M ∧ y_M_flagsAt.cls ≠ "java/lang/invoke/MethodHandle" ∧ y_M_flagsAt.cls ≠ "java/lang/invoke/VarHandle" ∧ (parseMethodDescriptor y_M_flagsAt.desc).map (fun d => d.parameters.length) = some 2 := by decide +kernel
theorem d_M_flagsAt_0 : decode b_M_flagsAt 0 = .ok (.aload_n 0, 1) := by decide +kernel
theorem d_M_flagsAt_1 : decode b_M_flagsAt 1 = .ok (.aload_n 0, 1) := by decide +kernel
theorem d_M_flagsAt_2 : decode b_M_flagsAt 2 = .ok (.iload_n 1, 1) := by decide +kernel
theorem d_M_flagsAt_3 : decode b_M_flagsAt 3 = .ok (.iload_n 2, 1) := by decide +kernel
theorem d_M_flagsAt_4 : decode b_M_flagsAt 4 = .ok (.invokevirtual 536, 3) := by decide +kernel
theorem d_M_flagsAt_7 : decode b_M_flagsAt 7 = .ok (.aload_n 0, 1) := by decide +kernel
theorem d_M_flagsAt_8 : decode b_M_flagsAt 8 = .ok (.iload_n 1, 1) := by decide +kernel
theorem d_M_flagsAt_9 : decode b_M_flagsAt 9 = .ok (.iload_n 2, 1) := by decide +kernel
theorem d_M_flagsAt_10 : decode b_M_flagsAt 10 = .ok (.invokevirtual 539, 3) := by decide +kernel
theorem d_M_flagsAt_13 : decode b_M_flagsAt 13 = .ok (.iconst 3, 1) := by decide +kernel
theorem d_M_flagsAt_14 : decode b_M_flagsAt 14 = .ok (.invokevirtual 476, 3) := by decide +kernel
theorem d_M_flagsAt_17 : decode b_M_flagsAt 17 = .ok (.pop, 1) := by decide +kernel
theorem d_M_flagsAt_18 : decode b_M_flagsAt 18 = .ok (.aload_n 0, 1) := by decide +kernel
theorem d_M_flagsAt_19 : decode b_M_flagsAt 19 = .ok (.getfield 470, 3) := by decide +kernel
theorem d_M_flagsAt_22 : decode b_M_flagsAt 22 = .ok (.iconst 1, 1) := by decide +kernel
theorem d_M_flagsAt_23 : decode b_M_flagsAt 23 = .ok (.iadd, 1) := by decide +kernel
theorem d_M_flagsAt_24 : decode b_M_flagsAt 24 = .ok (.istore_n 3, 1) := by decide +kernel
theorem d_M_flagsAt_25 : decode b_M_flagsAt 25 = .ok (.aload_n 0, 1) := by decide +kernel
theorem d_M_flagsAt_26 : decode b_M_flagsAt 26 = .ok (.getfield 10, 3) := by decide +kernel
theorem d_M_flagsAt_29 : decode b_M_flagsAt 29 = .ok (.iload_n 3, 1) := by decide +kernel
theorem d_M_flagsAt_30 : decode b_M_flagsAt 30 = .ok (.baload, 1) := by decide +kernel
theorem d_M_flagsAt_31 : decode b_M_flagsAt 31 = .ok (.sipush 255, 3) := by decide +kernel
theorem d_M_flagsAt_34 : decode b_M_flagsAt 34 = .ok (.iand, 1) := by decide +kernel
theorem d_M_flagsAt_35 : decode b_M_flagsAt 35 = .ok (.bipush 24, 2) := by decide +kernel
theorem d_M_flagsAt_37 : decode b_M_flagsAt 37 = .ok (.ishl, 1) := by decide +kernel
theorem d_M_flagsAt_38 : decode b_M_flagsAt 38 = .ok (.aload_n 0, 1) := by decide +kernel
theorem d_M_flagsAt_39 : decode b_M_flagsAt 39 = .ok (.getfield 10, 3) := by decide +kernel
theorem d_M_flagsAt_42 : decode b_M_flagsAt 42 = .ok (.iload_n 3, 1) := by decide +kernel
theorem d_M_flagsAt_43 : decode b_M_flagsAt 43 = .ok (.iconst 1, 1) := by decide +kernel
theorem d_M_flagsAt_44 : decode b_M_flagsAt 44 = .ok (.iadd, 1) := by decide +kernel
theorem d_M_flagsAt_45 : decode b_M_flagsAt 45 = .ok (.baload, 1) := by decide +kernel
theorem d_M_flagsAt_46 : decode b_M_flagsAt 46 = .ok (.sipush 255, 3) := by decide +kernel
theorem d_M_flagsAt_49 : decode b_M_flagsAt 49 = .ok (.iand, 1) := by decide +kernel
theorem d_M_flagsAt_50 : decode b_M_flagsAt 50 = .ok (.bipush 16, 2) := by decide +kernel
theorem d_M_flagsAt_52 : decode b_M_flagsAt 52 = .ok (.ishl, 1) := by decide +kernel
theorem d_M_flagsAt_53 : decode b_M_flagsAt 53 = .ok (.ior, 1) := by decide +kernel
theorem d_M_flagsAt_54 : decode b_M_flagsAt 54 = .ok (.aload_n 0, 1) := by decide +kernel
theorem d_M_flagsAt_55 : decode b_M_flagsAt 55 = .ok (.getfield 10, 3) := by decide +kernel
theorem d_M_flagsAt_58 : decode b_M_flagsAt 58 = .ok (.iload_n 3, 1) := by decide +kernel
theorem d_M_flagsAt_59 : decode b_M_flagsAt 59 = .ok (.iconst 2, 1) := by decide +kernel
theorem d_M_flagsAt_60 : decode b_M_flagsAt 60 = .ok (.iadd, 1) := by decide +kernel
theorem d_M_flagsAt_61 : decode b_M_flagsAt 61 = .ok (.baload, 1) := by decide +kernel
theorem d_M_flagsAt_62 : decode b_M_flagsAt 62 = .ok (.sipush 255, 3) := by decide +kernel
theorem d_M_flagsAt_65 : decode b_M_flagsAt 65 = .ok (.iand, 1) := by decide +kernel
theorem d_M_flagsAt_66 : decode b_M_flagsAt 66 = .ok (.bipush 8, 2) := by decide +kernel
theorem d_M_flagsAt_68 : decode b_M_flagsAt 68 = .ok (.ishl, 1) := by decide +kernel
theorem d_M_flagsAt_69 : decode b_M_flagsAt 69 = .ok (.ior, 1) := by decide +kernel
theorem d_M_flagsAt_70 : decode b_M_flagsAt 70 = .ok (.aload_n 0, 1) := by decide +kernel
theorem d_M_flagsAt_71 : decode b_M_flagsAt 71 = .ok (.getfield 10, 3) := by decide +kernel
theorem d_M_flagsAt_74 : decode b_M_flagsAt 74 = .ok (.iload_n 3, 1) := by decide +kernel
theorem d_M_flagsAt_75 : decode b_M_flagsAt 75 = .ok (.iconst 3, 1) := by decide +kernel
theorem d_M_flagsAt_76 : decode b_M_flagsAt 76 = .ok (.iadd, 1) := by decide +kernel
theorem d_M_flagsAt_77 : decode b_M_flagsAt 77 = .ok (.baload, 1) := by decide +kernel
theorem d_M_flagsAt_78 : decode b_M_flagsAt 78 = .ok (.sipush 255, 3) := by decide +kernel
theorem d_M_flagsAt_81 : decode b_M_flagsAt 81 = .ok (.iand, 1) := by decide +kernel
theorem d_M_flagsAt_82 : decode b_M_flagsAt 82 = .ok (.ior, 1) := by decide +kernel
theorem d_M_flagsAt_83 : decode b_M_flagsAt 83 = .ok (.ireturn, 1) := by decide +kernel
