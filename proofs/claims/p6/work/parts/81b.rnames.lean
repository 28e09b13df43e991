abbrev b_M_checksum : ByteArray := prog_14_method_35_code
def y_M_checksum : MethodName := ⟨R_M, "checksum", "([BIIII)V"⟩
abbrev k_M_checksum : Cond := .code y_M_checksum b_M_checksum 7 none
theorem ki_M_checksum : k_M_checksum ∈ lw_tg := in_t 2701 (by decide +kernel)
theorem ks_M_checksum : Cond.instanceMethod y_M_checksum ∈ lw_tg := in_t 2700 (by decide +kernel)
theorem kx_M_checksum : Cond.selects R_M y_M_checksum y_M_checksum ∈ lw_tg := List.mem_filter.mpr ⟨List.mem_append_left _ (List.mem_of_getElem? (i := 166) (by decide +kernel)), rfl⟩
theorem kl_M_checksum : Cond.methodLink R_M 812 y_M_checksum ∈ lw_tg := in_t 2698 (by decide +kernel)
theorem hd_M_checksum : y_M_checksum.cls = R_M ∧ y_M_checksum.cls ≠ "java/lang/invoke/MethodHandle" ∧ y_M_checksum.cls ≠ "java/lang/invoke/VarHandle" ∧ (parseMethodDescriptor y_M_checksum.desc).map (fun d => d.parameters.length) = some 5 := by decide +kernel
theorem d_M_checksum_0 : decode b_M_checksum 0 = .ok (.aload_n 0, 1) := by decide +kernel
theorem d_M_checksum_1 : decode b_M_checksum 1 = .ok (.aload_n 1, 1) := by decide +kernel
theorem d_M_checksum_2 : decode b_M_checksum 2 = .ok (.iload_n 2, 1) := by decide +kernel
theorem d_M_checksum_3 : decode b_M_checksum 3 = .ok (.invokestatic 438, 3) := by decide +kernel
theorem d_M_checksum_6 : decode b_M_checksum 6 = .ok (.iload_n 3, 1) := by decide +kernel
theorem d_M_checksum_7 : decode b_M_checksum 7 = .ok (.sipush 153, 3) := by decide +kernel
theorem d_M_checksum_10 : decode b_M_checksum 10 = .ok (.invokevirtual 443, 3) := by decide +kernel
theorem d_M_checksum_13 : decode b_M_checksum 13 = .ok (.aload_n 0, 1) := by decide +kernel
theorem d_M_checksum_14 : decode b_M_checksum 14 = .ok (.aload_n 0, 1) := by decide +kernel
theorem d_M_checksum_15 : decode b_M_checksum 15 = .ok (.getfield 68, 3) := by decide +kernel
theorem d_M_checksum_18 : decode b_M_checksum 18 = .ok (.iload_n 2, 1) := by decide +kernel
theorem d_M_checksum_19 : decode b_M_checksum 19 = .ok (.invokestatic 438, 3) := by decide +kernel
theorem d_M_checksum_22 : decode b_M_checksum 22 = .ok (.invokevirtual 421, 3) := by decide +kernel
theorem d_M_checksum_25 : decode b_M_checksum 25 = .ok (.aload_n 0, 1) := by decide +kernel
theorem d_M_checksum_26 : decode b_M_checksum 26 = .ok (.invokevirtual 423, 3) := by decide +kernel
theorem d_M_checksum_29 : decode b_M_checksum 29 = .ok (.iload 4, 2) := by decide +kernel
theorem d_M_checksum_31 : decode b_M_checksum 31 = .ok (.istore 6, 2) := by decide +kernel
theorem d_M_checksum_33 : decode b_M_checksum 33 = .ok (.iload 6, 2) := by decide +kernel
theorem d_M_checksum_35 : decode b_M_checksum 35 = .ok (.iload 5, 2) := by decide +kernel
theorem d_M_checksum_37 : decode b_M_checksum 37 = .ok (.if_icmp .ge 20, 3) := by decide +kernel
theorem d_M_checksum_40 : decode b_M_checksum 40 = .ok (.aload_n 0, 1) := by decide +kernel
theorem d_M_checksum_41 : decode b_M_checksum 41 = .ok (.aload_n 0, 1) := by decide +kernel
theorem d_M_checksum_42 : decode b_M_checksum 42 = .ok (.getfield 10, 3) := by decide +kernel
theorem d_M_checksum_45 : decode b_M_checksum 45 = .ok (.iload 6, 2) := by decide +kernel
theorem d_M_checksum_47 : decode b_M_checksum 47 = .ok (.baload, 1) := by decide +kernel
theorem d_M_checksum_48 : decode b_M_checksum 48 = .ok (.invokevirtual 370, 3) := by decide +kernel
theorem d_M_checksum_51 : decode b_M_checksum 51 = .ok (.iinc 6 1, 3) := by decide +kernel
theorem d_M_checksum_54 : decode b_M_checksum 54 = .ok (.goto (-21), 3) := by decide +kernel
theorem d_M_checksum_57 : decode b_M_checksum 57 = .ok (.aload_n 0, 1) := by decide +kernel
theorem d_M_checksum_58 : decode b_M_checksum 58 = .ok (.invokevirtual 429, 3) := by decide +kernel
theorem d_M_checksum_61 : decode b_M_checksum 61 = .ok (.return_, 1) := by decide +kernel
abbrev b_M_daysTo : ByteArray := prog_14_method_36_code
def y_M_daysTo : MethodName := ⟨R_M, "daysTo", "(I)I"⟩
abbrev k_M_daysTo : Cond := .code y_M_daysTo b_M_daysTo 3 (some .int)
theorem ki_M_daysTo : k_M_daysTo ∈ lw_tg := in_t 2403 (by decide +kernel)
theorem ks_M_daysTo : Cond.static y_M_daysTo ∈ lw_tg := in_t 2402 (by decide +kernel)
theorem kl_M_daysTo : Cond.methodLink R_M 461 y_M_daysTo ∈ lw_tg := in_t 2401 (by decide +kernel)
theorem hd_M_daysTo : y_M_daysTo.cls = R_M ∧ y_M_daysTo.cls ≠ "java/lang/invoke/MethodHandle" ∧ y_M_daysTo.cls ≠ "java/lang/invoke/VarHandle" ∧ (parseMethodDescriptor y_M_daysTo.desc).map (fun d => d.parameters.length) = some 1 := by decide +kernel
theorem d_M_daysTo_0 : decode b_M_daysTo 0 = .ok (.iconst 0, 1) := by decide +kernel
theorem d_M_daysTo_1 : decode b_M_daysTo 1 = .ok (.istore_n 1, 1) := by decide +kernel
theorem d_M_daysTo_2 : decode b_M_daysTo 2 = .ok (.sipush 1970, 3) := by decide +kernel
theorem d_M_daysTo_5 : decode b_M_daysTo 5 = .ok (.istore_n 2, 1) := by decide +kernel
theorem d_M_daysTo_6 : decode b_M_daysTo 6 = .ok (.iload_n 2, 1) := by decide +kernel
theorem d_M_daysTo_7 : decode b_M_daysTo 7 = .ok (.iload_n 0, 1) := by decide +kernel
theorem d_M_daysTo_8 : decode b_M_daysTo 8 = .ok (.if_icmp .ge 27, 3) := by decide +kernel
theorem d_M_daysTo_11 : decode b_M_daysTo 11 = .ok (.iload_n 1, 1) := by decide +kernel
theorem d_M_daysTo_12 : decode b_M_daysTo 12 = .ok (.iload_n 2, 1) := by decide +kernel
theorem d_M_daysTo_13 : decode b_M_daysTo 13 = .ok (.iconst 4, 1) := by decide +kernel
theorem d_M_daysTo_14 : decode b_M_daysTo 14 = .ok (.irem, 1) := by decide +kernel
theorem d_M_daysTo_15 : decode b_M_daysTo 15 = .ok (.ifCond .ne 9, 3) := by decide +kernel
theorem d_M_daysTo_18 : decode b_M_daysTo 18 = .ok (.sipush 366, 3) := by decide +kernel
theorem d_M_daysTo_21 : decode b_M_daysTo 21 = .ok (.goto 6, 3) := by decide +kernel
theorem d_M_daysTo_24 : decode b_M_daysTo 24 = .ok (.sipush 365, 3) := by decide +kernel
theorem d_M_daysTo_27 : decode b_M_daysTo 27 = .ok (.iadd, 1) := by decide +kernel
theorem d_M_daysTo_28 : decode b_M_daysTo 28 = .ok (.istore_n 1, 1) := by decide +kernel
theorem d_M_daysTo_29 : decode b_M_daysTo 29 = .ok (.iinc 2 1, 3) := by decide +kernel
theorem d_M_daysTo_32 : decode b_M_daysTo 32 = .ok (.goto (-26), 3) := by decide +kernel
theorem d_M_daysTo_35 : decode b_M_daysTo 35 = .ok (.iload_n 1, 1) := by decide +kernel
theorem d_M_daysTo_36 : decode b_M_daysTo 36 = .ok (.ireturn, 1) := by decide +kernel
abbrev b_M_daysOf : ByteArray := prog_14_method_37_code
def y_M_daysOf : MethodName := ⟨R_M, "daysOf", "(II)I"⟩
abbrev k_M_daysOf : Cond := .code y_M_daysOf b_M_daysOf 2 (some .int)
theorem ki_M_daysOf : k_M_daysOf ∈ lw_tg := in_t 2399 (by decide +kernel)
theorem ks_M_daysOf : Cond.static y_M_daysOf ∈ lw_tg := in_t 2398 (by decide +kernel)
theorem kl_M_daysOf : Cond.methodLink R_M 456 y_M_daysOf ∈ lw_tg := in_t 2397 (by decide +kernel)
theorem hd_M_daysOf : y_M_daysOf.cls = R_M ∧ y_M_daysOf.cls ≠ "java/lang/invoke/MethodHandle" ∧ y_M_daysOf.cls ≠ "java/lang/invoke/VarHandle" ∧ (parseMethodDescriptor y_M_daysOf.desc).map (fun d => d.parameters.length) = some 2 := by decide +kernel
theorem d_M_daysOf_0 : decode b_M_daysOf 0 = .ok (.iload_n 1, 1) := by decide +kernel
theorem d_M_daysOf_1 : decode b_M_daysOf 1 = .ok (.iconst 2, 1) := by decide +kernel
theorem d_M_daysOf_2 : decode b_M_daysOf 2 = .ok (.if_icmp .ne 19, 3) := by decide +kernel
theorem d_M_daysOf_5 : decode b_M_daysOf 5 = .ok (.iload_n 0, 1) := by decide +kernel
theorem d_M_daysOf_6 : decode b_M_daysOf 6 = .ok (.iconst 4, 1) := by decide +kernel
theorem d_M_daysOf_7 : decode b_M_daysOf 7 = .ok (.irem, 1) := by decide +kernel
theorem d_M_daysOf_8 : decode b_M_daysOf 8 = .ok (.ifCond .ne 8, 3) := by decide +kernel
theorem d_M_daysOf_11 : decode b_M_daysOf 11 = .ok (.bipush 29, 2) := by decide +kernel
theorem d_M_daysOf_13 : decode b_M_daysOf 13 = .ok (.goto 38, 3) := by decide +kernel
theorem d_M_daysOf_16 : decode b_M_daysOf 16 = .ok (.bipush 28, 2) := by decide +kernel
theorem d_M_daysOf_18 : decode b_M_daysOf 18 = .ok (.goto 33, 3) := by decide +kernel
theorem d_M_daysOf_21 : decode b_M_daysOf 21 = .ok (.iload_n 1, 1) := by decide +kernel
theorem d_M_daysOf_22 : decode b_M_daysOf 22 = .ok (.iconst 4, 1) := by decide +kernel
theorem d_M_daysOf_23 : decode b_M_daysOf 23 = .ok (.if_icmp .eq 21, 3) := by decide +kernel
theorem d_M_daysOf_26 : decode b_M_daysOf 26 = .ok (.iload_n 1, 1) := by decide +kernel
theorem d_M_daysOf_27 : decode b_M_daysOf 27 = .ok (.bipush 6, 2) := by decide +kernel
theorem d_M_daysOf_29 : decode b_M_daysOf 29 = .ok (.if_icmp .eq 15, 3) := by decide +kernel
theorem d_M_daysOf_32 : decode b_M_daysOf 32 = .ok (.iload_n 1, 1) := by decide +kernel
theorem d_M_daysOf_33 : decode b_M_daysOf 33 = .ok (.bipush 9, 2) := by decide +kernel
theorem d_M_daysOf_35 : decode b_M_daysOf 35 = .ok (.if_icmp .eq 9, 3) := by decide +kernel
theorem d_M_daysOf_38 : decode b_M_daysOf 38 = .ok (.iload_n 1, 1) := by decide +kernel
theorem d_M_daysOf_39 : decode b_M_daysOf 39 = .ok (.bipush 11, 2) := by decide +kernel
theorem d_M_daysOf_41 : decode b_M_daysOf 41 = .ok (.if_icmp .ne 8, 3) := by decide +kernel
theorem d_M_daysOf_44 : decode b_M_daysOf 44 = .ok (.bipush 30, 2) := by decide +kernel
theorem d_M_daysOf_46 : decode b_M_daysOf 46 = .ok (.goto 5, 3) := by decide +kernel
theorem d_M_daysOf_49 : decode b_M_daysOf 49 = .ok (.bipush 31, 2) := by decide +kernel
theorem d_M_daysOf_51 : decode b_M_daysOf 51 = .ok (.ireturn, 1) := by decide +kernel
abbrev b_M_two : ByteArray := prog_14_method_38_code
def y_M_two : MethodName := ⟨R_M, "two", "(I)I"⟩
abbrev k_M_two : Cond := .code y_M_two b_M_two 4 (some .int)
theorem ki_M_two : k_M_two ∈ lw_tg := in_t 2396 (by decide +kernel)
theorem ks_M_two : Cond.instanceMethod y_M_two ∈ lw_tg := in_t 2395 (by decide +kernel)
theorem kx_M_two : Cond.selects R_M y_M_two y_M_two ∈ lw_tg := List.mem_filter.mpr ⟨List.mem_append_left _ (List.mem_of_getElem? (i := 101) (by decide +kernel)), rfl⟩
theorem kl_M_two : Cond.methodLink R_M 453 y_M_two ∈ lw_tg := in_t 2393 (by decide +kernel)
theorem hd_M_two : y_M_two.cls = R_M ∧ y_M_two.cls ≠ "java/lang/invoke/MethodHandle" ∧ y_M_two.cls ≠ "java/lang/invoke/VarHandle" ∧ (parseMethodDescriptor y_M_two.desc).map (fun d => d.parameters.length) = some 1 := by decide +kernel
theorem d_M_two_0 : decode b_M_two 0 = .ok (.aload_n 0, 1) := by decide +kernel
theorem d_M_two_1 : decode b_M_two 1 = .ok (.getfield 10, 3) := by decide +kernel
theorem d_M_two_4 : decode b_M_two 4 = .ok (.iload_n 1, 1) := by decide +kernel
theorem d_M_two_5 : decode b_M_two 5 = .ok (.baload, 1) := by decide +kernel
theorem d_M_two_6 : decode b_M_two 6 = .ok (.bipush 48, 2) := by decide +kernel
theorem d_M_two_8 : decode b_M_two 8 = .ok (.isub, 1) := by decide +kernel
theorem d_M_two_9 : decode b_M_two 9 = .ok (.istore_n 2, 1) := by decide +kernel
theorem d_M_two_10 : decode b_M_two 10 = .ok (.aload_n 0, 1) := by decide +kernel
theorem d_M_two_11 : decode b_M_two 11 = .ok (.getfield 10, 3) := by decide +kernel
theorem d_M_two_14 : decode b_M_two 14 = .ok (.iload_n 1, 1) := by decide +kernel
theorem d_M_two_15 : decode b_M_two 15 = .ok (.iconst 1, 1) := by decide +kernel
theorem d_M_two_16 : decode b_M_two 16 = .ok (.iadd, 1) := by decide +kernel
theorem d_M_two_17 : decode b_M_two 17 = .ok (.baload, 1) := by decide +kernel
theorem d_M_two_18 : decode b_M_two 18 = .ok (.bipush 48, 2) := by decide +kernel
theorem d_M_two_20 : decode b_M_two 20 = .ok (.isub, 1) := by decide +kernel
theorem d_M_two_21 : decode b_M_two 21 = .ok (.istore_n 3, 1) := by decide +kernel
theorem d_M_two_22 : decode b_M_two 22 = .ok (.iload_n 2, 1) := by decide +kernel
theorem d_M_two_23 : decode b_M_two 23 = .ok (.ifCond .lt 19, 3) := by decide +kernel
theorem d_M_two_26 : decode b_M_two 26 = .ok (.iload_n 2, 1) := by decide +kernel
theorem d_M_two_27 : decode b_M_two 27 = .ok (.bipush 9, 2) := by decide +kernel
theorem d_M_two_29 : decode b_M_two 29 = .ok (.if_icmp .gt 13, 3) := by decide +kernel
theorem d_M_two_32 : decode b_M_two 32 = .ok (.iload_n 3, 1) := by decide +kernel
theorem d_M_two_33 : decode b_M_two 33 = .ok (.ifCond .lt 9, 3) := by decide +kernel
theorem d_M_two_36 : decode b_M_two 36 = .ok (.iload_n 3, 1) := by decide +kernel
theorem d_M_two_37 : decode b_M_two 37 = .ok (.bipush 9, 2) := by decide +kernel
theorem d_M_two_39 : decode b_M_two 39 = .ok (.if_icmp .le 9, 3) := by decide +kernel
theorem d_M_two_42 : decode b_M_two 42 = .ok (.sipush (-10000), 3) := by decide +kernel
theorem d_M_two_45 : decode b_M_two 45 = .ok (.goto 9, 3) := by decide +kernel
theorem d_M_two_48 : decode b_M_two 48 = .ok (.bipush 10, 2) := by decide +kernel
theorem d_M_two_50 : decode b_M_two 50 = .ok (.iload_n 2, 1) := by decide +kernel
theorem d_M_two_51 : decode b_M_two 51 = .ok (.imul, 1) := by decide +kernel
theorem d_M_two_52 : decode b_M_two 52 = .ok (.iload_n 3, 1) := by decide +kernel
theorem d_M_two_53 : decode b_M_two 53 = .ok (.iadd, 1) := by decide +kernel
theorem d_M_two_54 : decode b_M_two 54 = .ok (.ireturn, 1) := by decide +kernel
abbrev b_M_timeAt : ByteArray := prog_14_method_39_code
def y_M_timeAt : MethodName := ⟨R_M, "timeAt", "(I)J"⟩
abbrev k_M_timeAt : Cond := .code y_M_timeAt b_M_timeAt 10 (some .long)
theorem ki_M_timeAt : k_M_timeAt ∈ lw_tg := in_t 2392 (by decide +kernel)
theorem ks_M_timeAt : Cond.instanceMethod y_M_timeAt ∈ lw_tg := in_t 2391 (by decide +kernel)
theorem kx_M_timeAt : Cond.selects R_M y_M_timeAt y_M_timeAt ∈ lw_tg := List.mem_filter.mpr ⟨List.mem_append_left _ (List.mem_of_getElem? (i := 100) (by decide +kernel)), rfl⟩
theorem kl_M_timeAt : Cond.methodLink R_M 507 y_M_timeAt ∈ lw_tg := in_t 2389 (by decide +kernel)
theorem hd_M_timeAt : y_M_timeAt.cls = R_M ∧ y_M_timeAt.cls ≠ "java/lang/invoke/MethodHandle" ∧ y_M_timeAt.cls ≠ "java/lang/invoke/VarHandle" ∧ (parseMethodDescriptor y_M_timeAt.desc).map (fun d => d.parameters.length) = some 1 := by decide +kernel
theorem d_M_timeAt_0 : decode b_M_timeAt 0 = .ok (.bipush 100, 2) := by decide +kernel
theorem d_M_timeAt_2 : decode b_M_timeAt 2 = .ok (.aload_n 0, 1) := by decide +kernel
theorem d_M_timeAt_3 : decode b_M_timeAt 3 = .ok (.iload_n 1, 1) := by decide +kernel
theorem d_M_timeAt_4 : decode b_M_timeAt 4 = .ok (.invokevirtual 453, 3) := by decide +kernel
theorem d_M_timeAt_7 : decode b_M_timeAt 7 = .ok (.imul, 1) := by decide +kernel
theorem d_M_timeAt_8 : decode b_M_timeAt 8 = .ok (.aload_n 0, 1) := by decide +kernel
theorem d_M_timeAt_9 : decode b_M_timeAt 9 = .ok (.iload_n 1, 1) := by decide +kernel
theorem d_M_timeAt_10 : decode b_M_timeAt 10 = .ok (.iconst 2, 1) := by decide +kernel
theorem d_M_timeAt_11 : decode b_M_timeAt 11 = .ok (.iadd, 1) := by decide +kernel
theorem d_M_timeAt_12 : decode b_M_timeAt 12 = .ok (.invokevirtual 453, 3) := by decide +kernel
theorem d_M_timeAt_15 : decode b_M_timeAt 15 = .ok (.iadd, 1) := by decide +kernel
theorem d_M_timeAt_16 : decode b_M_timeAt 16 = .ok (.istore_n 2, 1) := by decide +kernel
theorem d_M_timeAt_17 : decode b_M_timeAt 17 = .ok (.aload_n 0, 1) := by decide +kernel
theorem d_M_timeAt_18 : decode b_M_timeAt 18 = .ok (.iload_n 1, 1) := by decide +kernel
theorem d_M_timeAt_19 : decode b_M_timeAt 19 = .ok (.iconst 4, 1) := by decide +kernel
theorem d_M_timeAt_20 : decode b_M_timeAt 20 = .ok (.iadd, 1) := by decide +kernel
theorem d_M_timeAt_21 : decode b_M_timeAt 21 = .ok (.invokevirtual 453, 3) := by decide +kernel
theorem d_M_timeAt_24 : decode b_M_timeAt 24 = .ok (.istore_n 3, 1) := by decide +kernel
theorem d_M_timeAt_25 : decode b_M_timeAt 25 = .ok (.aload_n 0, 1) := by decide +kernel
theorem d_M_timeAt_26 : decode b_M_timeAt 26 = .ok (.iload_n 1, 1) := by decide +kernel
theorem d_M_timeAt_27 : decode b_M_timeAt 27 = .ok (.bipush 6, 2) := by decide +kernel
theorem d_M_timeAt_29 : decode b_M_timeAt 29 = .ok (.iadd, 1) := by decide +kernel
theorem d_M_timeAt_30 : decode b_M_timeAt 30 = .ok (.invokevirtual 453, 3) := by decide +kernel
theorem d_M_timeAt_33 : decode b_M_timeAt 33 = .ok (.istore 4, 2) := by decide +kernel
theorem d_M_timeAt_35 : decode b_M_timeAt 35 = .ok (.aload_n 0, 1) := by decide +kernel
theorem d_M_timeAt_36 : decode b_M_timeAt 36 = .ok (.iload_n 1, 1) := by decide +kernel
theorem d_M_timeAt_37 : decode b_M_timeAt 37 = .ok (.bipush 8, 2) := by decide +kernel
theorem d_M_timeAt_39 : decode b_M_timeAt 39 = .ok (.iadd, 1) := by decide +kernel
theorem d_M_timeAt_40 : decode b_M_timeAt 40 = .ok (.invokevirtual 453, 3) := by decide +kernel
theorem d_M_timeAt_43 : decode b_M_timeAt 43 = .ok (.istore 5, 2) := by decide +kernel
theorem d_M_timeAt_45 : decode b_M_timeAt 45 = .ok (.aload_n 0, 1) := by decide +kernel
theorem d_M_timeAt_46 : decode b_M_timeAt 46 = .ok (.iload_n 1, 1) := by decide +kernel
theorem d_M_timeAt_47 : decode b_M_timeAt 47 = .ok (.bipush 10, 2) := by decide +kernel
theorem d_M_timeAt_49 : decode b_M_timeAt 49 = .ok (.iadd, 1) := by decide +kernel
theorem d_M_timeAt_50 : decode b_M_timeAt 50 = .ok (.invokevirtual 453, 3) := by decide +kernel
theorem d_M_timeAt_53 : decode b_M_timeAt 53 = .ok (.istore 6, 2) := by decide +kernel
theorem d_M_timeAt_55 : decode b_M_timeAt 55 = .ok (.aload_n 0, 1) := by decide +kernel
theorem d_M_timeAt_56 : decode b_M_timeAt 56 = .ok (.iload_n 1, 1) := by decide +kernel
theorem d_M_timeAt_57 : decode b_M_timeAt 57 = .ok (.bipush 12, 2) := by decide +kernel
theorem d_M_timeAt_59 : decode b_M_timeAt 59 = .ok (.iadd, 1) := by decide +kernel
theorem d_M_timeAt_60 : decode b_M_timeAt 60 = .ok (.invokevirtual 453, 3) := by decide +kernel
theorem d_M_timeAt_63 : decode b_M_timeAt 63 = .ok (.istore 7, 2) := by decide +kernel
theorem d_M_timeAt_65 : decode b_M_timeAt 65 = .ok (.aload_n 0, 1) := by decide +kernel
theorem d_M_timeAt_66 : decode b_M_timeAt 66 = .ok (.getfield 10, 3) := by decide +kernel
theorem d_M_timeAt_69 : decode b_M_timeAt 69 = .ok (.iload_n 1, 1) := by decide +kernel
theorem d_M_timeAt_70 : decode b_M_timeAt 70 = .ok (.bipush 14, 2) := by decide +kernel
theorem d_M_timeAt_72 : decode b_M_timeAt 72 = .ok (.iadd, 1) := by decide +kernel
theorem d_M_timeAt_73 : decode b_M_timeAt 73 = .ok (.baload, 1) := by decide +kernel
theorem d_M_timeAt_74 : decode b_M_timeAt 74 = .ok (.bipush 90, 2) := by decide +kernel
theorem d_M_timeAt_76 : decode b_M_timeAt 76 = .ok (.if_icmp .ne 44, 3) := by decide +kernel
theorem d_M_timeAt_79 : decode b_M_timeAt 79 = .ok (.iload_n 2, 1) := by decide +kernel
theorem d_M_timeAt_80 : decode b_M_timeAt 80 = .ok (.sipush 1970, 3) := by decide +kernel
theorem d_M_timeAt_83 : decode b_M_timeAt 83 = .ok (.if_icmp .lt 37, 3) := by decide +kernel
theorem d_M_timeAt_86 : decode b_M_timeAt 86 = .ok (.iload_n 2, 1) := by decide +kernel
theorem d_M_timeAt_87 : decode b_M_timeAt 87 = .ok (.sipush 2037, 3) := by decide +kernel
theorem d_M_timeAt_90 : decode b_M_timeAt 90 = .ok (.if_icmp .gt 30, 3) := by decide +kernel
theorem d_M_timeAt_93 : decode b_M_timeAt 93 = .ok (.iload_n 3, 1) := by decide +kernel
theorem d_M_timeAt_94 : decode b_M_timeAt 94 = .ok (.iconst 1, 1) := by decide +kernel
theorem d_M_timeAt_95 : decode b_M_timeAt 95 = .ok (.if_icmp .lt 25, 3) := by decide +kernel
theorem d_M_timeAt_98 : decode b_M_timeAt 98 = .ok (.iload_n 3, 1) := by decide +kernel
theorem d_M_timeAt_99 : decode b_M_timeAt 99 = .ok (.bipush 12, 2) := by decide +kernel
theorem d_M_timeAt_101 : decode b_M_timeAt 101 = .ok (.if_icmp .gt 19, 3) := by decide +kernel
theorem d_M_timeAt_104 : decode b_M_timeAt 104 = .ok (.iload 4, 2) := by decide +kernel
theorem d_M_timeAt_106 : decode b_M_timeAt 106 = .ok (.iconst 1, 1) := by decide +kernel
theorem d_M_timeAt_107 : decode b_M_timeAt 107 = .ok (.if_icmp .lt 13, 3) := by decide +kernel
theorem d_M_timeAt_110 : decode b_M_timeAt 110 = .ok (.iload 4, 2) := by decide +kernel
theorem d_M_timeAt_112 : decode b_M_timeAt 112 = .ok (.iload_n 2, 1) := by decide +kernel
theorem d_M_timeAt_113 : decode b_M_timeAt 113 = .ok (.iload_n 3, 1) := by decide +kernel
theorem d_M_timeAt_114 : decode b_M_timeAt 114 = .ok (.invokestatic 456, 3) := by decide +kernel
theorem d_M_timeAt_117 : decode b_M_timeAt 117 = .ok (.if_icmp .le 7, 3) := by decide +kernel
theorem d_M_timeAt_120 : decode b_M_timeAt 120 = .ok (.ldc2_w 459, 3) := by decide +kernel
theorem d_M_timeAt_123 : decode b_M_timeAt 123 = .ok (.lreturn, 1) := by decide +kernel
theorem d_M_timeAt_124 : decode b_M_timeAt 124 = .ok (.iload 5, 2) := by decide +kernel
theorem d_M_timeAt_126 : decode b_M_timeAt 126 = .ok (.ifCond .lt 34, 3) := by decide +kernel
theorem d_M_timeAt_129 : decode b_M_timeAt 129 = .ok (.iload 5, 2) := by decide +kernel
theorem d_M_timeAt_131 : decode b_M_timeAt 131 = .ok (.bipush 23, 2) := by decide +kernel
theorem d_M_timeAt_133 : decode b_M_timeAt 133 = .ok (.if_icmp .gt 27, 3) := by decide +kernel
theorem d_M_timeAt_136 : decode b_M_timeAt 136 = .ok (.iload 6, 2) := by decide +kernel
theorem d_M_timeAt_138 : decode b_M_timeAt 138 = .ok (.ifCond .lt 22, 3) := by decide +kernel
theorem d_M_timeAt_141 : decode b_M_timeAt 141 = .ok (.iload 6, 2) := by decide +kernel
theorem d_M_timeAt_143 : decode b_M_timeAt 143 = .ok (.bipush 59, 2) := by decide +kernel
theorem d_M_timeAt_145 : decode b_M_timeAt 145 = .ok (.if_icmp .gt 15, 3) := by decide +kernel
theorem d_M_timeAt_148 : decode b_M_timeAt 148 = .ok (.iload 7, 2) := by decide +kernel
theorem d_M_timeAt_150 : decode b_M_timeAt 150 = .ok (.ifCond .lt 10, 3) := by decide +kernel
theorem d_M_timeAt_153 : decode b_M_timeAt 153 = .ok (.iload 7, 2) := by decide +kernel
theorem d_M_timeAt_155 : decode b_M_timeAt 155 = .ok (.bipush 59, 2) := by decide +kernel
theorem d_M_timeAt_157 : decode b_M_timeAt 157 = .ok (.if_icmp .le 7, 3) := by decide +kernel
theorem d_M_timeAt_160 : decode b_M_timeAt 160 = .ok (.ldc2_w 459, 3) := by decide +kernel
theorem d_M_timeAt_163 : decode b_M_timeAt 163 = .ok (.lreturn, 1) := by decide +kernel
theorem d_M_timeAt_164 : decode b_M_timeAt 164 = .ok (.iload_n 2, 1) := by decide +kernel
theorem d_M_timeAt_165 : decode b_M_timeAt 165 = .ok (.invokestatic 461, 3) := by decide +kernel
theorem d_M_timeAt_168 : decode b_M_timeAt 168 = .ok (.iload 4, 2) := by decide +kernel
theorem d_M_timeAt_170 : decode b_M_timeAt 170 = .ok (.iadd, 1) := by decide +kernel
theorem d_M_timeAt_171 : decode b_M_timeAt 171 = .ok (.iconst 1, 1) := by decide +kernel
theorem d_M_timeAt_172 : decode b_M_timeAt 172 = .ok (.isub, 1) := by decide +kernel
theorem d_M_timeAt_173 : decode b_M_timeAt 173 = .ok (.istore 8, 2) := by decide +kernel
theorem d_M_timeAt_175 : decode b_M_timeAt 175 = .ok (.iconst 1, 1) := by decide +kernel
theorem d_M_timeAt_176 : decode b_M_timeAt 176 = .ok (.istore 9, 2) := by decide +kernel
theorem d_M_timeAt_178 : decode b_M_timeAt 178 = .ok (.iload 9, 2) := by decide +kernel
theorem d_M_timeAt_180 : decode b_M_timeAt 180 = .ok (.iload_n 3, 1) := by decide +kernel
theorem d_M_timeAt_181 : decode b_M_timeAt 181 = .ok (.if_icmp .ge 20, 3) := by decide +kernel
theorem d_M_timeAt_184 : decode b_M_timeAt 184 = .ok (.iload 8, 2) := by decide +kernel
theorem d_M_timeAt_186 : decode b_M_timeAt 186 = .ok (.iload_n 2, 1) := by decide +kernel
theorem d_M_timeAt_187 : decode b_M_timeAt 187 = .ok (.iload 9, 2) := by decide +kernel
theorem d_M_timeAt_189 : decode b_M_timeAt 189 = .ok (.invokestatic 456, 3) := by decide +kernel
theorem d_M_timeAt_192 : decode b_M_timeAt 192 = .ok (.iadd, 1) := by decide +kernel
theorem d_M_timeAt_193 : decode b_M_timeAt 193 = .ok (.istore 8, 2) := by decide +kernel
theorem d_M_timeAt_195 : decode b_M_timeAt 195 = .ok (.iinc 9 1, 3) := by decide +kernel
theorem d_M_timeAt_198 : decode b_M_timeAt 198 = .ok (.goto (-20), 3) := by decide +kernel
theorem d_M_timeAt_201 : decode b_M_timeAt 201 = .ok (.ldc2_w 464, 3) := by decide +kernel
theorem d_M_timeAt_204 : decode b_M_timeAt 204 = .ok (.iload 8, 2) := by decide +kernel
theorem d_M_timeAt_206 : decode b_M_timeAt 206 = .ok (.i2l, 1) := by decide +kernel
theorem d_M_timeAt_207 : decode b_M_timeAt 207 = .ok (.lmul, 1) := by decide +kernel
theorem d_M_timeAt_208 : decode b_M_timeAt 208 = .ok (.ldc2_w 466, 3) := by decide +kernel
theorem d_M_timeAt_211 : decode b_M_timeAt 211 = .ok (.iload 5, 2) := by decide +kernel
theorem d_M_timeAt_213 : decode b_M_timeAt 213 = .ok (.i2l, 1) := by decide +kernel
theorem d_M_timeAt_214 : decode b_M_timeAt 214 = .ok (.lmul, 1) := by decide +kernel
theorem d_M_timeAt_215 : decode b_M_timeAt 215 = .ok (.ladd, 1) := by decide +kernel
theorem d_M_timeAt_216 : decode b_M_timeAt 216 = .ok (.ldc2_w 468, 3) := by decide +kernel
theorem d_M_timeAt_219 : decode b_M_timeAt 219 = .ok (.iload 6, 2) := by decide +kernel
theorem d_M_timeAt_221 : decode b_M_timeAt 221 = .ok (.i2l, 1) := by decide +kernel
theorem d_M_timeAt_222 : decode b_M_timeAt 222 = .ok (.lmul, 1) := by decide +kernel
theorem d_M_timeAt_223 : decode b_M_timeAt 223 = .ok (.ladd, 1) := by decide +kernel
theorem d_M_timeAt_224 : decode b_M_timeAt 224 = .ok (.iload 7, 2) := by decide +kernel
theorem d_M_timeAt_226 : decode b_M_timeAt 226 = .ok (.i2l, 1) := by decide +kernel
theorem d_M_timeAt_227 : decode b_M_timeAt 227 = .ok (.ladd, 1) := by decide +kernel
theorem d_M_timeAt_228 : decode b_M_timeAt 228 = .ok (.lreturn, 1) := by decide +kernel
abbrev b_M_element : ByteArray := prog_14_method_40_code
def y_M_element : MethodName := ⟨R_M, "element", "(III)Z"⟩
abbrev k_M_element : Cond := .code y_M_element b_M_element 8 (some .boolean)
theorem ki_M_element : k_M_element ∈ lw_tg := in_t 2372 (by decide +kernel)
theorem ks_M_element : Cond.instanceMethod y_M_element ∈ lw_tg := in_t 2371 (by decide +kernel)
theorem kx_M_element : Cond.selects R_M y_M_element y_M_element ∈ lw_tg := List.mem_filter.mpr ⟨List.mem_append_left _ (List.mem_of_getElem? (i := 96) (by decide +kernel)), rfl⟩
theorem kl_M_element : Cond.methodLink R_M 476 y_M_element ∈ lw_tg := in_t 2369 (by decide +kernel)
theorem hd_M_element : y_M_element.cls = R_M ∧ y_M_element.cls ≠ "java/lang/invoke/MethodHandle" ∧ y_M_element.cls ≠ "java/lang/invoke/VarHandle" ∧ (parseMethodDescriptor y_M_element.desc).map (fun d => d.parameters.length) = some 3 := by decide +kernel
theorem d_M_element_0 : decode b_M_element 0 = .ok (.iload_n 1, 1) := by decide +kernel
theorem d_M_element_1 : decode b_M_element 1 = .ok (.iconst 2, 1) := by decide +kernel
theorem d_M_element_2 : decode b_M_element 2 = .ok (.iadd, 1) := by decide +kernel
theorem d_M_element_3 : decode b_M_element 3 = .ok (.iload_n 2, 1) := by decide +kernel
theorem d_M_element_4 : decode b_M_element 4 = .ok (.if_icmp .gt 17, 3) := by decide +kernel
theorem d_M_element_7 : decode b_M_element 7 = .ok (.aload_n 0, 1) := by decide +kernel
theorem d_M_element_8 : decode b_M_element 8 = .ok (.getfield 10, 3) := by decide +kernel
theorem d_M_element_11 : decode b_M_element 11 = .ok (.iload_n 1, 1) := by decide +kernel
theorem d_M_element_12 : decode b_M_element 12 = .ok (.baload, 1) := by decide +kernel
theorem d_M_element_13 : decode b_M_element 13 = .ok (.sipush 255, 3) := by decide +kernel
theorem d_M_element_16 : decode b_M_element 16 = .ok (.iand, 1) := by decide +kernel
theorem d_M_element_17 : decode b_M_element 17 = .ok (.iload_n 3, 1) := by decide +kernel
theorem d_M_element_18 : decode b_M_element 18 = .ok (.if_icmp .eq 5, 3) := by decide +kernel
theorem d_M_element_21 : decode b_M_element 21 = .ok (.iconst 0, 1) := by decide +kernel
theorem d_M_element_22 : decode b_M_element 22 = .ok (.ireturn, 1) := by decide +kernel
theorem d_M_element_23 : decode b_M_element 23 = .ok (.aload_n 0, 1) := by decide +kernel
theorem d_M_element_24 : decode b_M_element 24 = .ok (.getfield 10, 3) := by decide +kernel
theorem d_M_element_27 : decode b_M_element 27 = .ok (.iload_n 1, 1) := by decide +kernel
theorem d_M_element_28 : decode b_M_element 28 = .ok (.iconst 1, 1) := by decide +kernel
theorem d_M_element_29 : decode b_M_element 29 = .ok (.iadd, 1) := by decide +kernel
theorem d_M_element_30 : decode b_M_element 30 = .ok (.baload, 1) := by decide +kernel
theorem d_M_element_31 : decode b_M_element 31 = .ok (.sipush 255, 3) := by decide +kernel
theorem d_M_element_34 : decode b_M_element 34 = .ok (.iand, 1) := by decide +kernel
theorem d_M_element_35 : decode b_M_element 35 = .ok (.istore 4, 2) := by decide +kernel
theorem d_M_element_37 : decode b_M_element 37 = .ok (.iload_n 1, 1) := by decide +kernel
theorem d_M_element_38 : decode b_M_element 38 = .ok (.iconst 2, 1) := by decide +kernel
theorem d_M_element_39 : decode b_M_element 39 = .ok (.iadd, 1) := by decide +kernel
theorem d_M_element_40 : decode b_M_element 40 = .ok (.istore 5, 2) := by decide +kernel
theorem d_M_element_42 : decode b_M_element 42 = .ok (.iload 4, 2) := by decide +kernel
theorem d_M_element_44 : decode b_M_element 44 = .ok (.bipush 127, 2) := by decide +kernel
theorem d_M_element_46 : decode b_M_element 46 = .ok (.if_icmp .le 102, 3) := by decide +kernel
theorem d_M_element_49 : decode b_M_element 49 = .ok (.iload 4, 2) := by decide +kernel
theorem d_M_element_51 : decode b_M_element 51 = .ok (.sipush 128, 3) := by decide +kernel
theorem d_M_element_54 : decode b_M_element 54 = .ok (.isub, 1) := by decide +kernel
theorem d_M_element_55 : decode b_M_element 55 = .ok (.istore 6, 2) := by decide +kernel
theorem d_M_element_57 : decode b_M_element 57 = .ok (.iload 6, 2) := by decide +kernel
theorem d_M_element_59 : decode b_M_element 59 = .ok (.iconst 1, 1) := by decide +kernel
theorem d_M_element_60 : decode b_M_element 60 = .ok (.if_icmp .lt 18, 3) := by decide +kernel
theorem d_M_element_63 : decode b_M_element 63 = .ok (.iload 6, 2) := by decide +kernel
theorem d_M_element_65 : decode b_M_element 65 = .ok (.iconst 3, 1) := by decide +kernel
theorem d_M_element_66 : decode b_M_element 66 = .ok (.if_icmp .gt 12, 3) := by decide +kernel
theorem d_M_element_69 : decode b_M_element 69 = .ok (.iload 5, 2) := by decide +kernel
theorem d_M_element_71 : decode b_M_element 71 = .ok (.iload 6, 2) := by decide +kernel
theorem d_M_element_73 : decode b_M_element 73 = .ok (.iadd, 1) := by decide +kernel
theorem d_M_element_74 : decode b_M_element 74 = .ok (.iload_n 2, 1) := by decide +kernel
theorem d_M_element_75 : decode b_M_element 75 = .ok (.if_icmp .le 5, 3) := by decide +kernel
theorem d_M_element_78 : decode b_M_element 78 = .ok (.iconst 0, 1) := by decide +kernel
theorem d_M_element_79 : decode b_M_element 79 = .ok (.ireturn, 1) := by decide +kernel
theorem d_M_element_80 : decode b_M_element 80 = .ok (.iconst 0, 1) := by decide +kernel
theorem d_M_element_81 : decode b_M_element 81 = .ok (.istore 4, 2) := by decide +kernel
theorem d_M_element_83 : decode b_M_element 83 = .ok (.iconst 0, 1) := by decide +kernel
theorem d_M_element_84 : decode b_M_element 84 = .ok (.istore 7, 2) := by decide +kernel
theorem d_M_element_86 : decode b_M_element 86 = .ok (.iload 7, 2) := by decide +kernel
theorem d_M_element_88 : decode b_M_element 88 = .ok (.iload 6, 2) := by decide +kernel
theorem d_M_element_90 : decode b_M_element 90 = .ok (.if_icmp .ge 31, 3) := by decide +kernel
theorem d_M_element_93 : decode b_M_element 93 = .ok (.iload 4, 2) := by decide +kernel
theorem d_M_element_95 : decode b_M_element 95 = .ok (.bipush 8, 2) := by decide +kernel
theorem d_M_element_97 : decode b_M_element 97 = .ok (.ishl, 1) := by decide +kernel
theorem d_M_element_98 : decode b_M_element 98 = .ok (.aload_n 0, 1) := by decide +kernel
theorem d_M_element_99 : decode b_M_element 99 = .ok (.getfield 10, 3) := by decide +kernel
theorem d_M_element_102 : decode b_M_element 102 = .ok (.iload 5, 2) := by decide +kernel
theorem d_M_element_104 : decode b_M_element 104 = .ok (.iload 7, 2) := by decide +kernel
theorem d_M_element_106 : decode b_M_element 106 = .ok (.iadd, 1) := by decide +kernel
theorem d_M_element_107 : decode b_M_element 107 = .ok (.baload, 1) := by decide +kernel
theorem d_M_element_108 : decode b_M_element 108 = .ok (.sipush 255, 3) := by decide +kernel
theorem d_M_element_111 : decode b_M_element 111 = .ok (.iand, 1) := by decide +kernel
theorem d_M_element_112 : decode b_M_element 112 = .ok (.ior, 1) := by decide +kernel
theorem d_M_element_113 : decode b_M_element 113 = .ok (.istore 4, 2) := by decide +kernel
theorem d_M_element_115 : decode b_M_element 115 = .ok (.iinc 7 1, 3) := by decide +kernel
theorem d_M_element_118 : decode b_M_element 118 = .ok (.goto (-32), 3) := by decide +kernel
theorem d_M_element_121 : decode b_M_element 121 = .ok (.aload_n 0, 1) := by decide +kernel
theorem d_M_element_122 : decode b_M_element 122 = .ok (.getfield 10, 3) := by decide +kernel
theorem d_M_element_125 : decode b_M_element 125 = .ok (.iload 5, 2) := by decide +kernel
theorem d_M_element_127 : decode b_M_element 127 = .ok (.baload, 1) := by decide +kernel
theorem d_M_element_128 : decode b_M_element 128 = .ok (.ifCond .eq 11, 3) := by decide +kernel
theorem d_M_element_131 : decode b_M_element 131 = .ok (.iload 4, 2) := by decide +kernel
theorem d_M_element_133 : decode b_M_element 133 = .ok (.sipush 128, 3) := by decide +kernel
theorem d_M_element_136 : decode b_M_element 136 = .ok (.if_icmp .ge 5, 3) := by decide +kernel
theorem d_M_element_139 : decode b_M_element 139 = .ok (.iconst 0, 1) := by decide +kernel
theorem d_M_element_140 : decode b_M_element 140 = .ok (.ireturn, 1) := by decide +kernel
theorem d_M_element_141 : decode b_M_element 141 = .ok (.iload 5, 2) := by decide +kernel
theorem d_M_element_143 : decode b_M_element 143 = .ok (.iload 6, 2) := by decide +kernel
theorem d_M_element_145 : decode b_M_element 145 = .ok (.iadd, 1) := by decide +kernel
theorem d_M_element_146 : decode b_M_element 146 = .ok (.istore 5, 2) := by decide +kernel
theorem d_M_element_148 : decode b_M_element 148 = .ok (.iload 4, 2) := by decide +kernel
theorem d_M_element_150 : decode b_M_element 150 = .ok (.iload_n 2, 1) := by decide +kernel
theorem d_M_element_151 : decode b_M_element 151 = .ok (.iload 5, 2) := by decide +kernel
theorem d_M_element_153 : decode b_M_element 153 = .ok (.isub, 1) := by decide +kernel
theorem d_M_element_154 : decode b_M_element 154 = .ok (.if_icmp .le 5, 3) := by decide +kernel
theorem d_M_element_157 : decode b_M_element 157 = .ok (.iconst 0, 1) := by decide +kernel
theorem d_M_element_158 : decode b_M_element 158 = .ok (.ireturn, 1) := by decide +kernel
theorem d_M_element_159 : decode b_M_element 159 = .ok (.aload_n 0, 1) := by decide +kernel
theorem d_M_element_160 : decode b_M_element 160 = .ok (.iload 5, 2) := by decide +kernel
theorem d_M_element_162 : decode b_M_element 162 = .ok (.putfield 470, 3) := by decide +kernel
theorem d_M_element_165 : decode b_M_element 165 = .ok (.aload_n 0, 1) := by decide +kernel
theorem d_M_element_166 : decode b_M_element 166 = .ok (.iload 5, 2) := by decide +kernel
theorem d_M_element_168 : decode b_M_element 168 = .ok (.iload 4, 2) := by decide +kernel
theorem d_M_element_170 : decode b_M_element 170 = .ok (.iadd, 1) := by decide +kernel
theorem d_M_element_171 : decode b_M_element 171 = .ok (.putfield 473, 3) := by decide +kernel
theorem d_M_element_174 : decode b_M_element 174 = .ok (.iconst 1, 1) := by decide +kernel
theorem d_M_element_175 : decode b_M_element 175 = .ok (.ireturn, 1) := by decide +kernel
abbrev b_M_whole : ByteArray := prog_14_method_41_code
def y_M_whole : MethodName := ⟨R_M, "whole", "(III)Z"⟩
abbrev k_M_whole : Cond := .code y_M_whole b_M_whole 4 (some .boolean)
theorem ki_M_whole : k_M_whole ∈ lw_tg := in_t 2368 (by decide +kernel)
theorem ks_M_whole : Cond.instanceMethod y_M_whole ∈ lw_tg := in_t 2367 (by decide +kernel)
theorem kx_M_whole : Cond.selects R_M y_M_whole y_M_whole ∈ lw_tg := List.mem_filter.mpr ⟨List.mem_append_left _ (List.mem_of_getElem? (i := 95) (by decide +kernel)), rfl⟩
theorem kl_M_whole : Cond.methodLink R_M 480 y_M_whole ∈ lw_tg := in_t 2365 (by decide +kernel)
theorem hd_M_whole : y_M_whole.cls = R_M ∧ y_M_whole.cls ≠ "java/lang/invoke/MethodHandle" ∧ y_M_whole.cls ≠ "java/lang/invoke/VarHandle" ∧ (parseMethodDescriptor y_M_whole.desc).map (fun d => d.parameters.length) = some 3 := by decide +kernel
theorem d_M_whole_0 : decode b_M_whole 0 = .ok (.aload_n 0, 1) := by decide +kernel
theorem d_M_whole_1 : decode b_M_whole 1 = .ok (.iload_n 1, 1) := by decide +kernel
theorem d_M_whole_2 : decode b_M_whole 2 = .ok (.iload_n 2, 1) := by decide +kernel
theorem d_M_whole_3 : decode b_M_whole 3 = .ok (.iload_n 3, 1) := by decide +kernel
theorem d_M_whole_4 : decode b_M_whole 4 = .ok (.invokevirtual 476, 3) := by decide +kernel
theorem d_M_whole_7 : decode b_M_whole 7 = .ok (.ifCond .eq 15, 3) := by decide +kernel
theorem d_M_whole_10 : decode b_M_whole 10 = .ok (.aload_n 0, 1) := by decide +kernel
theorem d_M_whole_11 : decode b_M_whole 11 = .ok (.getfield 473, 3) := by decide +kernel
theorem d_M_whole_14 : decode b_M_whole 14 = .ok (.iload_n 2, 1) := by decide +kernel
theorem d_M_whole_15 : decode b_M_whole 15 = .ok (.if_icmp .ne 7, 3) := by decide +kernel
theorem d_M_whole_18 : decode b_M_whole 18 = .ok (.iconst 1, 1) := by decide +kernel
theorem d_M_whole_19 : decode b_M_whole 19 = .ok (.goto 4, 3) := by decide +kernel
theorem d_M_whole_22 : decode b_M_whole 22 = .ok (.iconst 0, 1) := by decide +kernel
theorem d_M_whole_23 : decode b_M_whole 23 = .ok (.ireturn, 1) := by decide +kernel
abbrev b_M_sequence : ByteArray := prog_14_method_42_code
def y_M_sequence : MethodName := ⟨R_M, "sequence", "(Ljava/lang/String;III)Z"⟩
abbrev k_M_sequence : Cond := .code y_M_sequence b_M_sequence 13 (some .boolean)
theorem ki_M_sequence : k_M_sequence ∈ lw_tg := in_t 2376 (by decide +kernel)
theorem ks_M_sequence : Cond.instanceMethod y_M_sequence ∈ lw_tg := in_t 2375 (by decide +kernel)
theorem kx_M_sequence : Cond.selects R_M y_M_sequence y_M_sequence ∈ lw_tg := List.mem_filter.mpr ⟨List.mem_append_left _ (List.mem_of_getElem? (i := 97) (by decide +kernel)), rfl⟩
theorem kl_M_sequence : Cond.methodLink R_M 487 y_M_sequence ∈ lw_tg := in_t 2373 (by decide +kernel)
theorem hd_M_sequence : y_M_sequence.cls = R_M ∧ y_M_sequence.cls ≠ "java/lang/invoke/MethodHandle" ∧ y_M_sequence.cls ≠ "java/lang/invoke/VarHandle" ∧ (parseMethodDescriptor y_M_sequence.desc).map (fun d => d.parameters.length) = some 4 := by decide +kernel
theorem d_M_sequence_0 : decode b_M_sequence 0 = .ok (.aload_n 0, 1) := by decide +kernel
theorem d_M_sequence_1 : decode b_M_sequence 1 = .ok (.iload_n 2, 1) := by decide +kernel
theorem d_M_sequence_2 : decode b_M_sequence 2 = .ok (.iload_n 3, 1) := by decide +kernel
theorem d_M_sequence_3 : decode b_M_sequence 3 = .ok (.bipush 48, 2) := by decide +kernel
theorem d_M_sequence_5 : decode b_M_sequence 5 = .ok (.invokevirtual 480, 3) := by decide +kernel
theorem d_M_sequence_8 : decode b_M_sequence 8 = .ok (.ifCond .ne 5, 3) := by decide +kernel
theorem d_M_sequence_11 : decode b_M_sequence 11 = .ok (.iconst 0, 1) := by decide +kernel
theorem d_M_sequence_12 : decode b_M_sequence 12 = .ok (.ireturn, 1) := by decide +kernel
theorem d_M_sequence_13 : decode b_M_sequence 13 = .ok (.aload_n 0, 1) := by decide +kernel
theorem d_M_sequence_14 : decode b_M_sequence 14 = .ok (.getfield 470, 3) := by decide +kernel
theorem d_M_sequence_17 : decode b_M_sequence 17 = .ok (.istore 5, 2) := by decide +kernel
theorem d_M_sequence_19 : decode b_M_sequence 19 = .ok (.iconst 0, 1) := by decide +kernel
theorem d_M_sequence_20 : decode b_M_sequence 20 = .ok (.istore 6, 2) := by decide +kernel
theorem d_M_sequence_22 : decode b_M_sequence 22 = .ok (.iconst 0, 1) := by decide +kernel
theorem d_M_sequence_23 : decode b_M_sequence 23 = .ok (.istore 7, 2) := by decide +kernel
theorem d_M_sequence_25 : decode b_M_sequence 25 = .ok (.iload 7, 2) := by decide +kernel
theorem d_M_sequence_27 : decode b_M_sequence 27 = .ok (.bipush 16, 2) := by decide +kernel
theorem d_M_sequence_29 : decode b_M_sequence 29 = .ok (.if_icmp .ge 42, 3) := by decide +kernel
theorem d_M_sequence_32 : decode b_M_sequence 32 = .ok (.iload 4, 2) := by decide +kernel
theorem d_M_sequence_34 : decode b_M_sequence 34 = .ok (.ifCond .lt 37, 3) := by decide +kernel
theorem d_M_sequence_37 : decode b_M_sequence 37 = .ok (.aload_n 0, 1) := by decide +kernel
theorem d_M_sequence_38 : decode b_M_sequence 38 = .ok (.getfield 95, 3) := by decide +kernel
theorem d_M_sequence_41 : decode b_M_sequence 41 = .ok (.bipush 16, 2) := by decide +kernel
theorem d_M_sequence_43 : decode b_M_sequence 43 = .ok (.iload 4, 2) := by decide +kernel
theorem d_M_sequence_45 : decode b_M_sequence 45 = .ok (.imul, 1) := by decide +kernel
theorem d_M_sequence_46 : decode b_M_sequence 46 = .ok (.iload 7, 2) := by decide +kernel
theorem d_M_sequence_48 : decode b_M_sequence 48 = .ok (.iadd, 1) := by decide +kernel
theorem d_M_sequence_49 : decode b_M_sequence 49 = .ok (.iconst (-1), 1) := by decide +kernel
theorem d_M_sequence_50 : decode b_M_sequence 50 = .ok (.iastore, 1) := by decide +kernel
theorem d_M_sequence_51 : decode b_M_sequence 51 = .ok (.aload_n 0, 1) := by decide +kernel
theorem d_M_sequence_52 : decode b_M_sequence 52 = .ok (.getfield 98, 3) := by decide +kernel
theorem d_M_sequence_55 : decode b_M_sequence 55 = .ok (.bipush 16, 2) := by decide +kernel
theorem d_M_sequence_57 : decode b_M_sequence 57 = .ok (.iload 4, 2) := by decide +kernel
theorem d_M_sequence_59 : decode b_M_sequence 59 = .ok (.imul, 1) := by decide +kernel
theorem d_M_sequence_60 : decode b_M_sequence 60 = .ok (.iload 7, 2) := by decide +kernel
theorem d_M_sequence_62 : decode b_M_sequence 62 = .ok (.iadd, 1) := by decide +kernel
theorem d_M_sequence_63 : decode b_M_sequence 63 = .ok (.iconst (-1), 1) := by decide +kernel
theorem d_M_sequence_64 : decode b_M_sequence 64 = .ok (.iastore, 1) := by decide +kernel
theorem d_M_sequence_65 : decode b_M_sequence 65 = .ok (.iinc 7 1, 3) := by decide +kernel
theorem d_M_sequence_68 : decode b_M_sequence 68 = .ok (.goto (-43), 3) := by decide +kernel
theorem d_M_sequence_71 : decode b_M_sequence 71 = .ok (.iload 6, 2) := by decide +kernel
theorem d_M_sequence_73 : decode b_M_sequence 73 = .ok (.aload_n 1, 1) := by decide +kernel
theorem d_M_sequence_74 : decode b_M_sequence 74 = .ok (.invokevirtual 339, 3) := by decide +kernel
theorem d_M_sequence_77 : decode b_M_sequence 77 = .ok (.if_icmp .ge 228, 3) := by decide +kernel
theorem d_M_sequence_80 : decode b_M_sequence 80 = .ok (.iconst 0, 1) := by decide +kernel
theorem d_M_sequence_81 : decode b_M_sequence 81 = .ok (.istore 7, 2) := by decide +kernel
theorem d_M_sequence_83 : decode b_M_sequence 83 = .ok (.aload_n 1, 1) := by decide +kernel
theorem d_M_sequence_84 : decode b_M_sequence 84 = .ok (.iload 6, 2) := by decide +kernel
theorem d_M_sequence_86 : decode b_M_sequence 86 = .ok (.invokevirtual 344, 3) := by decide +kernel
theorem d_M_sequence_89 : decode b_M_sequence 89 = .ok (.bipush 48, 2) := by decide +kernel
theorem d_M_sequence_91 : decode b_M_sequence 91 = .ok (.if_icmp .lt 37, 3) := by decide +kernel
theorem d_M_sequence_94 : decode b_M_sequence 94 = .ok (.aload_n 1, 1) := by decide +kernel
theorem d_M_sequence_95 : decode b_M_sequence 95 = .ok (.iload 6, 2) := by decide +kernel
theorem d_M_sequence_97 : decode b_M_sequence 97 = .ok (.invokevirtual 344, 3) := by decide +kernel
theorem d_M_sequence_100 : decode b_M_sequence 100 = .ok (.bipush 57, 2) := by decide +kernel
theorem d_M_sequence_102 : decode b_M_sequence 102 = .ok (.if_icmp .gt 26, 3) := by decide +kernel
theorem d_M_sequence_105 : decode b_M_sequence 105 = .ok (.bipush 10, 2) := by decide +kernel
theorem d_M_sequence_107 : decode b_M_sequence 107 = .ok (.iload 7, 2) := by decide +kernel
theorem d_M_sequence_109 : decode b_M_sequence 109 = .ok (.imul, 1) := by decide +kernel
theorem d_M_sequence_110 : decode b_M_sequence 110 = .ok (.aload_n 1, 1) := by decide +kernel
theorem d_M_sequence_111 : decode b_M_sequence 111 = .ok (.iload 6, 2) := by decide +kernel
theorem d_M_sequence_113 : decode b_M_sequence 113 = .ok (.invokevirtual 344, 3) := by decide +kernel
theorem d_M_sequence_116 : decode b_M_sequence 116 = .ok (.iadd, 1) := by decide +kernel
theorem d_M_sequence_117 : decode b_M_sequence 117 = .ok (.bipush 48, 2) := by decide +kernel
theorem d_M_sequence_119 : decode b_M_sequence 119 = .ok (.isub, 1) := by decide +kernel
theorem d_M_sequence_120 : decode b_M_sequence 120 = .ok (.istore 7, 2) := by decide +kernel
theorem d_M_sequence_122 : decode b_M_sequence 122 = .ok (.iinc 6 1, 3) := by decide +kernel
theorem d_M_sequence_125 : decode b_M_sequence 125 = .ok (.goto (-42), 3) := by decide +kernel
theorem d_M_sequence_128 : decode b_M_sequence 128 = .ok (.aload_n 1, 1) := by decide +kernel
theorem d_M_sequence_129 : decode b_M_sequence 129 = .ok (.iload 6, 2) := by decide +kernel
theorem d_M_sequence_131 : decode b_M_sequence 131 = .ok (.invokevirtual 344, 3) := by decide +kernel
theorem d_M_sequence_134 : decode b_M_sequence 134 = .ok (.bipush 63, 2) := by decide +kernel
theorem d_M_sequence_136 : decode b_M_sequence 136 = .ok (.if_icmp .ne 7, 3) := by decide +kernel
theorem d_M_sequence_139 : decode b_M_sequence 139 = .ok (.iconst 1, 1) := by decide +kernel
theorem d_M_sequence_140 : decode b_M_sequence 140 = .ok (.goto 4, 3) := by decide +kernel
theorem d_M_sequence_143 : decode b_M_sequence 143 = .ok (.iconst 0, 1) := by decide +kernel
theorem d_M_sequence_144 : decode b_M_sequence 144 = .ok (.istore 8, 2) := by decide +kernel
theorem d_M_sequence_146 : decode b_M_sequence 146 = .ok (.iload 8, 2) := by decide +kernel
theorem d_M_sequence_148 : decode b_M_sequence 148 = .ok (.ifCond .eq 6, 3) := by decide +kernel
theorem d_M_sequence_151 : decode b_M_sequence 151 = .ok (.iinc 6 1, 3) := by decide +kernel
theorem d_M_sequence_154 : decode b_M_sequence 154 = .ok (.aload_n 1, 1) := by decide +kernel
theorem d_M_sequence_155 : decode b_M_sequence 155 = .ok (.iload 6, 2) := by decide +kernel
theorem d_M_sequence_157 : decode b_M_sequence 157 = .ok (.invokevirtual 344, 3) := by decide +kernel
theorem d_M_sequence_160 : decode b_M_sequence 160 = .ok (.istore 9, 2) := by decide +kernel
theorem d_M_sequence_162 : decode b_M_sequence 162 = .ok (.iinc 6 2, 3) := by decide +kernel
theorem d_M_sequence_165 : decode b_M_sequence 165 = .ok (.iload 5, 2) := by decide +kernel
theorem d_M_sequence_167 : decode b_M_sequence 167 = .ok (.iload_n 3, 1) := by decide +kernel
theorem d_M_sequence_168 : decode b_M_sequence 168 = .ok (.if_icmp .ge 27, 3) := by decide +kernel
theorem d_M_sequence_171 : decode b_M_sequence 171 = .ok (.aload_n 0, 1) := by decide +kernel
theorem d_M_sequence_172 : decode b_M_sequence 172 = .ok (.getfield 10, 3) := by decide +kernel
theorem d_M_sequence_175 : decode b_M_sequence 175 = .ok (.iload 5, 2) := by decide +kernel
theorem d_M_sequence_177 : decode b_M_sequence 177 = .ok (.baload, 1) := by decide +kernel
theorem d_M_sequence_178 : decode b_M_sequence 178 = .ok (.sipush 255, 3) := by decide +kernel
theorem d_M_sequence_181 : decode b_M_sequence 181 = .ok (.iand, 1) := by decide +kernel
theorem d_M_sequence_182 : decode b_M_sequence 182 = .ok (.sipush 160, 3) := by decide +kernel
theorem d_M_sequence_185 : decode b_M_sequence 185 = .ok (.iload 7, 2) := by decide +kernel
theorem d_M_sequence_187 : decode b_M_sequence 187 = .ok (.iadd, 1) := by decide +kernel
theorem d_M_sequence_188 : decode b_M_sequence 188 = .ok (.if_icmp .ne 7, 3) := by decide +kernel
theorem d_M_sequence_191 : decode b_M_sequence 191 = .ok (.iconst 1, 1) := by decide +kernel
theorem d_M_sequence_192 : decode b_M_sequence 192 = .ok (.goto 4, 3) := by decide +kernel
theorem d_M_sequence_195 : decode b_M_sequence 195 = .ok (.iconst 0, 1) := by decide +kernel
theorem d_M_sequence_196 : decode b_M_sequence 196 = .ok (.istore 10, 2) := by decide +kernel
theorem d_M_sequence_198 : decode b_M_sequence 198 = .ok (.iload 10, 2) := by decide +kernel
theorem d_M_sequence_200 : decode b_M_sequence 200 = .ok (.ifCond .ne 10, 3) := by decide +kernel
theorem d_M_sequence_203 : decode b_M_sequence 203 = .ok (.iload 8, 2) := by decide +kernel
theorem d_M_sequence_205 : decode b_M_sequence 205 = .ok (.ifCond .ne 5, 3) := by decide +kernel
theorem d_M_sequence_208 : decode b_M_sequence 208 = .ok (.iconst 0, 1) := by decide +kernel
theorem d_M_sequence_209 : decode b_M_sequence 209 = .ok (.ireturn, 1) := by decide +kernel
theorem d_M_sequence_210 : decode b_M_sequence 210 = .ok (.iload 10, 2) := by decide +kernel
theorem d_M_sequence_212 : decode b_M_sequence 212 = .ok (.ifCond .ne 6, 3) := by decide +kernel
theorem d_M_sequence_215 : decode b_M_sequence 215 = .ok (.goto (-144), 3) := by decide +kernel
theorem d_M_sequence_218 : decode b_M_sequence 218 = .ok (.aload_n 0, 1) := by decide +kernel
theorem d_M_sequence_219 : decode b_M_sequence 219 = .ok (.iload 5, 2) := by decide +kernel
theorem d_M_sequence_221 : decode b_M_sequence 221 = .ok (.iload_n 3, 1) := by decide +kernel
theorem d_M_sequence_222 : decode b_M_sequence 222 = .ok (.sipush 160, 3) := by decide +kernel
theorem d_M_sequence_225 : decode b_M_sequence 225 = .ok (.iload 7, 2) := by decide +kernel
theorem d_M_sequence_227 : decode b_M_sequence 227 = .ok (.iadd, 1) := by decide +kernel
theorem d_M_sequence_228 : decode b_M_sequence 228 = .ok (.invokevirtual 476, 3) := by decide +kernel
theorem d_M_sequence_231 : decode b_M_sequence 231 = .ok (.ifCond .ne 5, 3) := by decide +kernel
theorem d_M_sequence_234 : decode b_M_sequence 234 = .ok (.iconst 0, 1) := by decide +kernel
theorem d_M_sequence_235 : decode b_M_sequence 235 = .ok (.ireturn, 1) := by decide +kernel
theorem d_M_sequence_236 : decode b_M_sequence 236 = .ok (.aload_n 0, 1) := by decide +kernel
theorem d_M_sequence_237 : decode b_M_sequence 237 = .ok (.getfield 470, 3) := by decide +kernel
theorem d_M_sequence_240 : decode b_M_sequence 240 = .ok (.istore 11, 2) := by decide +kernel
theorem d_M_sequence_242 : decode b_M_sequence 242 = .ok (.aload_n 0, 1) := by decide +kernel
theorem d_M_sequence_243 : decode b_M_sequence 243 = .ok (.getfield 473, 3) := by decide +kernel
theorem d_M_sequence_246 : decode b_M_sequence 246 = .ok (.istore 12, 2) := by decide +kernel
theorem d_M_sequence_248 : decode b_M_sequence 248 = .ok (.aload_n 0, 1) := by decide +kernel
theorem d_M_sequence_249 : decode b_M_sequence 249 = .ok (.iload 9, 2) := by decide +kernel
theorem d_M_sequence_251 : decode b_M_sequence 251 = .ok (.iload 11, 2) := by decide +kernel
theorem d_M_sequence_253 : decode b_M_sequence 253 = .ok (.iload 12, 2) := by decide +kernel
theorem d_M_sequence_255 : decode b_M_sequence 255 = .ok (.invokevirtual 483, 3) := by decide +kernel
theorem d_M_sequence_258 : decode b_M_sequence 258 = .ok (.ifCond .ne 5, 3) := by decide +kernel
theorem d_M_sequence_261 : decode b_M_sequence 261 = .ok (.iconst 0, 1) := by decide +kernel
theorem d_M_sequence_262 : decode b_M_sequence 262 = .ok (.ireturn, 1) := by decide +kernel
theorem d_M_sequence_263 : decode b_M_sequence 263 = .ok (.iload 4, 2) := by decide +kernel
theorem d_M_sequence_265 : decode b_M_sequence 265 = .ok (.ifCond .lt 33, 3) := by decide +kernel
theorem d_M_sequence_268 : decode b_M_sequence 268 = .ok (.aload_n 0, 1) := by decide +kernel
theorem d_M_sequence_269 : decode b_M_sequence 269 = .ok (.getfield 95, 3) := by decide +kernel
theorem d_M_sequence_272 : decode b_M_sequence 272 = .ok (.bipush 16, 2) := by decide +kernel
theorem d_M_sequence_274 : decode b_M_sequence 274 = .ok (.iload 4, 2) := by decide +kernel
theorem d_M_sequence_276 : decode b_M_sequence 276 = .ok (.imul, 1) := by decide +kernel
theorem d_M_sequence_277 : decode b_M_sequence 277 = .ok (.iload 7, 2) := by decide +kernel
theorem d_M_sequence_279 : decode b_M_sequence 279 = .ok (.iadd, 1) := by decide +kernel
theorem d_M_sequence_280 : decode b_M_sequence 280 = .ok (.iload 11, 2) := by decide +kernel
theorem d_M_sequence_282 : decode b_M_sequence 282 = .ok (.iastore, 1) := by decide +kernel
theorem d_M_sequence_283 : decode b_M_sequence 283 = .ok (.aload_n 0, 1) := by decide +kernel
theorem d_M_sequence_284 : decode b_M_sequence 284 = .ok (.getfield 98, 3) := by decide +kernel
theorem d_M_sequence_287 : decode b_M_sequence 287 = .ok (.bipush 16, 2) := by decide +kernel
theorem d_M_sequence_289 : decode b_M_sequence 289 = .ok (.iload 4, 2) := by decide +kernel
theorem d_M_sequence_291 : decode b_M_sequence 291 = .ok (.imul, 1) := by decide +kernel
theorem d_M_sequence_292 : decode b_M_sequence 292 = .ok (.iload 7, 2) := by decide +kernel
theorem d_M_sequence_294 : decode b_M_sequence 294 = .ok (.iadd, 1) := by decide +kernel
theorem d_M_sequence_295 : decode b_M_sequence 295 = .ok (.iload 12, 2) := by decide +kernel
theorem d_M_sequence_297 : decode b_M_sequence 297 = .ok (.iastore, 1) := by decide +kernel
theorem d_M_sequence_298 : decode b_M_sequence 298 = .ok (.iload 12, 2) := by decide +kernel
theorem d_M_sequence_300 : decode b_M_sequence 300 = .ok (.istore 5, 2) := by decide +kernel
theorem d_M_sequence_302 : decode b_M_sequence 302 = .ok (.goto (-231), 3) := by decide +kernel
theorem d_M_sequence_305 : decode b_M_sequence 305 = .ok (.iload 5, 2) := by decide +kernel
theorem d_M_sequence_307 : decode b_M_sequence 307 = .ok (.iload_n 3, 1) := by decide +kernel
theorem d_M_sequence_308 : decode b_M_sequence 308 = .ok (.if_icmp .ne 7, 3) := by decide +kernel
theorem d_M_sequence_311 : decode b_M_sequence 311 = .ok (.iconst 1, 1) := by decide +kernel
theorem d_M_sequence_312 : decode b_M_sequence 312 = .ok (.goto 4, 3) := by decide +kernel
theorem d_M_sequence_315 : decode b_M_sequence 315 = .ok (.iconst 0, 1) := by decide +kernel
theorem d_M_sequence_316 : decode b_M_sequence 316 = .ok (.ireturn, 1) := by decide +kernel
abbrev b_M_applied : ByteArray := prog_14_method_43_code
def y_M_applied : MethodName := ⟨R_M, "applied", "(ILjava/lang/String;III)Z"⟩
abbrev k_M_applied : Cond := .code y_M_applied b_M_applied 6 (some .boolean)
theorem ki_M_applied : k_M_applied ∈ lw_tg := in_t 2364 (by decide +kernel)
theorem ks_M_applied : Cond.instanceMethod y_M_applied ∈ lw_tg := in_t 2363 (by decide +kernel)
theorem kx_M_applied : Cond.selects R_M y_M_applied y_M_applied ∈ lw_tg := List.mem_filter.mpr ⟨List.mem_append_left _ (List.mem_of_getElem? (i := 94) (by decide +kernel)), rfl⟩
theorem kl_M_applied : Cond.methodLink R_M 522 y_M_applied ∈ lw_tg := in_t 2361 (by decide +kernel)
theorem hd_M_applied : y_M_applied.cls = R_M ∧ y_M_applied.cls ≠ "java/lang/invoke/MethodHandle" ∧ y_M_applied.cls ≠ "java/lang/invoke/VarHandle" ∧ (parseMethodDescriptor y_M_applied.desc).map (fun d => d.parameters.length) = some 5 := by decide +kernel
theorem d_M_applied_0 : decode b_M_applied 0 = .ok (.aload_n 0, 1) := by decide +kernel
theorem d_M_applied_1 : decode b_M_applied 1 = .ok (.iload_n 3, 1) := by decide +kernel
theorem d_M_applied_2 : decode b_M_applied 2 = .ok (.iload 4, 2) := by decide +kernel
theorem d_M_applied_4 : decode b_M_applied 4 = .ok (.bipush 96, 2) := by decide +kernel
theorem d_M_applied_6 : decode b_M_applied 6 = .ok (.iload_n 1, 1) := by decide +kernel
theorem d_M_applied_7 : decode b_M_applied 7 = .ok (.iadd, 1) := by decide +kernel
theorem d_M_applied_8 : decode b_M_applied 8 = .ok (.invokevirtual 480, 3) := by decide +kernel
theorem d_M_applied_11 : decode b_M_applied 11 = .ok (.ifCond .ne 5, 3) := by decide +kernel
theorem d_M_applied_14 : decode b_M_applied 14 = .ok (.iconst 0, 1) := by decide +kernel
theorem d_M_applied_15 : decode b_M_applied 15 = .ok (.ireturn, 1) := by decide +kernel
theorem d_M_applied_16 : decode b_M_applied 16 = .ok (.aload_n 0, 1) := by decide +kernel
theorem d_M_applied_17 : decode b_M_applied 17 = .ok (.aload_n 2, 1) := by decide +kernel
theorem d_M_applied_18 : decode b_M_applied 18 = .ok (.aload_n 0, 1) := by decide +kernel
theorem d_M_applied_19 : decode b_M_applied 19 = .ok (.getfield 470, 3) := by decide +kernel
theorem d_M_applied_22 : decode b_M_applied 22 = .ok (.iload 4, 2) := by decide +kernel
theorem d_M_applied_24 : decode b_M_applied 24 = .ok (.iload 5, 2) := by decide +kernel
theorem d_M_applied_26 : decode b_M_applied 26 = .ok (.invokevirtual 487, 3) := by decide +kernel
theorem d_M_applied_29 : decode b_M_applied 29 = .ok (.ireturn, 1) := by decide +kernel
abbrev b_M_number : ByteArray := prog_14_method_44_code
def y_M_number : MethodName := ⟨R_M, "number", "(IIJJ)Z"⟩
abbrev k_M_number : Cond := .code y_M_number b_M_number 12 (some .boolean)
theorem ki_M_number : k_M_number ∈ lw_tg := in_t 2386 (by decide +kernel)
theorem ks_M_number : Cond.instanceMethod y_M_number ∈ lw_tg := in_t 2385 (by decide +kernel)
theorem kx_M_number : Cond.selects R_M y_M_number y_M_number ∈ lw_tg := List.mem_filter.mpr ⟨List.mem_append_left _ (List.mem_of_getElem? (i := 99) (by decide +kernel)), rfl⟩
theorem kl_M_number : Cond.methodLink R_M 499 y_M_number ∈ lw_tg := in_t 2383 (by decide +kernel)
theorem hd_M_number : y_M_number.cls = R_M ∧ y_M_number.cls ≠ "java/lang/invoke/MethodHandle" ∧ y_M_number.cls ≠ "java/lang/invoke/VarHandle" ∧ (parseMethodDescriptor y_M_number.desc).map (fun d => d.parameters.length) = some 4 := by decide +kernel
theorem d_M_number_0 : decode b_M_number 0 = .ok (.aload_n 0, 1) := by decide +kernel
theorem d_M_number_1 : decode b_M_number 1 = .ok (.iload_n 1, 1) := by decide +kernel
theorem d_M_number_2 : decode b_M_number 2 = .ok (.iload_n 2, 1) := by decide +kernel
theorem d_M_number_3 : decode b_M_number 3 = .ok (.iconst 2, 1) := by decide +kernel
theorem d_M_number_4 : decode b_M_number 4 = .ok (.invokevirtual 480, 3) := by decide +kernel
theorem d_M_number_7 : decode b_M_number 7 = .ok (.ifCond .ne 5, 3) := by decide +kernel
theorem d_M_number_10 : decode b_M_number 10 = .ok (.iconst 0, 1) := by decide +kernel
theorem d_M_number_11 : decode b_M_number 11 = .ok (.ireturn, 1) := by decide +kernel
theorem d_M_number_12 : decode b_M_number 12 = .ok (.aload_n 0, 1) := by decide +kernel
theorem d_M_number_13 : decode b_M_number 13 = .ok (.getfield 470, 3) := by decide +kernel
theorem d_M_number_16 : decode b_M_number 16 = .ok (.istore 7, 2) := by decide +kernel
theorem d_M_number_18 : decode b_M_number 18 = .ok (.iload_n 2, 1) := by decide +kernel
theorem d_M_number_19 : decode b_M_number 19 = .ok (.iload 7, 2) := by decide +kernel
theorem d_M_number_21 : decode b_M_number 21 = .ok (.isub, 1) := by decide +kernel
theorem d_M_number_22 : decode b_M_number 22 = .ok (.istore 8, 2) := by decide +kernel
theorem d_M_number_24 : decode b_M_number 24 = .ok (.iload 8, 2) := by decide +kernel
theorem d_M_number_26 : decode b_M_number 26 = .ok (.iconst 1, 1) := by decide +kernel
theorem d_M_number_27 : decode b_M_number 27 = .ok (.if_icmp .lt 60, 3) := by decide +kernel
theorem d_M_number_30 : decode b_M_number 30 = .ok (.iload 8, 2) := by decide +kernel
theorem d_M_number_32 : decode b_M_number 32 = .ok (.iconst 5, 1) := by decide +kernel
theorem d_M_number_33 : decode b_M_number 33 = .ok (.if_icmp .gt 54, 3) := by decide +kernel
theorem d_M_number_36 : decode b_M_number 36 = .ok (.iload 8, 2) := by decide +kernel
theorem d_M_number_38 : decode b_M_number 38 = .ok (.iconst 1, 1) := by decide +kernel
theorem d_M_number_39 : decode b_M_number 39 = .ok (.if_icmp .le 50, 3) := by decide +kernel
theorem d_M_number_42 : decode b_M_number 42 = .ok (.aload_n 0, 1) := by decide +kernel
theorem d_M_number_43 : decode b_M_number 43 = .ok (.getfield 10, 3) := by decide +kernel
theorem d_M_number_46 : decode b_M_number 46 = .ok (.iload 7, 2) := by decide +kernel
theorem d_M_number_48 : decode b_M_number 48 = .ok (.baload, 1) := by decide +kernel
theorem d_M_number_49 : decode b_M_number 49 = .ok (.ifCond .ne 15, 3) := by decide +kernel
theorem d_M_number_52 : decode b_M_number 52 = .ok (.aload_n 0, 1) := by decide +kernel
theorem d_M_number_53 : decode b_M_number 53 = .ok (.getfield 10, 3) := by decide +kernel
theorem d_M_number_56 : decode b_M_number 56 = .ok (.iload 7, 2) := by decide +kernel
theorem d_M_number_58 : decode b_M_number 58 = .ok (.iconst 1, 1) := by decide +kernel
theorem d_M_number_59 : decode b_M_number 59 = .ok (.iadd, 1) := by decide +kernel
theorem d_M_number_60 : decode b_M_number 60 = .ok (.baload, 1) := by decide +kernel
theorem d_M_number_61 : decode b_M_number 61 = .ok (.ifCond .ge 26, 3) := by decide +kernel
theorem d_M_number_64 : decode b_M_number 64 = .ok (.aload_n 0, 1) := by decide +kernel
theorem d_M_number_65 : decode b_M_number 65 = .ok (.getfield 10, 3) := by decide +kernel
theorem d_M_number_68 : decode b_M_number 68 = .ok (.iload 7, 2) := by decide +kernel
theorem d_M_number_70 : decode b_M_number 70 = .ok (.baload, 1) := by decide +kernel
theorem d_M_number_71 : decode b_M_number 71 = .ok (.iconst (-1), 1) := by decide +kernel
theorem d_M_number_72 : decode b_M_number 72 = .ok (.if_icmp .ne 17, 3) := by decide +kernel
theorem d_M_number_75 : decode b_M_number 75 = .ok (.aload_n 0, 1) := by decide +kernel
theorem d_M_number_76 : decode b_M_number 76 = .ok (.getfield 10, 3) := by decide +kernel
theorem d_M_number_79 : decode b_M_number 79 = .ok (.iload 7, 2) := by decide +kernel
theorem d_M_number_81 : decode b_M_number 81 = .ok (.iconst 1, 1) := by decide +kernel
theorem d_M_number_82 : decode b_M_number 82 = .ok (.iadd, 1) := by decide +kernel
theorem d_M_number_83 : decode b_M_number 83 = .ok (.baload, 1) := by decide +kernel
theorem d_M_number_84 : decode b_M_number 84 = .ok (.ifCond .ge 5, 3) := by decide +kernel
theorem d_M_number_87 : decode b_M_number 87 = .ok (.iconst 0, 1) := by decide +kernel
theorem d_M_number_88 : decode b_M_number 88 = .ok (.ireturn, 1) := by decide +kernel
theorem d_M_number_89 : decode b_M_number 89 = .ok (.aload_n 0, 1) := by decide +kernel
theorem d_M_number_90 : decode b_M_number 90 = .ok (.getfield 10, 3) := by decide +kernel
theorem d_M_number_93 : decode b_M_number 93 = .ok (.iload 7, 2) := by decide +kernel
theorem d_M_number_95 : decode b_M_number 95 = .ok (.baload, 1) := by decide +kernel
theorem d_M_number_96 : decode b_M_number 96 = .ok (.i2l, 1) := by decide +kernel
theorem d_M_number_97 : decode b_M_number 97 = .ok (.lstore 9, 2) := by decide +kernel
theorem d_M_number_99 : decode b_M_number 99 = .ok (.iconst 1, 1) := by decide +kernel
theorem d_M_number_100 : decode b_M_number 100 = .ok (.istore 11, 2) := by decide +kernel
theorem d_M_number_102 : decode b_M_number 102 = .ok (.iload 11, 2) := by decide +kernel
theorem d_M_number_104 : decode b_M_number 104 = .ok (.iload 8, 2) := by decide +kernel
theorem d_M_number_106 : decode b_M_number 106 = .ok (.if_icmp .ge 32, 3) := by decide +kernel
theorem d_M_number_109 : decode b_M_number 109 = .ok (.lload 9, 2) := by decide +kernel
theorem d_M_number_111 : decode b_M_number 111 = .ok (.bipush 8, 2) := by decide +kernel
theorem d_M_number_113 : decode b_M_number 113 = .ok (.lshl, 1) := by decide +kernel
theorem d_M_number_114 : decode b_M_number 114 = .ok (.aload_n 0, 1) := by decide +kernel
theorem d_M_number_115 : decode b_M_number 115 = .ok (.getfield 10, 3) := by decide +kernel
theorem d_M_number_118 : decode b_M_number 118 = .ok (.iload 7, 2) := by decide +kernel
theorem d_M_number_120 : decode b_M_number 120 = .ok (.iload 11, 2) := by decide +kernel
theorem d_M_number_122 : decode b_M_number 122 = .ok (.iadd, 1) := by decide +kernel
theorem d_M_number_123 : decode b_M_number 123 = .ok (.baload, 1) := by decide +kernel
theorem d_M_number_124 : decode b_M_number 124 = .ok (.sipush 255, 3) := by decide +kernel
theorem d_M_number_127 : decode b_M_number 127 = .ok (.iand, 1) := by decide +kernel
theorem d_M_number_128 : decode b_M_number 128 = .ok (.i2l, 1) := by decide +kernel
theorem d_M_number_129 : decode b_M_number 129 = .ok (.lor, 1) := by decide +kernel
theorem d_M_number_130 : decode b_M_number 130 = .ok (.lstore 9, 2) := by decide +kernel
theorem d_M_number_132 : decode b_M_number 132 = .ok (.iinc 11 1, 3) := by decide +kernel
theorem d_M_number_135 : decode b_M_number 135 = .ok (.goto (-33), 3) := by decide +kernel
theorem d_M_number_138 : decode b_M_number 138 = .ok (.aload_n 0, 1) := by decide +kernel
theorem d_M_number_139 : decode b_M_number 139 = .ok (.lload 9, 2) := by decide +kernel
theorem d_M_number_141 : decode b_M_number 141 = .ok (.putfield 491, 3) := by decide +kernel
theorem d_M_number_144 : decode b_M_number 144 = .ok (.lload 9, 2) := by decide +kernel
theorem d_M_number_146 : decode b_M_number 146 = .ok (.lload_n 3, 1) := by decide +kernel
theorem d_M_number_147 : decode b_M_number 147 = .ok (.lcmp, 1) := by decide +kernel
theorem d_M_number_148 : decode b_M_number 148 = .ok (.ifCond .lt 15, 3) := by decide +kernel
theorem d_M_number_151 : decode b_M_number 151 = .ok (.lload 9, 2) := by decide +kernel
theorem d_M_number_153 : decode b_M_number 153 = .ok (.lload 5, 2) := by decide +kernel
theorem d_M_number_155 : decode b_M_number 155 = .ok (.lcmp, 1) := by decide +kernel
theorem d_M_number_156 : decode b_M_number 156 = .ok (.ifCond .gt 7, 3) := by decide +kernel
theorem d_M_number_159 : decode b_M_number 159 = .ok (.iconst 1, 1) := by decide +kernel
theorem d_M_number_160 : decode b_M_number 160 = .ok (.goto 4, 3) := by decide +kernel
theorem d_M_number_163 : decode b_M_number 163 = .ok (.iconst 0, 1) := by decide +kernel
theorem d_M_number_164 : decode b_M_number 164 = .ok (.ireturn, 1) := by decide +kernel
abbrev b_M_is : ByteArray := prog_14_method_45_code
def y_M_is : MethodName := ⟨R_M, "is", "(CII)Z"⟩
abbrev k_M_is : Cond := .code y_M_is b_M_is 6 (some .boolean)
theorem ki_M_is : k_M_is ∈ lw_tg := in_t 2380 (by decide +kernel)
theorem ks_M_is : Cond.instanceMethod y_M_is ∈ lw_tg := in_t 2379 (by decide +kernel)
theorem kx_M_is : Cond.selects R_M y_M_is y_M_is ∈ lw_tg := List.mem_filter.mpr ⟨List.mem_append_left _ (List.mem_of_getElem? (i := 98) (by decide +kernel)), rfl⟩
theorem kl_M_is : Cond.methodLink R_M 483 y_M_is ∈ lw_tg := in_t 2377 (by decide +kernel)
theorem hd_M_is : y_M_is.cls = R_M ∧ y_M_is.cls ≠ "java/lang/invoke/MethodHandle" ∧ y_M_is.cls ≠ "java/lang/invoke/VarHandle" ∧ (parseMethodDescriptor y_M_is.desc).map (fun d => d.parameters.length) = some 3 := by decide +kernel
theorem d_M_is_0 : decode b_M_is 0 = .ok (.iload_n 1, 1) := by decide +kernel
theorem d_M_is_1 : decode b_M_is 1 = .ok (.tableswitch 577 65 117 #[479, 577, 447, 577, 436, 577, 577, 447, 546, 577, 447, 557, 577, 416, 577, 488, 577, 447, 427, 458, 577, 537, 577, 577, 526, 577, 577, 577, 577, 577, 577, 577, 577, 577, 577, 577, 508, 378, 577, 470, 227, 577, 517, 566, 251, 577, 262, 497, 577, 577, 270, 337, 240], 227) := by decide +kernel
theorem d_M_is_228 : decode b_M_is 228 = .ok (.aload_n 0, 1) := by decide +kernel
theorem d_M_is_229 : decode b_M_is 229 = .ok (.iload_n 2, 1) := by decide +kernel
theorem d_M_is_230 : decode b_M_is 230 = .ok (.iload_n 3, 1) := by decide +kernel
theorem d_M_is_231 : decode b_M_is 231 = .ok (.ldc2_w 495, 3) := by decide +kernel
theorem d_M_is_234 : decode b_M_is 234 = .ok (.ldc2_w 497, 3) := by decide +kernel
theorem d_M_is_237 : decode b_M_is 237 = .ok (.invokevirtual 499, 3) := by decide +kernel
theorem d_M_is_240 : decode b_M_is 240 = .ok (.ireturn, 1) := by decide +kernel
theorem d_M_is_241 : decode b_M_is 241 = .ok (.aload_n 0, 1) := by decide +kernel
theorem d_M_is_242 : decode b_M_is 242 = .ok (.iload_n 2, 1) := by decide +kernel
theorem d_M_is_243 : decode b_M_is 243 = .ok (.iload_n 3, 1) := by decide +kernel
theorem d_M_is_244 : decode b_M_is 244 = .ok (.lconst 0, 1) := by decide +kernel
theorem d_M_is_245 : decode b_M_is 245 = .ok (.ldc2_w 503, 3) := by decide +kernel
theorem d_M_is_248 : decode b_M_is 248 = .ok (.invokevirtual 499, 3) := by decide +kernel
theorem d_M_is_251 : decode b_M_is 251 = .ok (.ireturn, 1) := by decide +kernel
theorem d_M_is_252 : decode b_M_is 252 = .ok (.aload_n 0, 1) := by decide +kernel
theorem d_M_is_253 : decode b_M_is 253 = .ok (.iload_n 2, 1) := by decide +kernel
theorem d_M_is_254 : decode b_M_is 254 = .ok (.iload_n 3, 1) := by decide +kernel
theorem d_M_is_255 : decode b_M_is 255 = .ok (.lconst 0, 1) := by decide +kernel
theorem d_M_is_256 : decode b_M_is 256 = .ok (.ldc2_w 505, 3) := by decide +kernel
theorem d_M_is_259 : decode b_M_is 259 = .ok (.invokevirtual 499, 3) := by decide +kernel
theorem d_M_is_262 : decode b_M_is 262 = .ok (.ireturn, 1) := by decide +kernel
theorem d_M_is_263 : decode b_M_is 263 = .ok (.aload_n 0, 1) := by decide +kernel
theorem d_M_is_264 : decode b_M_is 264 = .ok (.iload_n 2, 1) := by decide +kernel
theorem d_M_is_265 : decode b_M_is 265 = .ok (.iload_n 3, 1) := by decide +kernel
theorem d_M_is_266 : decode b_M_is 266 = .ok (.iconst 4, 1) := by decide +kernel
theorem d_M_is_267 : decode b_M_is 267 = .ok (.invokevirtual 480, 3) := by decide +kernel
theorem d_M_is_270 : decode b_M_is 270 = .ok (.ireturn, 1) := by decide +kernel
theorem d_M_is_271 : decode b_M_is 271 = .ok (.aload_n 0, 1) := by decide +kernel
theorem d_M_is_272 : decode b_M_is 272 = .ok (.iload_n 2, 1) := by decide +kernel
theorem d_M_is_273 : decode b_M_is 273 = .ok (.iload_n 3, 1) := by decide +kernel
theorem d_M_is_274 : decode b_M_is 274 = .ok (.bipush 27, 2) := by decide +kernel
theorem d_M_is_276 : decode b_M_is 276 = .ok (.invokevirtual 480, 3) := by decide +kernel
theorem d_M_is_279 : decode b_M_is 279 = .ok (.istore 4, 2) := by decide +kernel
theorem d_M_is_281 : decode b_M_is 281 = .ok (.aload_n 0, 1) := by decide +kernel
theorem d_M_is_282 : decode b_M_is 282 = .ok (.getfield 470, 3) := by decide +kernel
theorem d_M_is_285 : decode b_M_is 285 = .ok (.istore 5, 2) := by decide +kernel
theorem d_M_is_287 : decode b_M_is 287 = .ok (.iload 5, 2) := by decide +kernel
theorem d_M_is_289 : decode b_M_is 289 = .ok (.iload_n 3, 1) := by decide +kernel
theorem d_M_is_290 : decode b_M_is 290 = .ok (.if_icmp .ge 45, 3) := by decide +kernel
theorem d_M_is_293 : decode b_M_is 293 = .ok (.iload 4, 2) := by decide +kernel
theorem d_M_is_295 : decode b_M_is 295 = .ok (.ifCond .eq 40, 3) := by decide +kernel
theorem d_M_is_298 : decode b_M_is 298 = .ok (.aload_n 0, 1) := by decide +kernel
theorem d_M_is_299 : decode b_M_is 299 = .ok (.getfield 10, 3) := by decide +kernel
theorem d_M_is_302 : decode b_M_is 302 = .ok (.iload 5, 2) := by decide +kernel
theorem d_M_is_304 : decode b_M_is 304 = .ok (.baload, 1) := by decide +kernel
theorem d_M_is_305 : decode b_M_is 305 = .ok (.bipush 32, 2) := by decide +kernel
theorem d_M_is_307 : decode b_M_is 307 = .ok (.if_icmp .lt 19, 3) := by decide +kernel
theorem d_M_is_310 : decode b_M_is 310 = .ok (.aload_n 0, 1) := by decide +kernel
theorem d_M_is_311 : decode b_M_is 311 = .ok (.getfield 10, 3) := by decide +kernel
theorem d_M_is_314 : decode b_M_is 314 = .ok (.iload 5, 2) := by decide +kernel
theorem d_M_is_316 : decode b_M_is 316 = .ok (.baload, 1) := by decide +kernel
theorem d_M_is_317 : decode b_M_is 317 = .ok (.bipush 126, 2) := by decide +kernel
theorem d_M_is_319 : decode b_M_is 319 = .ok (.if_icmp .gt 7, 3) := by decide +kernel
theorem d_M_is_322 : decode b_M_is 322 = .ok (.iconst 1, 1) := by decide +kernel
theorem d_M_is_323 : decode b_M_is 323 = .ok (.goto 4, 3) := by decide +kernel
theorem d_M_is_326 : decode b_M_is 326 = .ok (.iconst 0, 1) := by decide +kernel
theorem d_M_is_327 : decode b_M_is 327 = .ok (.istore 4, 2) := by decide +kernel
theorem d_M_is_329 : decode b_M_is 329 = .ok (.iinc 5 1, 3) := by decide +kernel
theorem d_M_is_332 : decode b_M_is 332 = .ok (.goto (-45), 3) := by decide +kernel
theorem d_M_is_335 : decode b_M_is 335 = .ok (.iload 4, 2) := by decide +kernel
theorem d_M_is_337 : decode b_M_is 337 = .ok (.ireturn, 1) := by decide +kernel
theorem d_M_is_338 : decode b_M_is 338 = .ok (.aload_n 0, 1) := by decide +kernel
theorem d_M_is_339 : decode b_M_is 339 = .ok (.iload_n 2, 1) := by decide +kernel
theorem d_M_is_340 : decode b_M_is 340 = .ok (.iload_n 3, 1) := by decide +kernel
theorem d_M_is_341 : decode b_M_is 341 = .ok (.bipush 24, 2) := by decide +kernel
theorem d_M_is_343 : decode b_M_is 343 = .ok (.invokevirtual 480, 3) := by decide +kernel
theorem d_M_is_346 : decode b_M_is 346 = .ok (.ifCond .eq 31, 3) := by decide +kernel
theorem d_M_is_349 : decode b_M_is 349 = .ok (.iload_n 3, 1) := by decide +kernel
theorem d_M_is_350 : decode b_M_is 350 = .ok (.aload_n 0, 1) := by decide +kernel
theorem d_M_is_351 : decode b_M_is 351 = .ok (.getfield 470, 3) := by decide +kernel
theorem d_M_is_354 : decode b_M_is 354 = .ok (.isub, 1) := by decide +kernel
theorem d_M_is_355 : decode b_M_is 355 = .ok (.bipush 15, 2) := by decide +kernel
theorem d_M_is_357 : decode b_M_is 357 = .ok (.if_icmp .ne 20, 3) := by decide +kernel
theorem d_M_is_360 : decode b_M_is 360 = .ok (.aload_n 0, 1) := by decide +kernel
theorem d_M_is_361 : decode b_M_is 361 = .ok (.aload_n 0, 1) := by decide +kernel
theorem d_M_is_362 : decode b_M_is 362 = .ok (.getfield 470, 3) := by decide +kernel
theorem d_M_is_365 : decode b_M_is 365 = .ok (.invokevirtual 507, 3) := by decide +kernel
theorem d_M_is_368 : decode b_M_is 368 = .ok (.lconst 0, 1) := by decide +kernel
theorem d_M_is_369 : decode b_M_is 369 = .ok (.lcmp, 1) := by decide +kernel
theorem d_M_is_370 : decode b_M_is 370 = .ok (.ifCond .lt 7, 3) := by decide +kernel
theorem d_M_is_373 : decode b_M_is 373 = .ok (.iconst 1, 1) := by decide +kernel
theorem d_M_is_374 : decode b_M_is 374 = .ok (.goto 4, 3) := by decide +kernel
theorem d_M_is_377 : decode b_M_is 377 = .ok (.iconst 0, 1) := by decide +kernel
theorem d_M_is_378 : decode b_M_is 378 = .ok (.ireturn, 1) := by decide +kernel
theorem d_M_is_379 : decode b_M_is 379 = .ok (.aload_n 0, 1) := by decide +kernel
theorem d_M_is_380 : decode b_M_is 380 = .ok (.iload_n 2, 1) := by decide +kernel
theorem d_M_is_381 : decode b_M_is 381 = .ok (.iload_n 3, 1) := by decide +kernel
theorem d_M_is_382 : decode b_M_is 382 = .ok (.iconst 3, 1) := by decide +kernel
theorem d_M_is_383 : decode b_M_is 383 = .ok (.invokevirtual 480, 3) := by decide +kernel
theorem d_M_is_386 : decode b_M_is 386 = .ok (.ifCond .eq 29, 3) := by decide +kernel
theorem d_M_is_389 : decode b_M_is 389 = .ok (.iload_n 3, 1) := by decide +kernel
theorem d_M_is_390 : decode b_M_is 390 = .ok (.aload_n 0, 1) := by decide +kernel
theorem d_M_is_391 : decode b_M_is 391 = .ok (.getfield 470, 3) := by decide +kernel
theorem d_M_is_394 : decode b_M_is 394 = .ok (.isub, 1) := by decide +kernel
theorem d_M_is_395 : decode b_M_is 395 = .ok (.iconst 5, 1) := by decide +kernel
theorem d_M_is_396 : decode b_M_is 396 = .ok (.if_icmp .lt 19, 3) := by decide +kernel
theorem d_M_is_399 : decode b_M_is 399 = .ok (.aload_n 0, 1) := by decide +kernel
theorem d_M_is_400 : decode b_M_is 400 = .ok (.getfield 10, 3) := by decide +kernel
theorem d_M_is_403 : decode b_M_is 403 = .ok (.aload_n 0, 1) := by decide +kernel
theorem d_M_is_404 : decode b_M_is 404 = .ok (.getfield 470, 3) := by decide +kernel
theorem d_M_is_407 : decode b_M_is 407 = .ok (.baload, 1) := by decide +kernel
theorem d_M_is_408 : decode b_M_is 408 = .ok (.ifCond .ne 7, 3) := by decide +kernel
theorem d_M_is_411 : decode b_M_is 411 = .ok (.iconst 1, 1) := by decide +kernel
theorem d_M_is_412 : decode b_M_is 412 = .ok (.goto 4, 3) := by decide +kernel
theorem d_M_is_415 : decode b_M_is 415 = .ok (.iconst 0, 1) := by decide +kernel
theorem d_M_is_416 : decode b_M_is 416 = .ok (.ireturn, 1) := by decide +kernel
theorem d_M_is_417 : decode b_M_is 417 = .ok (.aload_n 0, 1) := by decide +kernel
theorem d_M_is_418 : decode b_M_is 418 = .ok (.ldc_w 511, 3) := by decide +kernel
theorem d_M_is_421 : decode b_M_is 421 = .ok (.iload_n 2, 1) := by decide +kernel
theorem d_M_is_422 : decode b_M_is 422 = .ok (.iload_n 3, 1) := by decide +kernel
theorem d_M_is_423 : decode b_M_is 423 = .ok (.iconst (-1), 1) := by decide +kernel
theorem d_M_is_424 : decode b_M_is 424 = .ok (.invokevirtual 487, 3) := by decide +kernel
theorem d_M_is_427 : decode b_M_is 427 = .ok (.ireturn, 1) := by decide +kernel
theorem d_M_is_428 : decode b_M_is 428 = .ok (.aload_n 0, 1) := by decide +kernel
theorem d_M_is_429 : decode b_M_is 429 = .ok (.bipush 115, 2) := by decide +kernel
theorem d_M_is_431 : decode b_M_is 431 = .ok (.iload_n 2, 1) := by decide +kernel
theorem d_M_is_432 : decode b_M_is 432 = .ok (.iload_n 3, 1) := by decide +kernel
theorem d_M_is_433 : decode b_M_is 433 = .ok (.invokevirtual 513, 3) := by decide +kernel
theorem d_M_is_436 : decode b_M_is 436 = .ok (.ireturn, 1) := by decide +kernel
theorem d_M_is_437 : decode b_M_is 437 = .ok (.aload_n 0, 1) := by decide +kernel
theorem d_M_is_438 : decode b_M_is 438 = .ok (.ldc_w 516, 3) := by decide +kernel
theorem d_M_is_441 : decode b_M_is 441 = .ok (.iload_n 2, 1) := by decide +kernel
theorem d_M_is_442 : decode b_M_is 442 = .ok (.iload_n 3, 1) := by decide +kernel
theorem d_M_is_443 : decode b_M_is 443 = .ok (.iconst (-1), 1) := by decide +kernel
theorem d_M_is_444 : decode b_M_is 444 = .ok (.invokevirtual 487, 3) := by decide +kernel
theorem d_M_is_447 : decode b_M_is 447 = .ok (.ireturn, 1) := by decide +kernel
theorem d_M_is_448 : decode b_M_is 448 = .ok (.aload_n 0, 1) := by decide +kernel
theorem d_M_is_449 : decode b_M_is 449 = .ok (.ldc_w 518, 3) := by decide +kernel
theorem d_M_is_452 : decode b_M_is 452 = .ok (.iload_n 2, 1) := by decide +kernel
theorem d_M_is_453 : decode b_M_is 453 = .ok (.iload_n 3, 1) := by decide +kernel
theorem d_M_is_454 : decode b_M_is 454 = .ok (.iconst (-1), 1) := by decide +kernel
theorem d_M_is_455 : decode b_M_is 455 = .ok (.invokevirtual 487, 3) := by decide +kernel
theorem d_M_is_458 : decode b_M_is 458 = .ok (.ireturn, 1) := by decide +kernel
theorem d_M_is_459 : decode b_M_is 459 = .ok (.aload_n 0, 1) := by decide +kernel
theorem d_M_is_460 : decode b_M_is 460 = .ok (.iconst 1, 1) := by decide +kernel
theorem d_M_is_461 : decode b_M_is 461 = .ok (.ldc_w 520, 3) := by decide +kernel
theorem d_M_is_464 : decode b_M_is 464 = .ok (.iload_n 2, 1) := by decide +kernel
theorem d_M_is_465 : decode b_M_is 465 = .ok (.iload_n 3, 1) := by decide +kernel
theorem d_M_is_466 : decode b_M_is 466 = .ok (.iconst (-1), 1) := by decide +kernel
theorem d_M_is_467 : decode b_M_is 467 = .ok (.invokevirtual 522, 3) := by decide +kernel
theorem d_M_is_470 : decode b_M_is 470 = .ok (.ireturn, 1) := by decide +kernel
theorem d_M_is_471 : decode b_M_is 471 = .ok (.aload_n 0, 1) := by decide +kernel
theorem d_M_is_472 : decode b_M_is 472 = .ok (.bipush 72, 2) := by decide +kernel
theorem d_M_is_474 : decode b_M_is 474 = .ok (.iload_n 2, 1) := by decide +kernel
theorem d_M_is_475 : decode b_M_is 475 = .ok (.iload_n 3, 1) := by decide +kernel
theorem d_M_is_476 : decode b_M_is 476 = .ok (.invokevirtual 513, 3) := by decide +kernel
theorem d_M_is_479 : decode b_M_is 479 = .ok (.ireturn, 1) := by decide +kernel
theorem d_M_is_480 : decode b_M_is 480 = .ok (.aload_n 0, 1) := by decide +kernel
theorem d_M_is_481 : decode b_M_is 481 = .ok (.bipush 75, 2) := by decide +kernel
theorem d_M_is_483 : decode b_M_is 483 = .ok (.iload_n 2, 1) := by decide +kernel
theorem d_M_is_484 : decode b_M_is 484 = .ok (.iload_n 3, 1) := by decide +kernel
theorem d_M_is_485 : decode b_M_is 485 = .ok (.invokevirtual 513, 3) := by decide +kernel
theorem d_M_is_488 : decode b_M_is 488 = .ok (.ireturn, 1) := by decide +kernel
theorem d_M_is_489 : decode b_M_is 489 = .ok (.aload_n 0, 1) := by decide +kernel
theorem d_M_is_490 : decode b_M_is 490 = .ok (.bipush 112, 2) := by decide +kernel
theorem d_M_is_492 : decode b_M_is 492 = .ok (.iload_n 2, 1) := by decide +kernel
theorem d_M_is_493 : decode b_M_is 493 = .ok (.iload_n 3, 1) := by decide +kernel
theorem d_M_is_494 : decode b_M_is 494 = .ok (.invokevirtual 513, 3) := by decide +kernel
theorem d_M_is_497 : decode b_M_is 497 = .ok (.ireturn, 1) := by decide +kernel
theorem d_M_is_498 : decode b_M_is 498 = .ok (.aload_n 0, 1) := by decide +kernel
theorem d_M_is_499 : decode b_M_is 499 = .ok (.ldc_w 526, 3) := by decide +kernel
theorem d_M_is_502 : decode b_M_is 502 = .ok (.iload_n 2, 1) := by decide +kernel
theorem d_M_is_503 : decode b_M_is 503 = .ok (.iload_n 3, 1) := by decide +kernel
theorem d_M_is_504 : decode b_M_is 504 = .ok (.iconst (-1), 1) := by decide +kernel
theorem d_M_is_505 : decode b_M_is 505 = .ok (.invokevirtual 487, 3) := by decide +kernel
theorem d_M_is_508 : decode b_M_is 508 = .ok (.ireturn, 1) := by decide +kernel
theorem d_M_is_509 : decode b_M_is 509 = .ok (.aload_n 0, 1) := by decide +kernel
theorem d_M_is_510 : decode b_M_is 510 = .ok (.bipush 105, 2) := by decide +kernel
theorem d_M_is_512 : decode b_M_is 512 = .ok (.iload_n 2, 1) := by decide +kernel
theorem d_M_is_513 : decode b_M_is 513 = .ok (.iload_n 3, 1) := by decide +kernel
theorem d_M_is_514 : decode b_M_is 514 = .ok (.invokevirtual 513, 3) := by decide +kernel
theorem d_M_is_517 : decode b_M_is 517 = .ok (.ireturn, 1) := by decide +kernel
theorem d_M_is_518 : decode b_M_is 518 = .ok (.aload_n 0, 1) := by decide +kernel
theorem d_M_is_519 : decode b_M_is 519 = .ok (.bipush 84, 2) := by decide +kernel
theorem d_M_is_521 : decode b_M_is 521 = .ok (.iload_n 2, 1) := by decide +kernel
theorem d_M_is_522 : decode b_M_is 522 = .ok (.iload_n 3, 1) := by decide +kernel
theorem d_M_is_523 : decode b_M_is 523 = .ok (.invokevirtual 513, 3) := by decide +kernel
theorem d_M_is_526 : decode b_M_is 526 = .ok (.ireturn, 1) := by decide +kernel
theorem d_M_is_527 : decode b_M_is 527 = .ok (.aload_n 0, 1) := by decide +kernel
theorem d_M_is_528 : decode b_M_is 528 = .ok (.ldc_w 528, 3) := by decide +kernel
theorem d_M_is_531 : decode b_M_is 531 = .ok (.iload_n 2, 1) := by decide +kernel
theorem d_M_is_532 : decode b_M_is 532 = .ok (.iload_n 3, 1) := by decide +kernel
theorem d_M_is_533 : decode b_M_is 533 = .ok (.iconst (-1), 1) := by decide +kernel
theorem d_M_is_534 : decode b_M_is 534 = .ok (.invokevirtual 487, 3) := by decide +kernel
theorem d_M_is_537 : decode b_M_is 537 = .ok (.ireturn, 1) := by decide +kernel
theorem d_M_is_538 : decode b_M_is 538 = .ok (.aload_n 0, 1) := by decide +kernel
theorem d_M_is_539 : decode b_M_is 539 = .ok (.bipush 73, 2) := by decide +kernel
theorem d_M_is_541 : decode b_M_is 541 = .ok (.iload_n 2, 1) := by decide +kernel
theorem d_M_is_542 : decode b_M_is 542 = .ok (.iload_n 3, 1) := by decide +kernel
theorem d_M_is_543 : decode b_M_is 543 = .ok (.invokevirtual 513, 3) := by decide +kernel
theorem d_M_is_546 : decode b_M_is 546 = .ok (.ireturn, 1) := by decide +kernel
theorem d_M_is_547 : decode b_M_is 547 = .ok (.aload_n 0, 1) := by decide +kernel
theorem d_M_is_548 : decode b_M_is 548 = .ok (.ldc_w 530, 3) := by decide +kernel
theorem d_M_is_551 : decode b_M_is 551 = .ok (.iload_n 2, 1) := by decide +kernel
theorem d_M_is_552 : decode b_M_is 552 = .ok (.iload_n 3, 1) := by decide +kernel
theorem d_M_is_553 : decode b_M_is 553 = .ok (.iconst (-1), 1) := by decide +kernel
theorem d_M_is_554 : decode b_M_is 554 = .ok (.invokevirtual 487, 3) := by decide +kernel
theorem d_M_is_557 : decode b_M_is 557 = .ok (.ireturn, 1) := by decide +kernel
theorem d_M_is_558 : decode b_M_is 558 = .ok (.aload_n 0, 1) := by decide +kernel
theorem d_M_is_559 : decode b_M_is 559 = .ok (.bipush 108, 2) := by decide +kernel
theorem d_M_is_561 : decode b_M_is 561 = .ok (.iload_n 2, 1) := by decide +kernel
theorem d_M_is_562 : decode b_M_is 562 = .ok (.iload_n 3, 1) := by decide +kernel
theorem d_M_is_563 : decode b_M_is 563 = .ok (.invokevirtual 513, 3) := by decide +kernel
theorem d_M_is_566 : decode b_M_is 566 = .ok (.ireturn, 1) := by decide +kernel
theorem d_M_is_567 : decode b_M_is 567 = .ok (.aload_n 0, 1) := by decide +kernel
theorem d_M_is_568 : decode b_M_is 568 = .ok (.ldc_w 532, 3) := by decide +kernel
theorem d_M_is_571 : decode b_M_is 571 = .ok (.iload_n 2, 1) := by decide +kernel
theorem d_M_is_572 : decode b_M_is 572 = .ok (.iload_n 3, 1) := by decide +kernel
theorem d_M_is_573 : decode b_M_is 573 = .ok (.iconst (-1), 1) := by decide +kernel
theorem d_M_is_574 : decode b_M_is 574 = .ok (.invokevirtual 487, 3) := by decide +kernel
theorem d_M_is_577 : decode b_M_is 577 = .ok (.ireturn, 1) := by decide +kernel
theorem d_M_is_578 : decode b_M_is 578 = .ok (.aload_n 0, 1) := by decide +kernel
theorem d_M_is_579 : decode b_M_is 579 = .ok (.ldc_w 534, 3) := by decide +kernel
theorem d_M_is_582 : decode b_M_is 582 = .ok (.iload_n 2, 1) := by decide +kernel
theorem d_M_is_583 : decode b_M_is 583 = .ok (.iload_n 3, 1) := by decide +kernel
theorem d_M_is_584 : decode b_M_is 584 = .ok (.iconst (-1), 1) := by decide +kernel
theorem d_M_is_585 : decode b_M_is 585 = .ok (.invokevirtual 487, 3) := by decide +kernel
theorem d_M_is_588 : decode b_M_is 588 = .ok (.ireturn, 1) := by decide +kernel
abbrev b_M_row : ByteArray := prog_14_method_46_code
def y_M_row : MethodName := ⟨R_M, "row", "(CII)Z"⟩
abbrev k_M_row : Cond := .code y_M_row b_M_row 7 (some .boolean)
theorem ki_M_row : k_M_row ∈ lw_tg := in_t 2411 (by decide +kernel)
theorem ks_M_row : Cond.instanceMethod y_M_row ∈ lw_tg := in_t 2410 (by decide +kernel)
theorem kx_M_row : Cond.selects R_M y_M_row y_M_row ∈ lw_tg := List.mem_filter.mpr ⟨List.mem_append_left _ (List.mem_of_getElem? (i := 102) (by decide +kernel)), rfl⟩
theorem kl_M_row : Cond.methodLink R_M 513 y_M_row ∈ lw_tg := in_t 2408 (by decide +kernel)
theorem hd_M_row : y_M_row.cls = R_M ∧ y_M_row.cls ≠ "java/lang/invoke/MethodHandle" ∧ y_M_row.cls ≠ "java/lang/invoke/VarHandle" ∧ (parseMethodDescriptor y_M_row.desc).map (fun d => d.parameters.length) = some 3 := by decide +kernel
theorem d_M_row_0 : decode b_M_row 0 = .ok (.aload_n 0, 1) := by decide +kernel
theorem d_M_row_1 : decode b_M_row 1 = .ok (.iload_n 2, 1) := by decide +kernel
theorem d_M_row_2 : decode b_M_row 2 = .ok (.iload_n 3, 1) := by decide +kernel
theorem d_M_row_3 : decode b_M_row 3 = .ok (.bipush 48, 2) := by decide +kernel
theorem d_M_row_5 : decode b_M_row 5 = .ok (.invokevirtual 480, 3) := by decide +kernel
theorem d_M_row_8 : decode b_M_row 8 = .ok (.ifCond .ne 5, 3) := by decide +kernel
theorem d_M_row_11 : decode b_M_row 11 = .ok (.iconst 0, 1) := by decide +kernel
theorem d_M_row_12 : decode b_M_row 12 = .ok (.ireturn, 1) := by decide +kernel
theorem d_M_row_13 : decode b_M_row 13 = .ok (.aload_n 0, 1) := by decide +kernel
theorem d_M_row_14 : decode b_M_row 14 = .ok (.getfield 470, 3) := by decide +kernel
theorem d_M_row_17 : decode b_M_row 17 = .ok (.istore 4, 2) := by decide +kernel
theorem d_M_row_19 : decode b_M_row 19 = .ok (.iconst 0, 1) := by decide +kernel
theorem d_M_row_20 : decode b_M_row 20 = .ok (.istore 5, 2) := by decide +kernel
theorem d_M_row_22 : decode b_M_row 22 = .ok (.iload 4, 2) := by decide +kernel
theorem d_M_row_24 : decode b_M_row 24 = .ok (.iload_n 3, 1) := by decide +kernel
theorem d_M_row_25 : decode b_M_row 25 = .ok (.if_icmp .ge 71, 3) := by decide +kernel
theorem d_M_row_28 : decode b_M_row 28 = .ok (.iload 5, 2) := by decide +kernel
theorem d_M_row_30 : decode b_M_row 30 = .ok (.bipush 16, 2) := by decide +kernel
theorem d_M_row_32 : decode b_M_row 32 = .ok (.if_icmp .eq 32, 3) := by decide +kernel
theorem d_M_row_35 : decode b_M_row 35 = .ok (.iload 4, 2) := by decide +kernel
theorem d_M_row_37 : decode b_M_row 37 = .ok (.iconst 2, 1) := by decide +kernel
theorem d_M_row_38 : decode b_M_row 38 = .ok (.iadd, 1) := by decide +kernel
theorem d_M_row_39 : decode b_M_row 39 = .ok (.iload_n 3, 1) := by decide +kernel
theorem d_M_row_40 : decode b_M_row 40 = .ok (.if_icmp .gt 24, 3) := by decide +kernel
theorem d_M_row_43 : decode b_M_row 43 = .ok (.aload_n 0, 1) := by decide +kernel
theorem d_M_row_44 : decode b_M_row 44 = .ok (.iload 4, 2) := by decide +kernel
theorem d_M_row_46 : decode b_M_row 46 = .ok (.iload_n 3, 1) := by decide +kernel
theorem d_M_row_47 : decode b_M_row 47 = .ok (.aload_n 0, 1) := by decide +kernel
theorem d_M_row_48 : decode b_M_row 48 = .ok (.getfield 10, 3) := by decide +kernel
theorem d_M_row_51 : decode b_M_row 51 = .ok (.iload 4, 2) := by decide +kernel
theorem d_M_row_53 : decode b_M_row 53 = .ok (.baload, 1) := by decide +kernel
theorem d_M_row_54 : decode b_M_row 54 = .ok (.sipush 255, 3) := by decide +kernel
theorem d_M_row_57 : decode b_M_row 57 = .ok (.iand, 1) := by decide +kernel
theorem d_M_row_58 : decode b_M_row 58 = .ok (.invokevirtual 476, 3) := by decide +kernel
theorem d_M_row_61 : decode b_M_row 61 = .ok (.ifCond .ne 5, 3) := by decide +kernel
theorem d_M_row_64 : decode b_M_row 64 = .ok (.iconst 0, 1) := by decide +kernel
theorem d_M_row_65 : decode b_M_row 65 = .ok (.ireturn, 1) := by decide +kernel
theorem d_M_row_66 : decode b_M_row 66 = .ok (.aload_n 0, 1) := by decide +kernel
theorem d_M_row_67 : decode b_M_row 67 = .ok (.getfield 473, 3) := by decide +kernel
theorem d_M_row_70 : decode b_M_row 70 = .ok (.istore 6, 2) := by decide +kernel
theorem d_M_row_72 : decode b_M_row 72 = .ok (.aload_n 0, 1) := by decide +kernel
theorem d_M_row_73 : decode b_M_row 73 = .ok (.iload_n 1, 1) := by decide +kernel
theorem d_M_row_74 : decode b_M_row 74 = .ok (.iload 4, 2) := by decide +kernel
theorem d_M_row_76 : decode b_M_row 76 = .ok (.iload 6, 2) := by decide +kernel
theorem d_M_row_78 : decode b_M_row 78 = .ok (.invokevirtual 483, 3) := by decide +kernel
theorem d_M_row_81 : decode b_M_row 81 = .ok (.ifCond .ne 5, 3) := by decide +kernel
theorem d_M_row_84 : decode b_M_row 84 = .ok (.iconst 0, 1) := by decide +kernel
theorem d_M_row_85 : decode b_M_row 85 = .ok (.ireturn, 1) := by decide +kernel
theorem d_M_row_86 : decode b_M_row 86 = .ok (.iload 6, 2) := by decide +kernel
theorem d_M_row_88 : decode b_M_row 88 = .ok (.istore 4, 2) := by decide +kernel
theorem d_M_row_90 : decode b_M_row 90 = .ok (.iinc 5 1, 3) := by decide +kernel
theorem d_M_row_93 : decode b_M_row 93 = .ok (.goto (-71), 3) := by decide +kernel
theorem d_M_row_96 : decode b_M_row 96 = .ok (.iconst 1, 1) := by decide +kernel
theorem d_M_row_97 : decode b_M_row 97 = .ok (.ireturn, 1) := by decide +kernel
abbrev b_M_has : ByteArray := prog_14_method_47_code
def y_M_has : MethodName := ⟨R_M, "has", "(II)Z"⟩
abbrev k_M_has : Cond := .code y_M_has b_M_has 3 (some .boolean)
theorem ki_M_has : k_M_has ∈ lw_tg := in_t 2440 (by decide +kernel)
theorem ks_M_has : Cond.instanceMethod y_M_has ∈ lw_tg := in_t 2439 (by decide +kernel)
theorem kx_M_has : Cond.selects R_M y_M_has y_M_has ∈ lw_tg := List.mem_filter.mpr ⟨List.mem_append_left _ (List.mem_of_getElem? (i := 106) (by decide +kernel)), rfl⟩
theorem kl_M_has : Cond.methodLink R_M 675 y_M_has ∈ lw_tg := in_t 2437 (by decide +kernel)
theorem hd_M_has : y_M_has.cls = R_M ∧ y_M_has.cls ≠ "java/lang/invoke/MethodHandle" ∧ y_M_has.cls ≠ "java/lang/invoke/VarHandle" ∧ (parseMethodDescriptor y_M_has.desc).map (fun d => d.parameters.length) = some 2 := by decide +kernel
theorem d_M_has_0 : decode b_M_has 0 = .ok (.aload_n 0, 1) := by decide +kernel
theorem d_M_has_1 : decode b_M_has 1 = .ok (.getfield 95, 3) := by decide +kernel
theorem d_M_has_4 : decode b_M_has 4 = .ok (.bipush 16, 2) := by decide +kernel
theorem d_M_has_6 : decode b_M_has 6 = .ok (.iload_n 1, 1) := by decide +kernel
theorem d_M_has_7 : decode b_M_has 7 = .ok (.imul, 1) := by decide +kernel
theorem d_M_has_8 : decode b_M_has 8 = .ok (.iload_n 2, 1) := by decide +kernel
theorem d_M_has_9 : decode b_M_has 9 = .ok (.iadd, 1) := by decide +kernel
theorem d_M_has_10 : decode b_M_has 10 = .ok (.iaload, 1) := by decide +kernel
theorem d_M_has_11 : decode b_M_has 11 = .ok (.ifCond .lt 7, 3) := by decide +kernel
theorem d_M_has_14 : decode b_M_has 14 = .ok (.iconst 1, 1) := by decide +kernel
theorem d_M_has_15 : decode b_M_has 15 = .ok (.goto 4, 3) := by decide +kernel
theorem d_M_has_18 : decode b_M_has 18 = .ok (.iconst 0, 1) := by decide +kernel
theorem d_M_has_19 : decode b_M_has 19 = .ok (.ireturn, 1) := by decide +kernel
abbrev b_M_a : ByteArray := prog_14_method_48_code
def y_M_a : MethodName := ⟨R_M, "a", "(II)I"⟩
abbrev k_M_a : Cond := .code y_M_a b_M_a 3 (some .int)
theorem ki_M_a : k_M_a ∈ lw_tg := in_t 2423 (by decide +kernel)
theorem ks_M_a : Cond.instanceMethod y_M_a ∈ lw_tg := in_t 2422 (by decide +kernel)
theorem kx_M_a : Cond.selects R_M y_M_a y_M_a ∈ lw_tg := List.mem_filter.mpr ⟨List.mem_append_left _ (List.mem_of_getElem? (i := 103) (by decide +kernel)), rfl⟩
theorem kl_M_a : Cond.methodLink R_M 536 y_M_a ∈ lw_tg := in_t 2420 (by decide +kernel)
theorem hd_M_a : y_M_a.cls = R_M ∧ y_M_a.cls ≠ "java/lang/invoke/MethodHandle" ∧ y_M_a.cls ≠ "java/lang/invoke/VarHandle" ∧ (parseMethodDescriptor y_M_a.desc).map (fun d => d.parameters.length) = some 2 := by decide +kernel
theorem d_M_a_0 : decode b_M_a 0 = .ok (.aload_n 0, 1) := by decide +kernel
theorem d_M_a_1 : decode b_M_a 1 = .ok (.getfield 95, 3) := by decide +kernel
theorem d_M_a_4 : decode b_M_a 4 = .ok (.bipush 16, 2) := by decide +kernel
theorem d_M_a_6 : decode b_M_a 6 = .ok (.iload_n 1, 1) := by decide +kernel
theorem d_M_a_7 : decode b_M_a 7 = .ok (.imul, 1) := by decide +kernel
theorem d_M_a_8 : decode b_M_a 8 = .ok (.iload_n 2, 1) := by decide +kernel
theorem d_M_a_9 : decode b_M_a 9 = .ok (.iadd, 1) := by decide +kernel
theorem d_M_a_10 : decode b_M_a 10 = .ok (.iaload, 1) := by decide +kernel
theorem d_M_a_11 : decode b_M_a 11 = .ok (.ireturn, 1) := by decide +kernel
abbrev b_M_b : ByteArray := prog_14_method_49_code
def y_M_b : MethodName := ⟨R_M, "b", "(II)I"⟩
abbrev k_M_b : Cond := .code y_M_b b_M_b 3 (some .int)
theorem ki_M_b : k_M_b ∈ lw_tg := in_t 2427 (by decide +kernel)
theorem ks_M_b : Cond.instanceMethod y_M_b ∈ lw_tg := in_t 2426 (by decide +kernel)
theorem kx_M_b : Cond.selects R_M y_M_b y_M_b ∈ lw_tg := List.mem_filter.mpr ⟨List.mem_append_left _ (List.mem_of_getElem? (i := 104) (by decide +kernel)), rfl⟩
theorem kl_M_b : Cond.methodLink R_M 539 y_M_b ∈ lw_tg := in_t 2424 (by decide +kernel)
theorem hd_M_b : y_M_b.cls = R_M ∧ y_M_b.cls ≠ "java/lang/invoke/MethodHandle" ∧ y_M_b.cls ≠ "java/lang/invoke/VarHandle" ∧ (parseMethodDescriptor y_M_b.desc).map (fun d => d.parameters.length) = some 2 := by decide +kernel
theorem d_M_b_0 : decode b_M_b 0 = .ok (.aload_n 0, 1) := by decide +kernel
theorem d_M_b_1 : decode b_M_b 1 = .ok (.getfield 98, 3) := by decide +kernel
theorem d_M_b_4 : decode b_M_b 4 = .ok (.bipush 16, 2) := by decide +kernel
theorem d_M_b_6 : decode b_M_b 6 = .ok (.iload_n 1, 1) := by decide +kernel
theorem d_M_b_7 : decode b_M_b 7 = .ok (.imul, 1) := by decide +kernel
theorem d_M_b_8 : decode b_M_b 8 = .ok (.iload_n 2, 1) := by decide +kernel
theorem d_M_b_9 : decode b_M_b 9 = .ok (.iadd, 1) := by decide +kernel
theorem d_M_b_10 : decode b_M_b 10 = .ok (.iaload, 1) := by decide +kernel
theorem d_M_b_11 : decode b_M_b 11 = .ok (.ireturn, 1) := by decide +kernel
abbrev b_M_numberAt : ByteArray := prog_14_method_50_code
def y_M_numberAt : MethodName := ⟨R_M, "numberAt", "(II)J"⟩
abbrev k_M_numberAt : Cond := .code y_M_numberAt b_M_numberAt 3 (some .long)
theorem ki_M_numberAt : k_M_numberAt ∈ lw_tg := in_t 2431 (by decide +kernel)
theorem ks_M_numberAt : Cond.instanceMethod y_M_numberAt ∈ lw_tg := in_t 2430 (by decide +kernel)
theorem kx_M_numberAt : Cond.selects R_M y_M_numberAt y_M_numberAt ∈ lw_tg := List.mem_filter.mpr ⟨List.mem_append_left _ (List.mem_of_getElem? (i := 105) (by decide +kernel)), rfl⟩
theorem kl_M_numberAt : Cond.methodLink R_M 665 y_M_numberAt ∈ lw_tg := in_t 2428 (by decide +kernel)
theorem hd_M_numberAt : y_M_numberAt.cls = R_M ∧ y_M_numberAt.cls ≠ "java/lang/invoke/MethodHandle" ∧ y_M_numberAt.cls ≠ "java/lang/invoke/VarHandle" ∧ (parseMethodDescriptor y_M_numberAt.desc).map (fun d => d.parameters.length) = some 2 := by decide +kernel
theorem d_M_numberAt_0 : decode b_M_numberAt 0 = .ok (.aload_n 0, 1) := by decide +kernel
theorem d_M_numberAt_1 : decode b_M_numberAt 1 = .ok (.aload_n 0, 1) := by decide +kernel
theorem d_M_numberAt_2 : decode b_M_numberAt 2 = .ok (.iload_n 1, 1) := by decide +kernel
theorem d_M_numberAt_3 : decode b_M_numberAt 3 = .ok (.iload_n 2, 1) := by decide +kernel
theorem d_M_numberAt_4 : decode b_M_numberAt 4 = .ok (.invokevirtual 536, 3) := by decide +kernel
theorem d_M_numberAt_7 : decode b_M_numberAt 7 = .ok (.aload_n 0, 1) := by decide +kernel
theorem d_M_numberAt_8 : decode b_M_numberAt 8 = .ok (.iload_n 1, 1) := by decide +kernel
theorem d_M_numberAt_9 : decode b_M_numberAt 9 = .ok (.iload_n 2, 1) := by decide +kernel
theorem d_M_numberAt_10 : decode b_M_numberAt 10 = .ok (.invokevirtual 539, 3) := by decide +kernel
theorem d_M_numberAt_13 : decode b_M_numberAt 13 = .ok (.ldc2_w 542, 3) := by decide +kernel
theorem d_M_numberAt_16 : decode b_M_numberAt 16 = .ok (.ldc2_w 544, 3) := by decide +kernel
theorem d_M_numberAt_19 : decode b_M_numberAt 19 = .ok (.invokevirtual 499, 3) := by decide +kernel
theorem d_M_numberAt_22 : decode b_M_numberAt 22 = .ok (.pop, 1) := by decide +kernel
theorem d_M_numberAt_23 : decode b_M_numberAt 23 = .ok (.aload_n 0, 1) := by decide +kernel
theorem d_M_numberAt_24 : decode b_M_numberAt 24 = .ok (.getfield 491, 3) := by decide +kernel
theorem d_M_numberAt_27 : decode b_M_numberAt 27 = .ok (.lreturn, 1) := by decide +kernel
abbrev b_M_timeOf : ByteArray := prog_14_method_51_code
def y_M_timeOf : MethodName := ⟨R_M, "timeOf", "(II)J"⟩
abbrev k_M_timeOf : Cond := .code y_M_timeOf b_M_timeOf 3 (some .long)
theorem ki_M_timeOf : k_M_timeOf ∈ lw_tg := in_t 2487 (by decide +kernel)
theorem ks_M_timeOf : Cond.instanceMethod y_M_timeOf ∈ lw_tg := in_t 2486 (by decide +kernel)
theorem kx_M_timeOf : Cond.selects R_M y_M_timeOf y_M_timeOf ∈ lw_tg := List.mem_filter.mpr ⟨List.mem_append_left _ (List.mem_of_getElem? (i := 117) (by decide +kernel)), rfl⟩
theorem kl_M_timeOf : Cond.methodLink R_M 731 y_M_timeOf ∈ lw_tg := in_t 2484 (by decide +kernel)
theorem hd_M_timeOf : y_M_timeOf.cls = R_M ∧ y_M_timeOf.cls ≠ "java/lang/invoke/MethodHandle" ∧ y_M_timeOf.cls ≠ "java/lang/invoke/VarHandle" ∧ (parseMethodDescriptor y_M_timeOf.desc).map (fun d => d.parameters.length) = some 2 := by decide +kernel
theorem d_M_timeOf_0 : decode b_M_timeOf 0 = .ok (.aload_n 0, 1) := by decide +kernel
theorem d_M_timeOf_1 : decode b_M_timeOf 1 = .ok (.aload_n 0, 1) := by decide +kernel
theorem d_M_timeOf_2 : decode b_M_timeOf 2 = .ok (.iload_n 1, 1) := by decide +kernel
theorem d_M_timeOf_3 : decode b_M_timeOf 3 = .ok (.iload_n 2, 1) := by decide +kernel
theorem d_M_timeOf_4 : decode b_M_timeOf 4 = .ok (.invokevirtual 536, 3) := by decide +kernel
theorem d_M_timeOf_7 : decode b_M_timeOf 7 = .ok (.aload_n 0, 1) := by decide +kernel
theorem d_M_timeOf_8 : decode b_M_timeOf 8 = .ok (.iload_n 1, 1) := by decide +kernel
theorem d_M_timeOf_9 : decode b_M_timeOf 9 = .ok (.iload_n 2, 1) := by decide +kernel
theorem d_M_timeOf_10 : decode b_M_timeOf 10 = .ok (.invokevirtual 539, 3) := by decide +kernel
theorem d_M_timeOf_13 : decode b_M_timeOf 13 = .ok (.bipush 24, 2) := by decide +kernel
theorem d_M_timeOf_15 : decode b_M_timeOf 15 = .ok (.invokevirtual 476, 3) := by decide +kernel
theorem d_M_timeOf_18 : decode b_M_timeOf 18 = .ok (.pop, 1) := by decide +kernel
theorem d_M_timeOf_19 : decode b_M_timeOf 19 = .ok (.aload_n 0, 1) := by decide +kernel
theorem d_M_timeOf_20 : decode b_M_timeOf 20 = .ok (.aload_n 0, 1) := by decide +kernel
theorem d_M_timeOf_21 : decode b_M_timeOf 21 = .ok (.getfield 470, 3) := by decide +kernel
theorem d_M_timeOf_24 : decode b_M_timeOf 24 = .ok (.invokevirtual 507, 3) := by decide +kernel
theorem d_M_timeOf_27 : decode b_M_timeOf 27 = .ok (.lreturn, 1) := by decide +kernel
abbrev b_M_flagsAt : ByteArray := prog_14_method_52_code
def y_M_flagsAt : MethodName := ⟨R_M, "flagsAt", "(II)I"⟩
abbrev k_M_flagsAt : Cond := .code y_M_flagsAt b_M_flagsAt 4 (some .int)
theorem ki_M_flagsAt : k_M_flagsAt ∈ lw_tg := in_t 2479 (by decide +kernel)
theorem ks_M_flagsAt : Cond.instanceMethod y_M_flagsAt ∈ lw_tg := in_t 2478 (by decide +kernel)
theorem kx_M_flagsAt : Cond.selects R_M y_M_flagsAt y_M_flagsAt ∈ lw_tg := List.mem_filter.mpr ⟨List.mem_append_left _ (List.mem_of_getElem? (i := 115) (by decide +kernel)), rfl⟩
theorem kl_M_flagsAt : Cond.methodLink R_M 704 y_M_flagsAt ∈ lw_tg := in_t 2476 (by decide +kernel)
theorem hd_M_flagsAt : y_M_flagsAt.cls = R_M ∧ y_M_flagsAt.cls ≠ "java/lang/invoke/MethodHandle" ∧ y_M_flagsAt.cls ≠ "java/lang/invoke/VarHandle" ∧ (parseMethodDescriptor y_M_flagsAt.desc).map (fun d => d.parameters.length) = some 2 := by decide +kernel
theorem d_M_flagsAt_0 : decode b_M_flagsAt 0 = .ok (.aload_n 0, 1) := by decide +kernel
theorem d_M_flagsAt_1 : decode b_M_flagsAt 1 = .ok (.aload_n 0, 1) := by decide +kernel
theorem d_M_flagsAt_2 : decode b_M_flagsAt 2 = .ok (.iload_n 1, 1) := by decide +kernel
theorem d_M_flagsAt_3 : decode b_M_flagsAt 3 = .ok (.iload_n 2, 1) := by decide +kernel
theorem d_M_flagsAt_4 : decode b_M_flagsAt 4 = .ok (.invokevirtual 536, 3) := by decide +kernel
theorem d_M_flagsAt_7 : decode b_M_flagsAt 7 = .ok (.aload_n 0, 1) := by decide +kernel
theorem d_M_flagsAt_8 : decode b_M_flagsAt 8 = .ok (.iload_n 1, 1) := by decide +kernel
theorem d_M_flagsAt_9 : decode b_M_flagsAt 9 = .ok (.iload_n 2, 1) := by decide +kernel
theorem d_M_flagsAt_10 : decode b_M_flagsAt 10 = .ok (.invokevirtual 539, 3) := by decide +kernel
theorem d_M_flagsAt_13 : decode b_M_flagsAt 13 = .ok (.iconst 3, 1) := by decide +kernel
theorem d_M_flagsAt_14 : decode b_M_flagsAt 14 = .ok (.invokevirtual 476, 3) := by decide +kernel
theorem d_M_flagsAt_17 : decode b_M_flagsAt 17 = .ok (.pop, 1) := by decide +kernel
theorem d_M_flagsAt_18 : decode b_M_flagsAt 18 = .ok (.aload_n 0, 1) := by decide +kernel
theorem d_M_flagsAt_19 : decode b_M_flagsAt 19 = .ok (.getfield 470, 3) := by decide +kernel
theorem d_M_flagsAt_22 : decode b_M_flagsAt 22 = .ok (.iconst 1, 1) := by decide +kernel
theorem d_M_flagsAt_23 : decode b_M_flagsAt 23 = .ok (.iadd, 1) := by decide +kernel
theorem d_M_flagsAt_24 : decode b_M_flagsAt 24 = .ok (.istore_n 3, 1) := by decide +kernel
theorem d_M_flagsAt_25 : decode b_M_flagsAt 25 = .ok (.aload_n 0, 1) := by decide +kernel
theorem d_M_flagsAt_26 : decode b_M_flagsAt 26 = .ok (.getfield 10, 3) := by decide +kernel
theorem d_M_flagsAt_29 : decode b_M_flagsAt 29 = .ok (.iload_n 3, 1) := by decide +kernel
theorem d_M_flagsAt_30 : decode b_M_flagsAt 30 = .ok (.baload, 1) := by decide +kernel
theorem d_M_flagsAt_31 : decode b_M_flagsAt 31 = .ok (.sipush 255, 3) := by decide +kernel
theorem d_M_flagsAt_34 : decode b_M_flagsAt 34 = .ok (.iand, 1) := by decide +kernel
theorem d_M_flagsAt_35 : decode b_M_flagsAt 35 = .ok (.bipush 24, 2) := by decide +kernel
theorem d_M_flagsAt_37 : decode b_M_flagsAt 37 = .ok (.ishl, 1) := by decide +kernel
theorem d_M_flagsAt_38 : decode b_M_flagsAt 38 = .ok (.aload_n 0, 1) := by decide +kernel
theorem d_M_flagsAt_39 : decode b_M_flagsAt 39 = .ok (.getfield 10, 3) := by decide +kernel
theorem d_M_flagsAt_42 : decode b_M_flagsAt 42 = .ok (.iload_n 3, 1) := by decide +kernel
theorem d_M_flagsAt_43 : decode b_M_flagsAt 43 = .ok (.iconst 1, 1) := by decide +kernel
theorem d_M_flagsAt_44 : decode b_M_flagsAt 44 = .ok (.iadd, 1) := by decide +kernel
theorem d_M_flagsAt_45 : decode b_M_flagsAt 45 = .ok (.baload, 1) := by decide +kernel
theorem d_M_flagsAt_46 : decode b_M_flagsAt 46 = .ok (.sipush 255, 3) := by decide +kernel
theorem d_M_flagsAt_49 : decode b_M_flagsAt 49 = .ok (.iand, 1) := by decide +kernel
theorem d_M_flagsAt_50 : decode b_M_flagsAt 50 = .ok (.bipush 16, 2) := by decide +kernel
theorem d_M_flagsAt_52 : decode b_M_flagsAt 52 = .ok (.ishl, 1) := by decide +kernel
theorem d_M_flagsAt_53 : decode b_M_flagsAt 53 = .ok (.ior, 1) := by decide +kernel
theorem d_M_flagsAt_54 : decode b_M_flagsAt 54 = .ok (.aload_n 0, 1) := by decide +kernel
theorem d_M_flagsAt_55 : decode b_M_flagsAt 55 = .ok (.getfield 10, 3) := by decide +kernel
theorem d_M_flagsAt_58 : decode b_M_flagsAt 58 = .ok (.iload_n 3, 1) := by decide +kernel
theorem d_M_flagsAt_59 : decode b_M_flagsAt 59 = .ok (.iconst 2, 1) := by decide +kernel
theorem d_M_flagsAt_60 : decode b_M_flagsAt 60 = .ok (.iadd, 1) := by decide +kernel
theorem d_M_flagsAt_61 : decode b_M_flagsAt 61 = .ok (.baload, 1) := by decide +kernel
theorem d_M_flagsAt_62 : decode b_M_flagsAt 62 = .ok (.sipush 255, 3) := by decide +kernel
theorem d_M_flagsAt_65 : decode b_M_flagsAt 65 = .ok (.iand, 1) := by decide +kernel
theorem d_M_flagsAt_66 : decode b_M_flagsAt 66 = .ok (.bipush 8, 2) := by decide +kernel
theorem d_M_flagsAt_68 : decode b_M_flagsAt 68 = .ok (.ishl, 1) := by decide +kernel
theorem d_M_flagsAt_69 : decode b_M_flagsAt 69 = .ok (.ior, 1) := by decide +kernel
theorem d_M_flagsAt_70 : decode b_M_flagsAt 70 = .ok (.aload_n 0, 1) := by decide +kernel
theorem d_M_flagsAt_71 : decode b_M_flagsAt 71 = .ok (.getfield 10, 3) := by decide +kernel
theorem d_M_flagsAt_74 : decode b_M_flagsAt 74 = .ok (.iload_n 3, 1) := by decide +kernel
theorem d_M_flagsAt_75 : decode b_M_flagsAt 75 = .ok (.iconst 3, 1) := by decide +kernel
theorem d_M_flagsAt_76 : decode b_M_flagsAt 76 = .ok (.iadd, 1) := by decide +kernel
theorem d_M_flagsAt_77 : decode b_M_flagsAt 77 = .ok (.baload, 1) := by decide +kernel
theorem d_M_flagsAt_78 : decode b_M_flagsAt 78 = .ok (.sipush 255, 3) := by decide +kernel
theorem d_M_flagsAt_81 : decode b_M_flagsAt 81 = .ok (.iand, 1) := by decide +kernel
theorem d_M_flagsAt_82 : decode b_M_flagsAt 82 = .ok (.ior, 1) := by decide +kernel
theorem d_M_flagsAt_83 : decode b_M_flagsAt 83 = .ok (.ireturn, 1) := by decide +kernel
abbrev b_M_hasMoreFlags : ByteArray := prog_14_method_53_code
def y_M_hasMoreFlags : MethodName := ⟨R_M, "hasMoreFlags", "(II)Z"⟩
abbrev k_M_hasMoreFlags : Cond := .code y_M_hasMoreFlags b_M_hasMoreFlags 5 (some .boolean)
theorem ki_M_hasMoreFlags : k_M_hasMoreFlags ∈ lw_tg := in_t 2483 (by decide +kernel)
theorem ks_M_hasMoreFlags : Cond.instanceMethod y_M_hasMoreFlags ∈ lw_tg := in_t 2482 (by decide +kernel)
theorem kx_M_hasMoreFlags : Cond.selects R_M y_M_hasMoreFlags y_M_hasMoreFlags ∈ lw_tg := List.mem_filter.mpr ⟨List.mem_append_left _ (List.mem_of_getElem? (i := 116) (by decide +kernel)), rfl⟩
theorem kl_M_hasMoreFlags : Cond.methodLink R_M 707 y_M_hasMoreFlags ∈ lw_tg := in_t 2480 (by decide +kernel)
theorem hd_M_hasMoreFlags : y_M_hasMoreFlags.cls = R_M ∧ y_M_hasMoreFlags.cls ≠ "java/lang/invoke/MethodHandle" ∧ y_M_hasMoreFlags.cls ≠ "java/lang/invoke/VarHandle" ∧ (parseMethodDescriptor y_M_hasMoreFlags.desc).map (fun d => d.parameters.length) = some 2 := by decide +kernel
theorem d_M_hasMoreFlags_0 : decode b_M_hasMoreFlags 0 = .ok (.aload_n 0, 1) := by decide +kernel
theorem d_M_hasMoreFlags_1 : decode b_M_hasMoreFlags 1 = .ok (.aload_n 0, 1) := by decide +kernel
theorem d_M_hasMoreFlags_2 : decode b_M_hasMoreFlags 2 = .ok (.iload_n 1, 1) := by decide +kernel
theorem d_M_hasMoreFlags_3 : decode b_M_hasMoreFlags 3 = .ok (.iload_n 2, 1) := by decide +kernel
theorem d_M_hasMoreFlags_4 : decode b_M_hasMoreFlags 4 = .ok (.invokevirtual 536, 3) := by decide +kernel
theorem d_M_hasMoreFlags_7 : decode b_M_hasMoreFlags 7 = .ok (.aload_n 0, 1) := by decide +kernel
theorem d_M_hasMoreFlags_8 : decode b_M_hasMoreFlags 8 = .ok (.iload_n 1, 1) := by decide +kernel
theorem d_M_hasMoreFlags_9 : decode b_M_hasMoreFlags 9 = .ok (.iload_n 2, 1) := by decide +kernel
theorem d_M_hasMoreFlags_10 : decode b_M_hasMoreFlags 10 = .ok (.invokevirtual 539, 3) := by decide +kernel
theorem d_M_hasMoreFlags_13 : decode b_M_hasMoreFlags 13 = .ok (.iconst 3, 1) := by decide +kernel
theorem d_M_hasMoreFlags_14 : decode b_M_hasMoreFlags 14 = .ok (.invokevirtual 476, 3) := by decide +kernel
theorem d_M_hasMoreFlags_17 : decode b_M_hasMoreFlags 17 = .ok (.pop, 1) := by decide +kernel
theorem d_M_hasMoreFlags_18 : decode b_M_hasMoreFlags 18 = .ok (.iconst 0, 1) := by decide +kernel
theorem d_M_hasMoreFlags_19 : decode b_M_hasMoreFlags 19 = .ok (.istore_n 3, 1) := by decide +kernel
theorem d_M_hasMoreFlags_20 : decode b_M_hasMoreFlags 20 = .ok (.aload_n 0, 1) := by decide +kernel
theorem d_M_hasMoreFlags_21 : decode b_M_hasMoreFlags 21 = .ok (.getfield 470, 3) := by decide +kernel
theorem d_M_hasMoreFlags_24 : decode b_M_hasMoreFlags 24 = .ok (.iconst 5, 1) := by decide +kernel
theorem d_M_hasMoreFlags_25 : decode b_M_hasMoreFlags 25 = .ok (.iadd, 1) := by decide +kernel
theorem d_M_hasMoreFlags_26 : decode b_M_hasMoreFlags 26 = .ok (.istore 4, 2) := by decide +kernel
theorem d_M_hasMoreFlags_28 : decode b_M_hasMoreFlags 28 = .ok (.iload 4, 2) := by decide +kernel
theorem d_M_hasMoreFlags_30 : decode b_M_hasMoreFlags 30 = .ok (.aload_n 0, 1) := by decide +kernel
theorem d_M_hasMoreFlags_31 : decode b_M_hasMoreFlags 31 = .ok (.getfield 473, 3) := by decide +kernel
theorem d_M_hasMoreFlags_34 : decode b_M_hasMoreFlags 34 = .ok (.if_icmp .ge 29, 3) := by decide +kernel
theorem d_M_hasMoreFlags_37 : decode b_M_hasMoreFlags 37 = .ok (.iload_n 3, 1) := by decide +kernel
theorem d_M_hasMoreFlags_38 : decode b_M_hasMoreFlags 38 = .ok (.ifCond .ne 13, 3) := by decide +kernel
theorem d_M_hasMoreFlags_41 : decode b_M_hasMoreFlags 41 = .ok (.aload_n 0, 1) := by decide +kernel
theorem d_M_hasMoreFlags_42 : decode b_M_hasMoreFlags 42 = .ok (.getfield 10, 3) := by decide +kernel
theorem d_M_hasMoreFlags_45 : decode b_M_hasMoreFlags 45 = .ok (.iload 4, 2) := by decide +kernel
theorem d_M_hasMoreFlags_47 : decode b_M_hasMoreFlags 47 = .ok (.baload, 1) := by decide +kernel
theorem d_M_hasMoreFlags_48 : decode b_M_hasMoreFlags 48 = .ok (.ifCond .eq 7, 3) := by decide +kernel
theorem d_M_hasMoreFlags_51 : decode b_M_hasMoreFlags 51 = .ok (.iconst 1, 1) := by decide +kernel
theorem d_M_hasMoreFlags_52 : decode b_M_hasMoreFlags 52 = .ok (.goto 4, 3) := by decide +kernel
theorem d_M_hasMoreFlags_55 : decode b_M_hasMoreFlags 55 = .ok (.iconst 0, 1) := by decide +kernel
theorem d_M_hasMoreFlags_56 : decode b_M_hasMoreFlags 56 = .ok (.istore_n 3, 1) := by decide +kernel
theorem d_M_hasMoreFlags_57 : decode b_M_hasMoreFlags 57 = .ok (.iinc 4 1, 3) := by decide +kernel
theorem d_M_hasMoreFlags_60 : decode b_M_hasMoreFlags 60 = .ok (.goto (-32), 3) := by decide +kernel
theorem d_M_hasMoreFlags_63 : decode b_M_hasMoreFlags 63 = .ok (.iload_n 3, 1) := by decide +kernel
theorem d_M_hasMoreFlags_64 : decode b_M_hasMoreFlags 64 = .ok (.ireturn, 1) := by decide +kernel
abbrev b_M_bit : ByteArray := prog_14_method_54_code
def y_M_bit : MethodName := ⟨R_M, "bit", "(II)Z"⟩
abbrev k_M_bit : Cond := .code y_M_bit b_M_bit 3 (some .boolean)
theorem ki_M_bit : k_M_bit ∈ lw_tg := in_t 2538 (by decide +kernel)
theorem ks_M_bit : Cond.instanceMethod y_M_bit ∈ lw_tg := in_t 2537 (by decide +kernel)
theorem kx_M_bit : Cond.selects R_M y_M_bit y_M_bit ∈ lw_tg := List.mem_filter.mpr ⟨List.mem_append_left _ (List.mem_of_getElem? (i := 128) (by decide +kernel)), rfl⟩
theorem kl_M_bit : Cond.methodLink R_M 820 y_M_bit ∈ lw_tg := in_t 2535 (by decide +kernel)
theorem hd_M_bit : y_M_bit.cls = R_M ∧ y_M_bit.cls ≠ "java/lang/invoke/MethodHandle" ∧ y_M_bit.cls ≠ "java/lang/invoke/VarHandle" ∧ (parseMethodDescriptor y_M_bit.desc).map (fun d => d.parameters.length) = some 2 := by decide +kernel
theorem d_M_bit_0 : decode b_M_bit 0 = .ok (.iload_n 1, 1) := by decide +kernel
theorem d_M_bit_1 : decode b_M_bit 1 = .ok (.bipush 31, 2) := by decide +kernel
theorem d_M_bit_3 : decode b_M_bit 3 = .ok (.iload_n 2, 1) := by decide +kernel
theorem d_M_bit_4 : decode b_M_bit 4 = .ok (.isub, 1) := by decide +kernel
theorem d_M_bit_5 : decode b_M_bit 5 = .ok (.iushr, 1) := by decide +kernel
theorem d_M_bit_6 : decode b_M_bit 6 = .ok (.iconst 1, 1) := by decide +kernel
theorem d_M_bit_7 : decode b_M_bit 7 = .ok (.iand, 1) := by decide +kernel
theorem d_M_bit_8 : decode b_M_bit 8 = .ok (.iconst 1, 1) := by decide +kernel
theorem d_M_bit_9 : decode b_M_bit 9 = .ok (.if_icmp .ne 7, 3) := by decide +kernel
theorem d_M_bit_12 : decode b_M_bit 12 = .ok (.iconst 1, 1) := by decide +kernel
theorem d_M_bit_13 : decode b_M_bit 13 = .ok (.goto 4, 3) := by decide +kernel
theorem d_M_bit_16 : decode b_M_bit 16 = .ok (.iconst 0, 1) := by decide +kernel
theorem d_M_bit_17 : decode b_M_bit 17 = .ok (.ireturn, 1) := by decide +kernel
abbrev b_M_bitOf : ByteArray := prog_14_method_55_code
def y_M_bitOf : MethodName := ⟨R_M, "bitOf", "(I)I"⟩
abbrev k_M_bitOf : Cond := .code y_M_bitOf b_M_bitOf 1 (some .int)
theorem ki_M_bitOf : k_M_bitOf ∈ lw_tg := in_t 2475 (by decide +kernel)
theorem ks_M_bitOf : Cond.static y_M_bitOf ∈ lw_tg := in_t 2474 (by decide +kernel)
theorem kl_M_bitOf : Cond.methodLink R_M 701 y_M_bitOf ∈ lw_tg := in_t 2473 (by decide +kernel)
theorem hd_M_bitOf : y_M_bitOf.cls = R_M ∧ y_M_bitOf.cls ≠ "java/lang/invoke/MethodHandle" ∧ y_M_bitOf.cls ≠ "java/lang/invoke/VarHandle" ∧ (parseMethodDescriptor y_M_bitOf.desc).map (fun d => d.parameters.length) = some 1 := by decide +kernel
theorem d_M_bitOf_0 : decode b_M_bitOf 0 = .ok (.iconst 1, 1) := by decide +kernel
theorem d_M_bitOf_1 : decode b_M_bitOf 1 = .ok (.bipush 31, 2) := by decide +kernel
theorem d_M_bitOf_3 : decode b_M_bitOf 3 = .ok (.iload_n 0, 1) := by decide +kernel
theorem d_M_bitOf_4 : decode b_M_bitOf 4 = .ok (.isub, 1) := by decide +kernel
theorem d_M_bitOf_5 : decode b_M_bitOf 5 = .ok (.ishl, 1) := by decide +kernel
theorem d_M_bitOf_6 : decode b_M_bitOf 6 = .ok (.ireturn, 1) := by decide +kernel
abbrev b_M_isWord : ByteArray := prog_14_method_56_code
def y_M_isWord : MethodName := ⟨R_M, "isWord", "(IILjava/lang/String;)Z"⟩
abbrev k_M_isWord : Cond := .code y_M_isWord b_M_isWord 5 (some .boolean)
theorem ki_M_isWord : k_M_isWord ∈ lw_tg := in_t 2444 (by decide +kernel)
theorem ks_M_isWord : Cond.instanceMethod y_M_isWord ∈ lw_tg := in_t 2443 (by decide +kernel)
theorem kx_M_isWord : Cond.selects R_M y_M_isWord y_M_isWord ∈ lw_tg := List.mem_filter.mpr ⟨List.mem_append_left _ (List.mem_of_getElem? (i := 107) (by decide +kernel)), rfl⟩
theorem kl_M_isWord : Cond.methodLink R_M 678 y_M_isWord ∈ lw_tg := in_t 2441 (by decide +kernel)
theorem hd_M_isWord : y_M_isWord.cls = R_M ∧ y_M_isWord.cls ≠ "java/lang/invoke/MethodHandle" ∧ y_M_isWord.cls ≠ "java/lang/invoke/VarHandle" ∧ (parseMethodDescriptor y_M_isWord.desc).map (fun d => d.parameters.length) = some 3 := by decide +kernel
theorem d_M_isWord_0 : decode b_M_isWord 0 = .ok (.aload_n 0, 1) := by decide +kernel
theorem d_M_isWord_1 : decode b_M_isWord 1 = .ok (.iload_n 1, 1) := by decide +kernel
theorem d_M_isWord_2 : decode b_M_isWord 2 = .ok (.iload_n 2, 1) := by decide +kernel
theorem d_M_isWord_3 : decode b_M_isWord 3 = .ok (.bipush 27, 2) := by decide +kernel
theorem d_M_isWord_5 : decode b_M_isWord 5 = .ok (.invokevirtual 476, 3) := by decide +kernel
theorem d_M_isWord_8 : decode b_M_isWord 8 = .ok (.pop, 1) := by decide +kernel
theorem d_M_isWord_9 : decode b_M_isWord 9 = .ok (.aload_n 0, 1) := by decide +kernel
theorem d_M_isWord_10 : decode b_M_isWord 10 = .ok (.getfield 473, 3) := by decide +kernel
theorem d_M_isWord_13 : decode b_M_isWord 13 = .ok (.aload_n 0, 1) := by decide +kernel
theorem d_M_isWord_14 : decode b_M_isWord 14 = .ok (.getfield 470, 3) := by decide +kernel
theorem d_M_isWord_17 : decode b_M_isWord 17 = .ok (.isub, 1) := by decide +kernel
theorem d_M_isWord_18 : decode b_M_isWord 18 = .ok (.aload_n 3, 1) := by decide +kernel
theorem d_M_isWord_19 : decode b_M_isWord 19 = .ok (.invokevirtual 339, 3) := by decide +kernel
theorem d_M_isWord_22 : decode b_M_isWord 22 = .ok (.if_icmp .eq 5, 3) := by decide +kernel
theorem d_M_isWord_25 : decode b_M_isWord 25 = .ok (.iconst 0, 1) := by decide +kernel
theorem d_M_isWord_26 : decode b_M_isWord 26 = .ok (.ireturn, 1) := by decide +kernel
theorem d_M_isWord_27 : decode b_M_isWord 27 = .ok (.iconst 0, 1) := by decide +kernel
theorem d_M_isWord_28 : decode b_M_isWord 28 = .ok (.istore 4, 2) := by decide +kernel
theorem d_M_isWord_30 : decode b_M_isWord 30 = .ok (.iload 4, 2) := by decide +kernel
theorem d_M_isWord_32 : decode b_M_isWord 32 = .ok (.aload_n 3, 1) := by decide +kernel
theorem d_M_isWord_33 : decode b_M_isWord 33 = .ok (.invokevirtual 339, 3) := by decide +kernel
theorem d_M_isWord_36 : decode b_M_isWord 36 = .ok (.if_icmp .ge 32, 3) := by decide +kernel
theorem d_M_isWord_39 : decode b_M_isWord 39 = .ok (.aload_n 0, 1) := by decide +kernel
theorem d_M_isWord_40 : decode b_M_isWord 40 = .ok (.getfield 10, 3) := by decide +kernel
theorem d_M_isWord_43 : decode b_M_isWord 43 = .ok (.aload_n 0, 1) := by decide +kernel
theorem d_M_isWord_44 : decode b_M_isWord 44 = .ok (.getfield 470, 3) := by decide +kernel
theorem d_M_isWord_47 : decode b_M_isWord 47 = .ok (.iload 4, 2) := by decide +kernel
theorem d_M_isWord_49 : decode b_M_isWord 49 = .ok (.iadd, 1) := by decide +kernel
theorem d_M_isWord_50 : decode b_M_isWord 50 = .ok (.baload, 1) := by decide +kernel
theorem d_M_isWord_51 : decode b_M_isWord 51 = .ok (.aload_n 3, 1) := by decide +kernel
theorem d_M_isWord_52 : decode b_M_isWord 52 = .ok (.iload 4, 2) := by decide +kernel
theorem d_M_isWord_54 : decode b_M_isWord 54 = .ok (.invokevirtual 344, 3) := by decide +kernel
theorem d_M_isWord_57 : decode b_M_isWord 57 = .ok (.if_icmp .eq 5, 3) := by decide +kernel
theorem d_M_isWord_60 : decode b_M_isWord 60 = .ok (.iconst 0, 1) := by decide +kernel
theorem d_M_isWord_61 : decode b_M_isWord 61 = .ok (.ireturn, 1) := by decide +kernel
theorem d_M_isWord_62 : decode b_M_isWord 62 = .ok (.iinc 4 1, 3) := by decide +kernel
theorem d_M_isWord_65 : decode b_M_isWord 65 = .ok (.goto (-35), 3) := by decide +kernel
theorem d_M_isWord_68 : decode b_M_isWord 68 = .ok (.iconst 1, 1) := by decide +kernel
theorem d_M_isWord_69 : decode b_M_isWord 69 = .ok (.ireturn, 1) := by decide +kernel
abbrev b_M_isSame : ByteArray := prog_14_method_57_code
def y_M_isSame : MethodName := ⟨R_M, "isSame", "(IIII)Z"⟩
abbrev k_M_isSame : Cond := .code y_M_isSame b_M_isSame 6 (some .boolean)
theorem ki_M_isSame : k_M_isSame ∈ lw_tg := in_t 2688 (by decide +kernel)
theorem ks_M_isSame : Cond.instanceMethod y_M_isSame ∈ lw_tg := in_t 2687 (by decide +kernel)
theorem kx_M_isSame : Cond.selects R_M y_M_isSame y_M_isSame ∈ lw_tg := List.mem_filter.mpr ⟨List.mem_append_left _ (List.mem_of_getElem? (i := 163) (by decide +kernel)), rfl⟩
theorem kl_M_isSame : Cond.methodLink R_M 549 y_M_isSame ∈ lw_tg := in_t 2685 (by decide +kernel)
theorem hd_M_isSame : y_M_isSame.cls = R_M ∧ y_M_isSame.cls ≠ "java/lang/invoke/MethodHandle" ∧ y_M_isSame.cls ≠ "java/lang/invoke/VarHandle" ∧ (parseMethodDescriptor y_M_isSame.desc).map (fun d => d.parameters.length) = some 4 := by decide +kernel
theorem d_M_isSame_0 : decode b_M_isSame 0 = .ok (.iload_n 2, 1) := by decide +kernel
theorem d_M_isSame_1 : decode b_M_isSame 1 = .ok (.iload_n 1, 1) := by decide +kernel
theorem d_M_isSame_2 : decode b_M_isSame 2 = .ok (.isub, 1) := by decide +kernel
theorem d_M_isSame_3 : decode b_M_isSame 3 = .ok (.iload 4, 2) := by decide +kernel
theorem d_M_isSame_5 : decode b_M_isSame 5 = .ok (.iload_n 3, 1) := by decide +kernel
theorem d_M_isSame_6 : decode b_M_isSame 6 = .ok (.isub, 1) := by decide +kernel
theorem d_M_isSame_7 : decode b_M_isSame 7 = .ok (.if_icmp .eq 5, 3) := by decide +kernel
theorem d_M_isSame_10 : decode b_M_isSame 10 = .ok (.iconst 0, 1) := by decide +kernel
theorem d_M_isSame_11 : decode b_M_isSame 11 = .ok (.ireturn, 1) := by decide +kernel
theorem d_M_isSame_12 : decode b_M_isSame 12 = .ok (.iconst 0, 1) := by decide +kernel
theorem d_M_isSame_13 : decode b_M_isSame 13 = .ok (.istore 5, 2) := by decide +kernel
theorem d_M_isSame_15 : decode b_M_isSame 15 = .ok (.iload 5, 2) := by decide +kernel
theorem d_M_isSame_17 : decode b_M_isSame 17 = .ok (.iload_n 2, 1) := by decide +kernel
theorem d_M_isSame_18 : decode b_M_isSame 18 = .ok (.iload_n 1, 1) := by decide +kernel
theorem d_M_isSame_19 : decode b_M_isSame 19 = .ok (.isub, 1) := by decide +kernel
theorem d_M_isSame_20 : decode b_M_isSame 20 = .ok (.if_icmp .ge 32, 3) := by decide +kernel
theorem d_M_isSame_23 : decode b_M_isSame 23 = .ok (.aload_n 0, 1) := by decide +kernel
theorem d_M_isSame_24 : decode b_M_isSame 24 = .ok (.getfield 10, 3) := by decide +kernel
theorem d_M_isSame_27 : decode b_M_isSame 27 = .ok (.iload_n 1, 1) := by decide +kernel
theorem d_M_isSame_28 : decode b_M_isSame 28 = .ok (.iload 5, 2) := by decide +kernel
theorem d_M_isSame_30 : decode b_M_isSame 30 = .ok (.iadd, 1) := by decide +kernel
theorem d_M_isSame_31 : decode b_M_isSame 31 = .ok (.baload, 1) := by decide +kernel
theorem d_M_isSame_32 : decode b_M_isSame 32 = .ok (.aload_n 0, 1) := by decide +kernel
theorem d_M_isSame_33 : decode b_M_isSame 33 = .ok (.getfield 10, 3) := by decide +kernel
theorem d_M_isSame_36 : decode b_M_isSame 36 = .ok (.iload_n 3, 1) := by decide +kernel
theorem d_M_isSame_37 : decode b_M_isSame 37 = .ok (.iload 5, 2) := by decide +kernel
theorem d_M_isSame_39 : decode b_M_isSame 39 = .ok (.iadd, 1) := by decide +kernel
theorem d_M_isSame_40 : decode b_M_isSame 40 = .ok (.baload, 1) := by decide +kernel
theorem d_M_isSame_41 : decode b_M_isSame 41 = .ok (.if_icmp .eq 5, 3) := by decide +kernel
theorem d_M_isSame_44 : decode b_M_isSame 44 = .ok (.iconst 0, 1) := by decide +kernel
theorem d_M_isSame_45 : decode b_M_isSame 45 = .ok (.ireturn, 1) := by decide +kernel
theorem d_M_isSame_46 : decode b_M_isSame 46 = .ok (.iinc 5 1, 3) := by decide +kernel
theorem d_M_isSame_49 : decode b_M_isSame 49 = .ok (.goto (-34), 3) := by decide +kernel
theorem d_M_isSame_52 : decode b_M_isSame 52 = .ok (.iconst 1, 1) := by decide +kernel
theorem d_M_isSame_53 : decode b_M_isSame 53 = .ok (.ireturn, 1) := by decide +kernel
abbrev b_M_partsAt : ByteArray := prog_14_method_58_code
def y_M_partsAt : MethodName := ⟨R_M, "partsAt", "(II)I"⟩
abbrev k_M_partsAt : Cond := .code y_M_partsAt b_M_partsAt 3 (some .int)
theorem ki_M_partsAt : k_M_partsAt ∈ lw_tg := in_t 2456 (by decide +kernel)
theorem ks_M_partsAt : Cond.instanceMethod y_M_partsAt ∈ lw_tg := in_t 2455 (by decide +kernel)
theorem kx_M_partsAt : Cond.selects R_M y_M_partsAt y_M_partsAt ∈ lw_tg := List.mem_filter.mpr ⟨List.mem_append_left _ (List.mem_of_getElem? (i := 110) (by decide +kernel)), rfl⟩
theorem kl_M_partsAt : Cond.methodLink R_M 546 y_M_partsAt ∈ lw_tg := in_t 2453 (by decide +kernel)
theorem hd_M_partsAt : y_M_partsAt.cls = R_M ∧ y_M_partsAt.cls ≠ "java/lang/invoke/MethodHandle" ∧ y_M_partsAt.cls ≠ "java/lang/invoke/VarHandle" ∧ (parseMethodDescriptor y_M_partsAt.desc).map (fun d => d.parameters.length) = some 2 := by decide +kernel
theorem d_M_partsAt_0 : decode b_M_partsAt 0 = .ok (.aload_n 0, 1) := by decide +kernel
theorem d_M_partsAt_1 : decode b_M_partsAt 1 = .ok (.ldc_w 511, 3) := by decide +kernel
theorem d_M_partsAt_4 : decode b_M_partsAt 4 = .ok (.iload_n 1, 1) := by decide +kernel
theorem d_M_partsAt_5 : decode b_M_partsAt 5 = .ok (.iload_n 2, 1) := by decide +kernel
theorem d_M_partsAt_6 : decode b_M_partsAt 6 = .ok (.bipush 11, 2) := by decide +kernel
theorem d_M_partsAt_8 : decode b_M_partsAt 8 = .ok (.invokevirtual 487, 3) := by decide +kernel
theorem d_M_partsAt_11 : decode b_M_partsAt 11 = .ok (.pop, 1) := by decide +kernel
theorem d_M_partsAt_12 : decode b_M_partsAt 12 = .ok (.aload_n 0, 1) := by decide +kernel
theorem d_M_partsAt_13 : decode b_M_partsAt 13 = .ok (.bipush 11, 2) := by decide +kernel
theorem d_M_partsAt_15 : decode b_M_partsAt 15 = .ok (.iconst 1, 1) := by decide +kernel
theorem d_M_partsAt_16 : decode b_M_partsAt 16 = .ok (.invokevirtual 536, 3) := by decide +kernel
theorem d_M_partsAt_19 : decode b_M_partsAt 19 = .ok (.ireturn, 1) := by decide +kernel
abbrev b_M_sameNames : ByteArray := prog_14_method_59_code
def y_M_sameNames : MethodName := ⟨R_M, "sameNames", "(IIII)Z"⟩
abbrev k_M_sameNames : Cond := .code y_M_sameNames b_M_sameNames 8 (some .boolean)
theorem ki_M_sameNames : k_M_sameNames ∈ lw_tg := in_t 2692 (by decide +kernel)
theorem ks_M_sameNames : Cond.instanceMethod y_M_sameNames ∈ lw_tg := in_t 2691 (by decide +kernel)
theorem kx_M_sameNames : Cond.selects R_M y_M_sameNames y_M_sameNames ∈ lw_tg := List.mem_filter.mpr ⟨List.mem_append_left _ (List.mem_of_getElem? (i := 164) (by decide +kernel)), rfl⟩
theorem kl_M_sameNames : Cond.methodLink R_M 790 y_M_sameNames ∈ lw_tg := in_t 2689 (by decide +kernel)
theorem hd_M_sameNames : y_M_sameNames.cls = R_M ∧ y_M_sameNames.cls ≠ "java/lang/invoke/MethodHandle" ∧ y_M_sameNames.cls ≠ "java/lang/invoke/VarHandle" ∧ (parseMethodDescriptor y_M_sameNames.desc).map (fun d => d.parameters.length) = some 4 := by decide +kernel
theorem d_M_sameNames_0 : decode b_M_sameNames 0 = .ok (.aload_n 0, 1) := by decide +kernel
theorem d_M_sameNames_1 : decode b_M_sameNames 1 = .ok (.iload_n 1, 1) := by decide +kernel
theorem d_M_sameNames_2 : decode b_M_sameNames 2 = .ok (.iload_n 2, 1) := by decide +kernel
theorem d_M_sameNames_3 : decode b_M_sameNames 3 = .ok (.invokevirtual 546, 3) := by decide +kernel
theorem d_M_sameNames_6 : decode b_M_sameNames 6 = .ok (.istore 5, 2) := by decide +kernel
theorem d_M_sameNames_8 : decode b_M_sameNames 8 = .ok (.aload_n 0, 1) := by decide +kernel
theorem d_M_sameNames_9 : decode b_M_sameNames 9 = .ok (.bipush 11, 2) := by decide +kernel
theorem d_M_sameNames_11 : decode b_M_sameNames 11 = .ok (.iconst 1, 1) := by decide +kernel
theorem d_M_sameNames_12 : decode b_M_sameNames 12 = .ok (.invokevirtual 539, 3) := by decide +kernel
theorem d_M_sameNames_15 : decode b_M_sameNames 15 = .ok (.istore 6, 2) := by decide +kernel
theorem d_M_sameNames_17 : decode b_M_sameNames 17 = .ok (.aload_n 0, 1) := by decide +kernel
theorem d_M_sameNames_18 : decode b_M_sameNames 18 = .ok (.iload_n 3, 1) := by decide +kernel
theorem d_M_sameNames_19 : decode b_M_sameNames 19 = .ok (.iload 4, 2) := by decide +kernel
theorem d_M_sameNames_21 : decode b_M_sameNames 21 = .ok (.invokevirtual 546, 3) := by decide +kernel
theorem d_M_sameNames_24 : decode b_M_sameNames 24 = .ok (.istore 7, 2) := by decide +kernel
theorem d_M_sameNames_26 : decode b_M_sameNames 26 = .ok (.aload_n 0, 1) := by decide +kernel
theorem d_M_sameNames_27 : decode b_M_sameNames 27 = .ok (.iload 5, 2) := by decide +kernel
theorem d_M_sameNames_29 : decode b_M_sameNames 29 = .ok (.iload 6, 2) := by decide +kernel
theorem d_M_sameNames_31 : decode b_M_sameNames 31 = .ok (.iload 7, 2) := by decide +kernel
theorem d_M_sameNames_33 : decode b_M_sameNames 33 = .ok (.aload_n 0, 1) := by decide +kernel
theorem d_M_sameNames_34 : decode b_M_sameNames 34 = .ok (.bipush 11, 2) := by decide +kernel
theorem d_M_sameNames_36 : decode b_M_sameNames 36 = .ok (.iconst 1, 1) := by decide +kernel
theorem d_M_sameNames_37 : decode b_M_sameNames 37 = .ok (.invokevirtual 539, 3) := by decide +kernel
theorem d_M_sameNames_40 : decode b_M_sameNames 40 = .ok (.invokevirtual 549, 3) := by decide +kernel
theorem d_M_sameNames_43 : decode b_M_sameNames 43 = .ok (.ireturn, 1) := by decide +kernel
abbrev b_M_start : ByteArray := prog_14_method_60_code
def y_M_start : MethodName := ⟨R_M, "start", "()V"⟩
abbrev k_M_start : Cond := .code y_M_start b_M_start 1 none
theorem ki_M_start : k_M_start ∈ lw_tg := in_t 2561 (by decide +kernel)
theorem ks_M_start : Cond.instanceMethod y_M_start ∈ lw_tg := in_t 2560 (by decide +kernel)
theorem kx_M_start : Cond.selects R_M y_M_start y_M_start ∈ lw_tg := List.mem_filter.mpr ⟨List.mem_append_left _ (List.mem_of_getElem? (i := 133) (by decide +kernel)), rfl⟩
theorem kl_M_start : Cond.methodLink R_M 861 y_M_start ∈ lw_tg := in_t 2558 (by decide +kernel)
theorem hd_M_start : y_M_start.cls = R_M ∧ y_M_start.cls ≠ "java/lang/invoke/MethodHandle" ∧ y_M_start.cls ≠ "java/lang/invoke/VarHandle" ∧ (parseMethodDescriptor y_M_start.desc).map (fun d => d.parameters.length) = some 0 := by decide +kernel
theorem d_M_start_0 : decode b_M_start 0 = .ok (.aload_n 0, 1) := by decide +kernel
theorem d_M_start_1 : decode b_M_start 1 = .ok (.ldc 9, 2) := by decide +kernel
theorem d_M_start_3 : decode b_M_start 3 = .ok (.putfield 553, 3) := by decide +kernel
theorem d_M_start_6 : decode b_M_start 6 = .ok (.return_, 1) := by decide +kernel
abbrev b_M_one : ByteArray := prog_14_method_61_code
def y_M_one : MethodName := ⟨R_M, "one", "(I)V"⟩
abbrev k_M_one : Cond := .code y_M_one b_M_one 2 none
theorem ki_M_one : k_M_one ∈ lw_tg := in_t 2577 (by decide +kernel)
theorem ks_M_one : Cond.instanceMethod y_M_one ∈ lw_tg := in_t 2576 (by decide +kernel)
theorem kx_M_one : Cond.selects R_M y_M_one y_M_one ∈ lw_tg := List.mem_filter.mpr ⟨List.mem_append_left _ (List.mem_of_getElem? (i := 137) (by decide +kernel)), rfl⟩
theorem kl_M_one : Cond.methodLink R_M 556 y_M_one ∈ lw_tg := in_t 2574 (by decide +kernel)
theorem hd_M_one : y_M_one.cls = R_M ∧ y_M_one.cls ≠ "java/lang/invoke/MethodHandle" ∧ y_M_one.cls ≠ "java/lang/invoke/VarHandle" ∧ (parseMethodDescriptor y_M_one.desc).map (fun d => d.parameters.length) = some 1 := by decide +kernel
theorem d_M_one_0 : decode b_M_one 0 = .ok (.aload_n 0, 1) := by decide +kernel
theorem d_M_one_1 : decode b_M_one 1 = .ok (.dup, 1) := by decide +kernel
theorem d_M_one_2 : decode b_M_one 2 = .ok (.getfield 553, 3) := by decide +kernel
theorem d_M_one_5 : decode b_M_one 5 = .ok (.iconst 1, 1) := by decide +kernel
theorem d_M_one_6 : decode b_M_one 6 = .ok (.isub, 1) := by decide +kernel
theorem d_M_one_7 : decode b_M_one 7 = .ok (.putfield 553, 3) := by decide +kernel
theorem d_M_one_10 : decode b_M_one 10 = .ok (.aload_n 0, 1) := by decide +kernel
theorem d_M_one_11 : decode b_M_one 11 = .ok (.getfield 10, 3) := by decide +kernel
theorem d_M_one_14 : decode b_M_one 14 = .ok (.aload_n 0, 1) := by decide +kernel
theorem d_M_one_15 : decode b_M_one 15 = .ok (.getfield 553, 3) := by decide +kernel
theorem d_M_one_18 : decode b_M_one 18 = .ok (.iload_n 1, 1) := by decide +kernel
theorem d_M_one_19 : decode b_M_one 19 = .ok (.i2b, 1) := by decide +kernel
theorem d_M_one_20 : decode b_M_one 20 = .ok (.bastore, 1) := by decide +kernel
theorem d_M_one_21 : decode b_M_one 21 = .ok (.return_, 1) := by decide +kernel
abbrev b_M_head : ByteArray := prog_14_method_62_code
def y_M_head : MethodName := ⟨R_M, "head", "(II)V"⟩
abbrev k_M_head : Cond := .code y_M_head b_M_head 6 none
theorem ki_M_head : k_M_head ∈ lw_tg := in_t 2585 (by decide +kernel)
theorem ks_M_head : Cond.instanceMethod y_M_head ∈ lw_tg := in_t 2584 (by decide +kernel)
theorem kx_M_head : Cond.selects R_M y_M_head y_M_head ∈ lw_tg := List.mem_filter.mpr ⟨List.mem_append_left _ (List.mem_of_getElem? (i := 139) (by decide +kernel)), rfl⟩
theorem kl_M_head : Cond.methodLink R_M 559 y_M_head ∈ lw_tg := in_t 2582 (by decide +kernel)
theorem hd_M_head : y_M_head.cls = R_M ∧ y_M_head.cls ≠ "java/lang/invoke/MethodHandle" ∧ y_M_head.cls ≠ "java/lang/invoke/VarHandle" ∧ (parseMethodDescriptor y_M_head.desc).map (fun d => d.parameters.length) = some 2 := by decide +kernel
theorem d_M_head_0 : decode b_M_head 0 = .ok (.iload_n 2, 1) := by decide +kernel
theorem d_M_head_1 : decode b_M_head 1 = .ok (.aload_n 0, 1) := by decide +kernel
theorem d_M_head_2 : decode b_M_head 2 = .ok (.getfield 553, 3) := by decide +kernel
theorem d_M_head_5 : decode b_M_head 5 = .ok (.isub, 1) := by decide +kernel
theorem d_M_head_6 : decode b_M_head 6 = .ok (.istore_n 3, 1) := by decide +kernel
theorem d_M_head_7 : decode b_M_head 7 = .ok (.iload_n 3, 1) := by decide +kernel
theorem d_M_head_8 : decode b_M_head 8 = .ok (.bipush 127, 2) := by decide +kernel
theorem d_M_head_10 : decode b_M_head 10 = .ok (.if_icmp .le 46, 3) := by decide +kernel
theorem d_M_head_13 : decode b_M_head 13 = .ok (.iconst 0, 1) := by decide +kernel
theorem d_M_head_14 : decode b_M_head 14 = .ok (.istore 4, 2) := by decide +kernel
theorem d_M_head_16 : decode b_M_head 16 = .ok (.iload_n 3, 1) := by decide +kernel
theorem d_M_head_17 : decode b_M_head 17 = .ok (.istore 5, 2) := by decide +kernel
theorem d_M_head_19 : decode b_M_head 19 = .ok (.iload 5, 2) := by decide +kernel
theorem d_M_head_21 : decode b_M_head 21 = .ok (.ifCond .le 22, 3) := by decide +kernel
theorem d_M_head_24 : decode b_M_head 24 = .ok (.aload_n 0, 1) := by decide +kernel
theorem d_M_head_25 : decode b_M_head 25 = .ok (.iload 5, 2) := by decide +kernel
theorem d_M_head_27 : decode b_M_head 27 = .ok (.invokevirtual 556, 3) := by decide +kernel
theorem d_M_head_30 : decode b_M_head 30 = .ok (.iinc 4 1, 3) := by decide +kernel
theorem d_M_head_33 : decode b_M_head 33 = .ok (.iload 5, 2) := by decide +kernel
theorem d_M_head_35 : decode b_M_head 35 = .ok (.bipush 8, 2) := by decide +kernel
theorem d_M_head_37 : decode b_M_head 37 = .ok (.ishr, 1) := by decide +kernel
theorem d_M_head_38 : decode b_M_head 38 = .ok (.istore 5, 2) := by decide +kernel
theorem d_M_head_40 : decode b_M_head 40 = .ok (.goto (-21), 3) := by decide +kernel
theorem d_M_head_43 : decode b_M_head 43 = .ok (.aload_n 0, 1) := by decide +kernel
theorem d_M_head_44 : decode b_M_head 44 = .ok (.sipush 128, 3) := by decide +kernel
theorem d_M_head_47 : decode b_M_head 47 = .ok (.iload 4, 2) := by decide +kernel
theorem d_M_head_49 : decode b_M_head 49 = .ok (.iadd, 1) := by decide +kernel
theorem d_M_head_50 : decode b_M_head 50 = .ok (.invokevirtual 556, 3) := by decide +kernel
theorem d_M_head_53 : decode b_M_head 53 = .ok (.goto 8, 3) := by decide +kernel
theorem d_M_head_56 : decode b_M_head 56 = .ok (.aload_n 0, 1) := by decide +kernel
theorem d_M_head_57 : decode b_M_head 57 = .ok (.iload_n 3, 1) := by decide +kernel
theorem d_M_head_58 : decode b_M_head 58 = .ok (.invokevirtual 556, 3) := by decide +kernel
theorem d_M_head_61 : decode b_M_head 61 = .ok (.aload_n 0, 1) := by decide +kernel
theorem d_M_head_62 : decode b_M_head 62 = .ok (.iload_n 1, 1) := by decide +kernel
theorem d_M_head_63 : decode b_M_head 63 = .ok (.invokevirtual 556, 3) := by decide +kernel
theorem d_M_head_66 : decode b_M_head 66 = .ok (.return_, 1) := by decide +kernel
abbrev b_M_field : ByteArray := prog_14_method_63_code
def y_M_field : MethodName := ⟨R_M, "field", "(II)V"⟩
abbrev k_M_field : Cond := .code y_M_field b_M_field 3 none
theorem ki_M_field : k_M_field ∈ lw_tg := in_t 2581 (by decide +kernel)
theorem ks_M_field : Cond.instanceMethod y_M_field ∈ lw_tg := in_t 2580 (by decide +kernel)
theorem kx_M_field : Cond.selects R_M y_M_field y_M_field ∈ lw_tg := List.mem_filter.mpr ⟨List.mem_append_left _ (List.mem_of_getElem? (i := 138) (by decide +kernel)), rfl⟩
theorem kl_M_field : Cond.methodLink R_M 567 y_M_field ∈ lw_tg := in_t 2578 (by decide +kernel)
theorem hd_M_field : y_M_field.cls = R_M ∧ y_M_field.cls ≠ "java/lang/invoke/MethodHandle" ∧ y_M_field.cls ≠ "java/lang/invoke/VarHandle" ∧ (parseMethodDescriptor y_M_field.desc).map (fun d => d.parameters.length) = some 2 := by decide +kernel
theorem d_M_field_0 : decode b_M_field 0 = .ok (.aload_n 0, 1) := by decide +kernel
theorem d_M_field_1 : decode b_M_field 1 = .ok (.sipush 160, 3) := by decide +kernel
theorem d_M_field_4 : decode b_M_field 4 = .ok (.iload_n 1, 1) := by decide +kernel
theorem d_M_field_5 : decode b_M_field 5 = .ok (.iadd, 1) := by decide +kernel
theorem d_M_field_6 : decode b_M_field 6 = .ok (.iload_n 2, 1) := by decide +kernel
theorem d_M_field_7 : decode b_M_field 7 = .ok (.invokevirtual 559, 3) := by decide +kernel
theorem d_M_field_10 : decode b_M_field 10 = .ok (.return_, 1) := by decide +kernel
abbrev b_M_putNumber : ByteArray := prog_14_method_64_code
def y_M_putNumber : MethodName := ⟨R_M, "putNumber", "(J)V"⟩
abbrev k_M_putNumber : Cond := .code y_M_putNumber b_M_putNumber 8 none
theorem ki_M_putNumber : k_M_putNumber ∈ lw_tg := in_t 2609 (by decide +kernel)
theorem ks_M_putNumber : Cond.instanceMethod y_M_putNumber ∈ lw_tg := in_t 2608 (by decide +kernel)
theorem kx_M_putNumber : Cond.selects R_M y_M_putNumber y_M_putNumber ∈ lw_tg := List.mem_filter.mpr ⟨List.mem_append_left _ (List.mem_of_getElem? (i := 145) (by decide +kernel)), rfl⟩
theorem kl_M_putNumber : Cond.methodLink R_M 563 y_M_putNumber ∈ lw_tg := in_t 2606 (by decide +kernel)
theorem hd_M_putNumber : y_M_putNumber.cls = R_M ∧ y_M_putNumber.cls ≠ "java/lang/invoke/MethodHandle" ∧ y_M_putNumber.cls ≠ "java/lang/invoke/VarHandle" ∧ (parseMethodDescriptor y_M_putNumber.desc).map (fun d => d.parameters.length) = some 1 := by decide +kernel
theorem d_M_putNumber_0 : decode b_M_putNumber 0 = .ok (.aload_n 0, 1) := by decide +kernel
theorem d_M_putNumber_1 : decode b_M_putNumber 1 = .ok (.getfield 553, 3) := by decide +kernel
theorem d_M_putNumber_4 : decode b_M_putNumber 4 = .ok (.istore_n 3, 1) := by decide +kernel
theorem d_M_putNumber_5 : decode b_M_putNumber 5 = .ok (.lload_n 1, 1) := by decide +kernel
theorem d_M_putNumber_6 : decode b_M_putNumber 6 = .ok (.lstore 4, 2) := by decide +kernel
theorem d_M_putNumber_8 : decode b_M_putNumber 8 = .ok (.iconst 1, 1) := by decide +kernel
theorem d_M_putNumber_9 : decode b_M_putNumber 9 = .ok (.istore 6, 2) := by decide +kernel
theorem d_M_putNumber_11 : decode b_M_putNumber 11 = .ok (.iload 6, 2) := by decide +kernel
theorem d_M_putNumber_13 : decode b_M_putNumber 13 = .ok (.ifCond .eq 62, 3) := by decide +kernel
theorem d_M_putNumber_16 : decode b_M_putNumber 16 = .ok (.aload_n 0, 1) := by decide +kernel
theorem d_M_putNumber_17 : decode b_M_putNumber 17 = .ok (.lload 4, 2) := by decide +kernel
theorem d_M_putNumber_19 : decode b_M_putNumber 19 = .ok (.l2i, 1) := by decide +kernel
theorem d_M_putNumber_20 : decode b_M_putNumber 20 = .ok (.invokevirtual 556, 3) := by decide +kernel
theorem d_M_putNumber_23 : decode b_M_putNumber 23 = .ok (.lload 4, 2) := by decide +kernel
theorem d_M_putNumber_25 : decode b_M_putNumber 25 = .ok (.l2i, 1) := by decide +kernel
theorem d_M_putNumber_26 : decode b_M_putNumber 26 = .ok (.sipush 128, 3) := by decide +kernel
theorem d_M_putNumber_29 : decode b_M_putNumber 29 = .ok (.iand, 1) := by decide +kernel
theorem d_M_putNumber_30 : decode b_M_putNumber 30 = .ok (.istore 7, 2) := by decide +kernel
theorem d_M_putNumber_32 : decode b_M_putNumber 32 = .ok (.lload 4, 2) := by decide +kernel
theorem d_M_putNumber_34 : decode b_M_putNumber 34 = .ok (.bipush 8, 2) := by decide +kernel
theorem d_M_putNumber_36 : decode b_M_putNumber 36 = .ok (.lshr, 1) := by decide +kernel
theorem d_M_putNumber_37 : decode b_M_putNumber 37 = .ok (.lstore 4, 2) := by decide +kernel
theorem d_M_putNumber_39 : decode b_M_putNumber 39 = .ok (.lload 4, 2) := by decide +kernel
theorem d_M_putNumber_41 : decode b_M_putNumber 41 = .ok (.lconst 0, 1) := by decide +kernel
theorem d_M_putNumber_42 : decode b_M_putNumber 42 = .ok (.lcmp, 1) := by decide +kernel
theorem d_M_putNumber_43 : decode b_M_putNumber 43 = .ok (.ifCond .ne 8, 3) := by decide +kernel
theorem d_M_putNumber_46 : decode b_M_putNumber 46 = .ok (.iload 7, 2) := by decide +kernel
theorem d_M_putNumber_48 : decode b_M_putNumber 48 = .ok (.ifCond .eq 21, 3) := by decide +kernel
theorem d_M_putNumber_51 : decode b_M_putNumber 51 = .ok (.lload 4, 2) := by decide +kernel
theorem d_M_putNumber_53 : decode b_M_putNumber 53 = .ok (.ldc2_w 459, 3) := by decide +kernel
theorem d_M_putNumber_56 : decode b_M_putNumber 56 = .ok (.lcmp, 1) := by decide +kernel
theorem d_M_putNumber_57 : decode b_M_putNumber 57 = .ok (.ifCond .ne 8, 3) := by decide +kernel
theorem d_M_putNumber_60 : decode b_M_putNumber 60 = .ok (.iload 7, 2) := by decide +kernel
theorem d_M_putNumber_62 : decode b_M_putNumber 62 = .ok (.ifCond .ne 7, 3) := by decide +kernel
theorem d_M_putNumber_65 : decode b_M_putNumber 65 = .ok (.iconst 1, 1) := by decide +kernel
theorem d_M_putNumber_66 : decode b_M_putNumber 66 = .ok (.goto 4, 3) := by decide +kernel
theorem d_M_putNumber_69 : decode b_M_putNumber 69 = .ok (.iconst 0, 1) := by decide +kernel
theorem d_M_putNumber_70 : decode b_M_putNumber 70 = .ok (.istore 6, 2) := by decide +kernel
theorem d_M_putNumber_72 : decode b_M_putNumber 72 = .ok (.goto (-61), 3) := by decide +kernel
theorem d_M_putNumber_75 : decode b_M_putNumber 75 = .ok (.aload_n 0, 1) := by decide +kernel
theorem d_M_putNumber_76 : decode b_M_putNumber 76 = .ok (.iconst 2, 1) := by decide +kernel
theorem d_M_putNumber_77 : decode b_M_putNumber 77 = .ok (.iload_n 3, 1) := by decide +kernel
theorem d_M_putNumber_78 : decode b_M_putNumber 78 = .ok (.invokevirtual 559, 3) := by decide +kernel
theorem d_M_putNumber_81 : decode b_M_putNumber 81 = .ok (.return_, 1) := by decide +kernel
abbrev b_M_numberField : ByteArray := prog_14_method_65_code
def y_M_numberField : MethodName := ⟨R_M, "numberField", "(IJ)V"⟩
abbrev k_M_numberField : Cond := .code y_M_numberField b_M_numberField 5 none
theorem ki_M_numberField : k_M_numberField ∈ lw_tg := in_t 2605 (by decide +kernel)
theorem ks_M_numberField : Cond.instanceMethod y_M_numberField ∈ lw_tg := in_t 2604 (by decide +kernel)
theorem kx_M_numberField : Cond.selects R_M y_M_numberField y_M_numberField ∈ lw_tg := List.mem_filter.mpr ⟨List.mem_append_left _ (List.mem_of_getElem? (i := 144) (by decide +kernel)), rfl⟩
theorem kl_M_numberField : Cond.methodLink R_M 588 y_M_numberField ∈ lw_tg := in_t 2602 (by decide +kernel)
theorem hd_M_numberField : y_M_numberField.cls = R_M ∧ y_M_numberField.cls ≠ "java/lang/invoke/MethodHandle" ∧ y_M_numberField.cls ≠ "java/lang/invoke/VarHandle" ∧ (parseMethodDescriptor y_M_numberField.desc).map (fun d => d.parameters.length) = some 2 := by decide +kernel
theorem d_M_numberField_0 : decode b_M_numberField 0 = .ok (.aload_n 0, 1) := by decide +kernel
theorem d_M_numberField_1 : decode b_M_numberField 1 = .ok (.getfield 553, 3) := by decide +kernel
theorem d_M_numberField_4 : decode b_M_numberField 4 = .ok (.istore 4, 2) := by decide +kernel
theorem d_M_numberField_6 : decode b_M_numberField 6 = .ok (.aload_n 0, 1) := by decide +kernel
theorem d_M_numberField_7 : decode b_M_numberField 7 = .ok (.lload_n 2, 1) := by decide +kernel
theorem d_M_numberField_8 : decode b_M_numberField 8 = .ok (.invokevirtual 563, 3) := by decide +kernel
theorem d_M_numberField_11 : decode b_M_numberField 11 = .ok (.aload_n 0, 1) := by decide +kernel
theorem d_M_numberField_12 : decode b_M_numberField 12 = .ok (.iload_n 1, 1) := by decide +kernel
theorem d_M_numberField_13 : decode b_M_numberField 13 = .ok (.iload 4, 2) := by decide +kernel
theorem d_M_numberField_15 : decode b_M_numberField 15 = .ok (.invokevirtual 567, 3) := by decide +kernel
theorem d_M_numberField_18 : decode b_M_numberField 18 = .ok (.return_, 1) := by decide +kernel
abbrev b_M_putWord : ByteArray := prog_14_method_66_code
def y_M_putWord : MethodName := ⟨R_M, "putWord", "(Ljava/lang/String;)V"⟩
abbrev k_M_putWord : Cond := .code y_M_putWord b_M_putWord 4 none
theorem ki_M_putWord : k_M_putWord ∈ lw_tg := in_t 2617 (by decide +kernel)
theorem ks_M_putWord : Cond.instanceMethod y_M_putWord ∈ lw_tg := in_t 2616 (by decide +kernel)
theorem kx_M_putWord : Cond.selects R_M y_M_putWord y_M_putWord ∈ lw_tg := List.mem_filter.mpr ⟨List.mem_append_left _ (List.mem_of_getElem? (i := 147) (by decide +kernel)), rfl⟩
theorem kl_M_putWord : Cond.methodLink R_M 570 y_M_putWord ∈ lw_tg := in_t 2614 (by decide +kernel)
theorem hd_M_putWord : y_M_putWord.cls = R_M ∧ y_M_putWord.cls ≠ "java/lang/invoke/MethodHandle" ∧ y_M_putWord.cls ≠ "java/lang/invoke/VarHandle" ∧ (parseMethodDescriptor y_M_putWord.desc).map (fun d => d.parameters.length) = some 1 := by decide +kernel
theorem d_M_putWord_0 : decode b_M_putWord 0 = .ok (.aload_n 0, 1) := by decide +kernel
theorem d_M_putWord_1 : decode b_M_putWord 1 = .ok (.getfield 553, 3) := by decide +kernel
theorem d_M_putWord_4 : decode b_M_putWord 4 = .ok (.istore_n 2, 1) := by decide +kernel
theorem d_M_putWord_5 : decode b_M_putWord 5 = .ok (.aload_n 1, 1) := by decide +kernel
theorem d_M_putWord_6 : decode b_M_putWord 6 = .ok (.invokevirtual 339, 3) := by decide +kernel
theorem d_M_putWord_9 : decode b_M_putWord 9 = .ok (.iconst 1, 1) := by decide +kernel
theorem d_M_putWord_10 : decode b_M_putWord 10 = .ok (.isub, 1) := by decide +kernel
theorem d_M_putWord_11 : decode b_M_putWord 11 = .ok (.istore_n 3, 1) := by decide +kernel
theorem d_M_putWord_12 : decode b_M_putWord 12 = .ok (.iload_n 3, 1) := by decide +kernel
theorem d_M_putWord_13 : decode b_M_putWord 13 = .ok (.ifCond .lt 18, 3) := by decide +kernel
theorem d_M_putWord_16 : decode b_M_putWord 16 = .ok (.aload_n 0, 1) := by decide +kernel
theorem d_M_putWord_17 : decode b_M_putWord 17 = .ok (.aload_n 1, 1) := by decide +kernel
theorem d_M_putWord_18 : decode b_M_putWord 18 = .ok (.iload_n 3, 1) := by decide +kernel
theorem d_M_putWord_19 : decode b_M_putWord 19 = .ok (.invokevirtual 344, 3) := by decide +kernel
theorem d_M_putWord_22 : decode b_M_putWord 22 = .ok (.invokevirtual 556, 3) := by decide +kernel
theorem d_M_putWord_25 : decode b_M_putWord 25 = .ok (.iinc 3 (-1), 3) := by decide +kernel
theorem d_M_putWord_28 : decode b_M_putWord 28 = .ok (.goto (-16), 3) := by decide +kernel
theorem d_M_putWord_31 : decode b_M_putWord 31 = .ok (.aload_n 0, 1) := by decide +kernel
theorem d_M_putWord_32 : decode b_M_putWord 32 = .ok (.bipush 27, 2) := by decide +kernel
theorem d_M_putWord_34 : decode b_M_putWord 34 = .ok (.iload_n 2, 1) := by decide +kernel
theorem d_M_putWord_35 : decode b_M_putWord 35 = .ok (.invokevirtual 559, 3) := by decide +kernel
theorem d_M_putWord_38 : decode b_M_putWord 38 = .ok (.return_, 1) := by decide +kernel
abbrev b_M_wordField : ByteArray := prog_14_method_67_code
def y_M_wordField : MethodName := ⟨R_M, "wordField", "(ILjava/lang/String;)V"⟩
abbrev k_M_wordField : Cond := .code y_M_wordField b_M_wordField 4 none
theorem ki_M_wordField : k_M_wordField ∈ lw_tg := in_t 2613 (by decide +kernel)
theorem ks_M_wordField : Cond.instanceMethod y_M_wordField ∈ lw_tg := in_t 2612 (by decide +kernel)
theorem kx_M_wordField : Cond.selects R_M y_M_wordField y_M_wordField ∈ lw_tg := List.mem_filter.mpr ⟨List.mem_append_left _ (List.mem_of_getElem? (i := 146) (by decide +kernel)), rfl⟩
theorem kl_M_wordField : Cond.methodLink R_M 878 y_M_wordField ∈ lw_tg := in_t 2610 (by decide +kernel)
theorem hd_M_wordField : y_M_wordField.cls = R_M ∧ y_M_wordField.cls ≠ "java/lang/invoke/MethodHandle" ∧ y_M_wordField.cls ≠ "java/lang/invoke/VarHandle" ∧ (parseMethodDescriptor y_M_wordField.desc).map (fun d => d.parameters.length) = some 2 := by decide +kernel
theorem d_M_wordField_0 : decode b_M_wordField 0 = .ok (.aload_n 0, 1) := by decide +kernel
theorem d_M_wordField_1 : decode b_M_wordField 1 = .ok (.getfield 553, 3) := by decide +kernel
theorem d_M_wordField_4 : decode b_M_wordField 4 = .ok (.istore_n 3, 1) := by decide +kernel
theorem d_M_wordField_5 : decode b_M_wordField 5 = .ok (.aload_n 0, 1) := by decide +kernel
theorem d_M_wordField_6 : decode b_M_wordField 6 = .ok (.aload_n 2, 1) := by decide +kernel
theorem d_M_wordField_7 : decode b_M_wordField 7 = .ok (.invokevirtual 570, 3) := by decide +kernel
theorem d_M_wordField_10 : decode b_M_wordField 10 = .ok (.aload_n 0, 1) := by decide +kernel
theorem d_M_wordField_11 : decode b_M_wordField 11 = .ok (.iload_n 1, 1) := by decide +kernel
theorem d_M_wordField_12 : decode b_M_wordField 12 = .ok (.iload_n 3, 1) := by decide +kernel
theorem d_M_wordField_13 : decode b_M_wordField 13 = .ok (.invokevirtual 567, 3) := by decide +kernel
theorem d_M_wordField_16 : decode b_M_wordField 16 = .ok (.return_, 1) := by decide +kernel
abbrev b_M_putBytes : ByteArray := prog_14_method_68_code
def y_M_putBytes : MethodName := ⟨R_M, "putBytes", "([BII)V"⟩
abbrev k_M_putBytes : Cond := .code y_M_putBytes b_M_putBytes 5 none
theorem ki_M_putBytes : k_M_putBytes ∈ lw_tg := in_t 2573 (by decide +kernel)
theorem ks_M_putBytes : Cond.instanceMethod y_M_putBytes ∈ lw_tg := in_t 2572 (by decide +kernel)
theorem kx_M_putBytes : Cond.selects R_M y_M_putBytes y_M_putBytes ∈ lw_tg := List.mem_filter.mpr ⟨List.mem_append_left _ (List.mem_of_getElem? (i := 136) (by decide +kernel)), rfl⟩
theorem kl_M_putBytes : Cond.methodLink R_M 574 y_M_putBytes ∈ lw_tg := in_t 2570 (by decide +kernel)
theorem hd_M_putBytes : y_M_putBytes.cls = R_M ∧ y_M_putBytes.cls ≠ "java/lang/invoke/MethodHandle" ∧ y_M_putBytes.cls ≠ "java/lang/invoke/VarHandle" ∧ (parseMethodDescriptor y_M_putBytes.desc).map (fun d => d.parameters.length) = some 3 := by decide +kernel
theorem d_M_putBytes_0 : decode b_M_putBytes 0 = .ok (.iload_n 3, 1) := by decide +kernel
theorem d_M_putBytes_1 : decode b_M_putBytes 1 = .ok (.iconst 1, 1) := by decide +kernel
theorem d_M_putBytes_2 : decode b_M_putBytes 2 = .ok (.isub, 1) := by decide +kernel
theorem d_M_putBytes_3 : decode b_M_putBytes 3 = .ok (.istore 4, 2) := by decide +kernel
theorem d_M_putBytes_5 : decode b_M_putBytes 5 = .ok (.iload 4, 2) := by decide +kernel
theorem d_M_putBytes_7 : decode b_M_putBytes 7 = .ok (.ifCond .lt 19, 3) := by decide +kernel
theorem d_M_putBytes_10 : decode b_M_putBytes 10 = .ok (.aload_n 0, 1) := by decide +kernel
theorem d_M_putBytes_11 : decode b_M_putBytes 11 = .ok (.aload_n 1, 1) := by decide +kernel
theorem d_M_putBytes_12 : decode b_M_putBytes 12 = .ok (.iload_n 2, 1) := by decide +kernel
theorem d_M_putBytes_13 : decode b_M_putBytes 13 = .ok (.iload 4, 2) := by decide +kernel
theorem d_M_putBytes_15 : decode b_M_putBytes 15 = .ok (.iadd, 1) := by decide +kernel
theorem d_M_putBytes_16 : decode b_M_putBytes 16 = .ok (.baload, 1) := by decide +kernel
theorem d_M_putBytes_17 : decode b_M_putBytes 17 = .ok (.invokevirtual 556, 3) := by decide +kernel
theorem d_M_putBytes_20 : decode b_M_putBytes 20 = .ok (.iinc 4 (-1), 3) := by decide +kernel
theorem d_M_putBytes_23 : decode b_M_putBytes 23 = .ok (.goto (-18), 3) := by decide +kernel
theorem d_M_putBytes_26 : decode b_M_putBytes 26 = .ok (.return_, 1) := by decide +kernel
abbrev b_M_octetField : ByteArray := prog_14_method_69_code
def y_M_octetField : MethodName := ⟨R_M, "octetField", "(I[BII)V"⟩
abbrev k_M_octetField : Cond := .code y_M_octetField b_M_octetField 6 none
theorem ki_M_octetField : k_M_octetField ∈ lw_tg := in_t 2601 (by decide +kernel)
theorem ks_M_octetField : Cond.instanceMethod y_M_octetField ∈ lw_tg := in_t 2600 (by decide +kernel)
theorem kx_M_octetField : Cond.selects R_M y_M_octetField y_M_octetField ∈ lw_tg := List.mem_filter.mpr ⟨List.mem_append_left _ (List.mem_of_getElem? (i := 143) (by decide +kernel)), rfl⟩
theorem kl_M_octetField : Cond.methodLink R_M 584 y_M_octetField ∈ lw_tg := in_t 2598 (by decide +kernel)
theorem hd_M_octetField : y_M_octetField.cls = R_M ∧ y_M_octetField.cls ≠ "java/lang/invoke/MethodHandle" ∧ y_M_octetField.cls ≠ "java/lang/invoke/VarHandle" ∧ (parseMethodDescriptor y_M_octetField.desc).map (fun d => d.parameters.length) = some 4 := by decide +kernel
theorem d_M_octetField_0 : decode b_M_octetField 0 = .ok (.aload_n 0, 1) := by decide +kernel
theorem d_M_octetField_1 : decode b_M_octetField 1 = .ok (.getfield 553, 3) := by decide +kernel
theorem d_M_octetField_4 : decode b_M_octetField 4 = .ok (.istore 5, 2) := by decide +kernel
theorem d_M_octetField_6 : decode b_M_octetField 6 = .ok (.aload_n 0, 1) := by decide +kernel
theorem d_M_octetField_7 : decode b_M_octetField 7 = .ok (.aload_n 2, 1) := by decide +kernel
theorem d_M_octetField_8 : decode b_M_octetField 8 = .ok (.iload_n 3, 1) := by decide +kernel
theorem d_M_octetField_9 : decode b_M_octetField 9 = .ok (.iload 4, 2) := by decide +kernel
theorem d_M_octetField_11 : decode b_M_octetField 11 = .ok (.invokevirtual 574, 3) := by decide +kernel
theorem d_M_octetField_14 : decode b_M_octetField 14 = .ok (.aload_n 0, 1) := by decide +kernel
theorem d_M_octetField_15 : decode b_M_octetField 15 = .ok (.iconst 4, 1) := by decide +kernel
theorem d_M_octetField_16 : decode b_M_octetField 16 = .ok (.iload 5, 2) := by decide +kernel
theorem d_M_octetField_18 : decode b_M_octetField 18 = .ok (.invokevirtual 559, 3) := by decide +kernel
theorem d_M_octetField_21 : decode b_M_octetField 21 = .ok (.aload_n 0, 1) := by decide +kernel
theorem d_M_octetField_22 : decode b_M_octetField 22 = .ok (.iload_n 1, 1) := by decide +kernel
theorem d_M_octetField_23 : decode b_M_octetField 23 = .ok (.iload 5, 2) := by decide +kernel
theorem d_M_octetField_25 : decode b_M_octetField 25 = .ok (.invokevirtual 567, 3) := by decide +kernel
theorem d_M_octetField_28 : decode b_M_octetField 28 = .ok (.return_, 1) := by decide +kernel
abbrev b_M_copyField : ByteArray := prog_14_method_70_code
def y_M_copyField : MethodName := ⟨R_M, "copyField", "(III)V"⟩
abbrev k_M_copyField : Cond := .code y_M_copyField b_M_copyField 5 none
theorem ki_M_copyField : k_M_copyField ∈ lw_tg := in_t 2569 (by decide +kernel)
theorem ks_M_copyField : Cond.instanceMethod y_M_copyField ∈ lw_tg := in_t 2568 (by decide +kernel)
theorem kx_M_copyField : Cond.selects R_M y_M_copyField y_M_copyField ∈ lw_tg := List.mem_filter.mpr ⟨List.mem_append_left _ (List.mem_of_getElem? (i := 135) (by decide +kernel)), rfl⟩
theorem kl_M_copyField : Cond.methodLink R_M 874 y_M_copyField ∈ lw_tg := in_t 2566 (by decide +kernel)
theorem hd_M_copyField : y_M_copyField.cls = R_M ∧ y_M_copyField.cls ≠ "java/lang/invoke/MethodHandle" ∧ y_M_copyField.cls ≠ "java/lang/invoke/VarHandle" ∧ (parseMethodDescriptor y_M_copyField.desc).map (fun d => d.parameters.length) = some 3 := by decide +kernel
theorem d_M_copyField_0 : decode b_M_copyField 0 = .ok (.aload_n 0, 1) := by decide +kernel
theorem d_M_copyField_1 : decode b_M_copyField 1 = .ok (.getfield 553, 3) := by decide +kernel
theorem d_M_copyField_4 : decode b_M_copyField 4 = .ok (.istore 4, 2) := by decide +kernel
theorem d_M_copyField_6 : decode b_M_copyField 6 = .ok (.aload_n 0, 1) := by decide +kernel
theorem d_M_copyField_7 : decode b_M_copyField 7 = .ok (.aload_n 0, 1) := by decide +kernel
theorem d_M_copyField_8 : decode b_M_copyField 8 = .ok (.getfield 10, 3) := by decide +kernel
theorem d_M_copyField_11 : decode b_M_copyField 11 = .ok (.iload_n 2, 1) := by decide +kernel
theorem d_M_copyField_12 : decode b_M_copyField 12 = .ok (.iload_n 3, 1) := by decide +kernel
theorem d_M_copyField_13 : decode b_M_copyField 13 = .ok (.iload_n 2, 1) := by decide +kernel
theorem d_M_copyField_14 : decode b_M_copyField 14 = .ok (.isub, 1) := by decide +kernel
theorem d_M_copyField_15 : decode b_M_copyField 15 = .ok (.invokevirtual 574, 3) := by decide +kernel
theorem d_M_copyField_18 : decode b_M_copyField 18 = .ok (.aload_n 0, 1) := by decide +kernel
theorem d_M_copyField_19 : decode b_M_copyField 19 = .ok (.iload_n 1, 1) := by decide +kernel
theorem d_M_copyField_20 : decode b_M_copyField 20 = .ok (.iload 4, 2) := by decide +kernel
theorem d_M_copyField_22 : decode b_M_copyField 22 = .ok (.invokevirtual 567, 3) := by decide +kernel
theorem d_M_copyField_25 : decode b_M_copyField 25 = .ok (.return_, 1) := by decide +kernel
abbrev b_M_timeField : ByteArray := prog_14_method_71_code
def y_M_timeField : MethodName := ⟨R_M, "timeField", "(IJ)V"⟩
abbrev k_M_timeField : Cond := .code y_M_timeField b_M_timeField 5 none
theorem ki_M_timeField : k_M_timeField ∈ lw_tg := in_t 2589 (by decide +kernel)
theorem ks_M_timeField : Cond.instanceMethod y_M_timeField ∈ lw_tg := in_t 2588 (by decide +kernel)
theorem kx_M_timeField : Cond.selects R_M y_M_timeField y_M_timeField ∈ lw_tg := List.mem_filter.mpr ⟨List.mem_append_left _ (List.mem_of_getElem? (i := 140) (by decide +kernel)), rfl⟩
theorem kl_M_timeField : Cond.methodLink R_M 884 y_M_timeField ∈ lw_tg := in_t 2586 (by decide +kernel)
theorem hd_M_timeField : y_M_timeField.cls = R_M ∧ y_M_timeField.cls ≠ "java/lang/invoke/MethodHandle" ∧ y_M_timeField.cls ≠ "java/lang/invoke/VarHandle" ∧ (parseMethodDescriptor y_M_timeField.desc).map (fun d => d.parameters.length) = some 2 := by decide +kernel
theorem d_M_timeField_0 : decode b_M_timeField 0 = .ok (.aload_n 0, 1) := by decide +kernel
theorem d_M_timeField_1 : decode b_M_timeField 1 = .ok (.getfield 553, 3) := by decide +kernel
theorem d_M_timeField_4 : decode b_M_timeField 4 = .ok (.istore 4, 2) := by decide +kernel
theorem d_M_timeField_6 : decode b_M_timeField 6 = .ok (.aload_n 0, 1) := by decide +kernel
theorem d_M_timeField_7 : decode b_M_timeField 7 = .ok (.lload_n 2, 1) := by decide +kernel
theorem d_M_timeField_8 : decode b_M_timeField 8 = .ok (.invokevirtual 578, 3) := by decide +kernel
theorem d_M_timeField_11 : decode b_M_timeField 11 = .ok (.aload_n 0, 1) := by decide +kernel
theorem d_M_timeField_12 : decode b_M_timeField 12 = .ok (.iload_n 1, 1) := by decide +kernel
theorem d_M_timeField_13 : decode b_M_timeField 13 = .ok (.iload 4, 2) := by decide +kernel
theorem d_M_timeField_15 : decode b_M_timeField 15 = .ok (.invokevirtual 567, 3) := by decide +kernel
theorem d_M_timeField_18 : decode b_M_timeField 18 = .ok (.return_, 1) := by decide +kernel
abbrev b_M_putTime : ByteArray := prog_14_method_72_code
def y_M_putTime : MethodName := ⟨R_M, "putTime", "(J)V"⟩
abbrev k_M_putTime : Cond := .code y_M_putTime b_M_putTime 8 none
theorem ki_M_putTime : k_M_putTime ∈ lw_tg := in_t 2593 (by decide +kernel)
theorem ks_M_putTime : Cond.instanceMethod y_M_putTime ∈ lw_tg := in_t 2592 (by decide +kernel)
theorem kx_M_putTime : Cond.selects R_M y_M_putTime y_M_putTime ∈ lw_tg := List.mem_filter.mpr ⟨List.mem_append_left _ (List.mem_of_getElem? (i := 141) (by decide +kernel)), rfl⟩
theorem kl_M_putTime : Cond.methodLink R_M 578 y_M_putTime ∈ lw_tg := in_t 2590 (by decide +kernel)
theorem hd_M_putTime : y_M_putTime.cls = R_M ∧ y_M_putTime.cls ≠ "java/lang/invoke/MethodHandle" ∧ y_M_putTime.cls ≠ "java/lang/invoke/VarHandle" ∧ (parseMethodDescriptor y_M_putTime.desc).map (fun d => d.parameters.length) = some 1 := by decide +kernel
theorem d_M_putTime_0 : decode b_M_putTime 0 = .ok (.aload_n 0, 1) := by decide +kernel
theorem d_M_putTime_1 : decode b_M_putTime 1 = .ok (.getfield 553, 3) := by decide +kernel
theorem d_M_putTime_4 : decode b_M_putTime 4 = .ok (.istore_n 3, 1) := by decide +kernel
theorem d_M_putTime_5 : decode b_M_putTime 5 = .ok (.lload_n 1, 1) := by decide +kernel
theorem d_M_putTime_6 : decode b_M_putTime 6 = .ok (.ldc2_w 464, 3) := by decide +kernel
theorem d_M_putTime_9 : decode b_M_putTime 9 = .ok (.ldiv, 1) := by decide +kernel
theorem d_M_putTime_10 : decode b_M_putTime 10 = .ok (.l2i, 1) := by decide +kernel
theorem d_M_putTime_11 : decode b_M_putTime 11 = .ok (.istore 4, 2) := by decide +kernel
theorem d_M_putTime_13 : decode b_M_putTime 13 = .ok (.lload_n 1, 1) := by decide +kernel
theorem d_M_putTime_14 : decode b_M_putTime 14 = .ok (.ldc2_w 464, 3) := by decide +kernel
theorem d_M_putTime_17 : decode b_M_putTime 17 = .ok (.lrem, 1) := by decide +kernel
theorem d_M_putTime_18 : decode b_M_putTime 18 = .ok (.l2i, 1) := by decide +kernel
theorem d_M_putTime_19 : decode b_M_putTime 19 = .ok (.istore 5, 2) := by decide +kernel
theorem d_M_putTime_21 : decode b_M_putTime 21 = .ok (.sipush 1970, 3) := by decide +kernel
theorem d_M_putTime_24 : decode b_M_putTime 24 = .ok (.istore 6, 2) := by decide +kernel
theorem d_M_putTime_26 : decode b_M_putTime 26 = .ok (.iload 4, 2) := by decide +kernel
theorem d_M_putTime_28 : decode b_M_putTime 28 = .ok (.iload 6, 2) := by decide +kernel
theorem d_M_putTime_30 : decode b_M_putTime 30 = .ok (.iconst 4, 1) := by decide +kernel
theorem d_M_putTime_31 : decode b_M_putTime 31 = .ok (.irem, 1) := by decide +kernel
theorem d_M_putTime_32 : decode b_M_putTime 32 = .ok (.ifCond .ne 17, 3) := by decide +kernel
theorem d_M_putTime_35 : decode b_M_putTime 35 = .ok (.iload 6, 2) := by decide +kernel
theorem d_M_putTime_37 : decode b_M_putTime 37 = .ok (.sipush 2100, 3) := by decide +kernel
theorem d_M_putTime_40 : decode b_M_putTime 40 = .ok (.if_icmp .eq 9, 3) := by decide +kernel
theorem d_M_putTime_43 : decode b_M_putTime 43 = .ok (.sipush 366, 3) := by decide +kernel
theorem d_M_putTime_46 : decode b_M_putTime 46 = .ok (.goto 6, 3) := by decide +kernel
theorem d_M_putTime_49 : decode b_M_putTime 49 = .ok (.sipush 365, 3) := by decide +kernel
theorem d_M_putTime_52 : decode b_M_putTime 52 = .ok (.if_icmp .lt 38, 3) := by decide +kernel
theorem d_M_putTime_55 : decode b_M_putTime 55 = .ok (.iload 4, 2) := by decide +kernel
theorem d_M_putTime_57 : decode b_M_putTime 57 = .ok (.iload 6, 2) := by decide +kernel
theorem d_M_putTime_59 : decode b_M_putTime 59 = .ok (.iconst 4, 1) := by decide +kernel
theorem d_M_putTime_60 : decode b_M_putTime 60 = .ok (.irem, 1) := by decide +kernel
theorem d_M_putTime_61 : decode b_M_putTime 61 = .ok (.ifCond .ne 17, 3) := by decide +kernel
theorem d_M_putTime_64 : decode b_M_putTime 64 = .ok (.iload 6, 2) := by decide +kernel
theorem d_M_putTime_66 : decode b_M_putTime 66 = .ok (.sipush 2100, 3) := by decide +kernel
theorem d_M_putTime_69 : decode b_M_putTime 69 = .ok (.if_icmp .eq 9, 3) := by decide +kernel
theorem d_M_putTime_72 : decode b_M_putTime 72 = .ok (.sipush 366, 3) := by decide +kernel
theorem d_M_putTime_75 : decode b_M_putTime 75 = .ok (.goto 6, 3) := by decide +kernel
theorem d_M_putTime_78 : decode b_M_putTime 78 = .ok (.sipush 365, 3) := by decide +kernel
theorem d_M_putTime_81 : decode b_M_putTime 81 = .ok (.isub, 1) := by decide +kernel
theorem d_M_putTime_82 : decode b_M_putTime 82 = .ok (.istore 4, 2) := by decide +kernel
theorem d_M_putTime_84 : decode b_M_putTime 84 = .ok (.iinc 6 1, 3) := by decide +kernel
theorem d_M_putTime_87 : decode b_M_putTime 87 = .ok (.goto (-61), 3) := by decide +kernel
theorem d_M_putTime_90 : decode b_M_putTime 90 = .ok (.iconst 1, 1) := by decide +kernel
theorem d_M_putTime_91 : decode b_M_putTime 91 = .ok (.istore 7, 2) := by decide +kernel
theorem d_M_putTime_93 : decode b_M_putTime 93 = .ok (.iload 4, 2) := by decide +kernel
theorem d_M_putTime_95 : decode b_M_putTime 95 = .ok (.iload 6, 2) := by decide +kernel
theorem d_M_putTime_97 : decode b_M_putTime 97 = .ok (.iload 7, 2) := by decide +kernel
theorem d_M_putTime_99 : decode b_M_putTime 99 = .ok (.invokestatic 456, 3) := by decide +kernel
theorem d_M_putTime_102 : decode b_M_putTime 102 = .ok (.if_icmp .lt 21, 3) := by decide +kernel
theorem d_M_putTime_105 : decode b_M_putTime 105 = .ok (.iload 4, 2) := by decide +kernel
theorem d_M_putTime_107 : decode b_M_putTime 107 = .ok (.iload 6, 2) := by decide +kernel
theorem d_M_putTime_109 : decode b_M_putTime 109 = .ok (.iload 7, 2) := by decide +kernel
theorem d_M_putTime_111 : decode b_M_putTime 111 = .ok (.invokestatic 456, 3) := by decide +kernel
theorem d_M_putTime_114 : decode b_M_putTime 114 = .ok (.isub, 1) := by decide +kernel
theorem d_M_putTime_115 : decode b_M_putTime 115 = .ok (.istore 4, 2) := by decide +kernel
theorem d_M_putTime_117 : decode b_M_putTime 117 = .ok (.iinc 7 1, 3) := by decide +kernel
theorem d_M_putTime_120 : decode b_M_putTime 120 = .ok (.goto (-27), 3) := by decide +kernel
theorem d_M_putTime_123 : decode b_M_putTime 123 = .ok (.aload_n 0, 1) := by decide +kernel
theorem d_M_putTime_124 : decode b_M_putTime 124 = .ok (.bipush 90, 2) := by decide +kernel
theorem d_M_putTime_126 : decode b_M_putTime 126 = .ok (.invokevirtual 556, 3) := by decide +kernel
theorem d_M_putTime_129 : decode b_M_putTime 129 = .ok (.aload_n 0, 1) := by decide +kernel
theorem d_M_putTime_130 : decode b_M_putTime 130 = .ok (.iload 5, 2) := by decide +kernel
theorem d_M_putTime_132 : decode b_M_putTime 132 = .ok (.bipush 60, 2) := by decide +kernel
theorem d_M_putTime_134 : decode b_M_putTime 134 = .ok (.irem, 1) := by decide +kernel
theorem d_M_putTime_135 : decode b_M_putTime 135 = .ok (.invokevirtual 581, 3) := by decide +kernel
theorem d_M_putTime_138 : decode b_M_putTime 138 = .ok (.aload_n 0, 1) := by decide +kernel
theorem d_M_putTime_139 : decode b_M_putTime 139 = .ok (.iload 5, 2) := by decide +kernel
theorem d_M_putTime_141 : decode b_M_putTime 141 = .ok (.bipush 60, 2) := by decide +kernel
theorem d_M_putTime_143 : decode b_M_putTime 143 = .ok (.idiv, 1) := by decide +kernel
theorem d_M_putTime_144 : decode b_M_putTime 144 = .ok (.bipush 60, 2) := by decide +kernel
theorem d_M_putTime_146 : decode b_M_putTime 146 = .ok (.irem, 1) := by decide +kernel
theorem d_M_putTime_147 : decode b_M_putTime 147 = .ok (.invokevirtual 581, 3) := by decide +kernel
theorem d_M_putTime_150 : decode b_M_putTime 150 = .ok (.aload_n 0, 1) := by decide +kernel
theorem d_M_putTime_151 : decode b_M_putTime 151 = .ok (.iload 5, 2) := by decide +kernel
theorem d_M_putTime_153 : decode b_M_putTime 153 = .ok (.sipush 3600, 3) := by decide +kernel
theorem d_M_putTime_156 : decode b_M_putTime 156 = .ok (.idiv, 1) := by decide +kernel
theorem d_M_putTime_157 : decode b_M_putTime 157 = .ok (.invokevirtual 581, 3) := by decide +kernel
theorem d_M_putTime_160 : decode b_M_putTime 160 = .ok (.aload_n 0, 1) := by decide +kernel
theorem d_M_putTime_161 : decode b_M_putTime 161 = .ok (.iload 4, 2) := by decide +kernel
theorem d_M_putTime_163 : decode b_M_putTime 163 = .ok (.iconst 1, 1) := by decide +kernel
theorem d_M_putTime_164 : decode b_M_putTime 164 = .ok (.iadd, 1) := by decide +kernel
theorem d_M_putTime_165 : decode b_M_putTime 165 = .ok (.invokevirtual 581, 3) := by decide +kernel
theorem d_M_putTime_168 : decode b_M_putTime 168 = .ok (.aload_n 0, 1) := by decide +kernel
theorem d_M_putTime_169 : decode b_M_putTime 169 = .ok (.iload 7, 2) := by decide +kernel
theorem d_M_putTime_171 : decode b_M_putTime 171 = .ok (.invokevirtual 581, 3) := by decide +kernel
theorem d_M_putTime_174 : decode b_M_putTime 174 = .ok (.aload_n 0, 1) := by decide +kernel
theorem d_M_putTime_175 : decode b_M_putTime 175 = .ok (.iload 6, 2) := by decide +kernel
theorem d_M_putTime_177 : decode b_M_putTime 177 = .ok (.bipush 100, 2) := by decide +kernel
theorem d_M_putTime_179 : decode b_M_putTime 179 = .ok (.irem, 1) := by decide +kernel
theorem d_M_putTime_180 : decode b_M_putTime 180 = .ok (.invokevirtual 581, 3) := by decide +kernel
theorem d_M_putTime_183 : decode b_M_putTime 183 = .ok (.aload_n 0, 1) := by decide +kernel
theorem d_M_putTime_184 : decode b_M_putTime 184 = .ok (.iload 6, 2) := by decide +kernel
theorem d_M_putTime_186 : decode b_M_putTime 186 = .ok (.bipush 100, 2) := by decide +kernel
theorem d_M_putTime_188 : decode b_M_putTime 188 = .ok (.idiv, 1) := by decide +kernel
theorem d_M_putTime_189 : decode b_M_putTime 189 = .ok (.invokevirtual 581, 3) := by decide +kernel
theorem d_M_putTime_192 : decode b_M_putTime 192 = .ok (.aload_n 0, 1) := by decide +kernel
theorem d_M_putTime_193 : decode b_M_putTime 193 = .ok (.bipush 24, 2) := by decide +kernel
theorem d_M_putTime_195 : decode b_M_putTime 195 = .ok (.iload_n 3, 1) := by decide +kernel
theorem d_M_putTime_196 : decode b_M_putTime 196 = .ok (.invokevirtual 559, 3) := by decide +kernel
theorem d_M_putTime_199 : decode b_M_putTime 199 = .ok (.return_, 1) := by decide +kernel
abbrev b_M_putTwo : ByteArray := prog_14_method_73_code
def y_M_putTwo : MethodName := ⟨R_M, "putTwo", "(I)V"⟩
abbrev k_M_putTwo : Cond := .code y_M_putTwo b_M_putTwo 2 none
theorem ki_M_putTwo : k_M_putTwo ∈ lw_tg := in_t 2597 (by decide +kernel)
theorem ks_M_putTwo : Cond.instanceMethod y_M_putTwo ∈ lw_tg := in_t 2596 (by decide +kernel)
theorem kx_M_putTwo : Cond.selects R_M y_M_putTwo y_M_putTwo ∈ lw_tg := List.mem_filter.mpr ⟨List.mem_append_left _ (List.mem_of_getElem? (i := 142) (by decide +kernel)), rfl⟩
theorem kl_M_putTwo : Cond.methodLink R_M 581 y_M_putTwo ∈ lw_tg := in_t 2594 (by decide +kernel)
theorem hd_M_putTwo : y_M_putTwo.cls = R_M ∧ y_M_putTwo.cls ≠ "java/lang/invoke/MethodHandle" ∧ y_M_putTwo.cls ≠ "java/lang/invoke/VarHandle" ∧ (parseMethodDescriptor y_M_putTwo.desc).map (fun d => d.parameters.length) = some 1 := by decide +kernel
theorem d_M_putTwo_0 : decode b_M_putTwo 0 = .ok (.aload_n 0, 1) := by decide +kernel
theorem d_M_putTwo_1 : decode b_M_putTwo 1 = .ok (.bipush 48, 2) := by decide +kernel
theorem d_M_putTwo_3 : decode b_M_putTwo 3 = .ok (.iload_n 1, 1) := by decide +kernel
theorem d_M_putTwo_4 : decode b_M_putTwo 4 = .ok (.bipush 10, 2) := by decide +kernel
theorem d_M_putTwo_6 : decode b_M_putTwo 6 = .ok (.irem, 1) := by decide +kernel
theorem d_M_putTwo_7 : decode b_M_putTwo 7 = .ok (.iadd, 1) := by decide +kernel
theorem d_M_putTwo_8 : decode b_M_putTwo 8 = .ok (.invokevirtual 556, 3) := by decide +kernel
theorem d_M_putTwo_11 : decode b_M_putTwo 11 = .ok (.aload_n 0, 1) := by decide +kernel
theorem d_M_putTwo_12 : decode b_M_putTwo 12 = .ok (.bipush 48, 2) := by decide +kernel
theorem d_M_putTwo_14 : decode b_M_putTwo 14 = .ok (.iload_n 1, 1) := by decide +kernel
theorem d_M_putTwo_15 : decode b_M_putTwo 15 = .ok (.bipush 10, 2) := by decide +kernel
theorem d_M_putTwo_17 : decode b_M_putTwo 17 = .ok (.idiv, 1) := by decide +kernel
theorem d_M_putTwo_18 : decode b_M_putTwo 18 = .ok (.iadd, 1) := by decide +kernel
theorem d_M_putTwo_19 : decode b_M_putTwo 19 = .ok (.invokevirtual 556, 3) := by decide +kernel
theorem d_M_putTwo_22 : decode b_M_putTwo 22 = .ok (.return_, 1) := by decide +kernel
abbrev b_M_flagsField : ByteArray := prog_14_method_74_code
def y_M_flagsField : MethodName := ⟨R_M, "flagsField", "(II)V"⟩
abbrev k_M_flagsField : Cond := .code y_M_flagsField b_M_flagsField 5 none
theorem ki_M_flagsField : k_M_flagsField ∈ lw_tg := in_t 2625 (by decide +kernel)
theorem ks_M_flagsField : Cond.instanceMethod y_M_flagsField ∈ lw_tg := in_t 2624 (by decide +kernel)
theorem kx_M_flagsField : Cond.selects R_M y_M_flagsField y_M_flagsField ∈ lw_tg := List.mem_filter.mpr ⟨List.mem_append_left _ (List.mem_of_getElem? (i := 149) (by decide +kernel)), rfl⟩
theorem kl_M_flagsField : Cond.methodLink R_M 890 y_M_flagsField ∈ lw_tg := in_t 2622 (by decide +kernel)
theorem hd_M_flagsField : y_M_flagsField.cls = R_M ∧ y_M_flagsField.cls ≠ "java/lang/invoke/MethodHandle" ∧ y_M_flagsField.cls ≠ "java/lang/invoke/VarHandle" ∧ (parseMethodDescriptor y_M_flagsField.desc).map (fun d => d.parameters.length) = some 2 := by decide +kernel
theorem d_M_flagsField_0 : decode b_M_flagsField 0 = .ok (.aload_n 0, 1) := by decide +kernel
theorem d_M_flagsField_1 : decode b_M_flagsField 1 = .ok (.getfield 553, 3) := by decide +kernel
theorem d_M_flagsField_4 : decode b_M_flagsField 4 = .ok (.istore_n 3, 1) := by decide +kernel
theorem d_M_flagsField_5 : decode b_M_flagsField 5 = .ok (.iconst 0, 1) := by decide +kernel
theorem d_M_flagsField_6 : decode b_M_flagsField 6 = .ok (.istore 4, 2) := by decide +kernel
theorem d_M_flagsField_8 : decode b_M_flagsField 8 = .ok (.iload 4, 2) := by decide +kernel
theorem d_M_flagsField_10 : decode b_M_flagsField 10 = .ok (.iconst 4, 1) := by decide +kernel
theorem d_M_flagsField_11 : decode b_M_flagsField 11 = .ok (.if_icmp .ge 20, 3) := by decide +kernel
theorem d_M_flagsField_14 : decode b_M_flagsField 14 = .ok (.aload_n 0, 1) := by decide +kernel
theorem d_M_flagsField_15 : decode b_M_flagsField 15 = .ok (.iload_n 2, 1) := by decide +kernel
theorem d_M_flagsField_16 : decode b_M_flagsField 16 = .ok (.bipush 8, 2) := by decide +kernel
theorem d_M_flagsField_18 : decode b_M_flagsField 18 = .ok (.iload 4, 2) := by decide +kernel
theorem d_M_flagsField_20 : decode b_M_flagsField 20 = .ok (.imul, 1) := by decide +kernel
theorem d_M_flagsField_21 : decode b_M_flagsField 21 = .ok (.iushr, 1) := by decide +kernel
theorem d_M_flagsField_22 : decode b_M_flagsField 22 = .ok (.invokevirtual 556, 3) := by decide +kernel
theorem d_M_flagsField_25 : decode b_M_flagsField 25 = .ok (.iinc 4 1, 3) := by decide +kernel
theorem d_M_flagsField_28 : decode b_M_flagsField 28 = .ok (.goto (-20), 3) := by decide +kernel
theorem d_M_flagsField_31 : decode b_M_flagsField 31 = .ok (.aload_n 0, 1) := by decide +kernel
theorem d_M_flagsField_32 : decode b_M_flagsField 32 = .ok (.iconst 0, 1) := by decide +kernel
theorem d_M_flagsField_33 : decode b_M_flagsField 33 = .ok (.invokevirtual 556, 3) := by decide +kernel
theorem d_M_flagsField_36 : decode b_M_flagsField 36 = .ok (.aload_n 0, 1) := by decide +kernel
theorem d_M_flagsField_37 : decode b_M_flagsField 37 = .ok (.iconst 3, 1) := by decide +kernel
theorem d_M_flagsField_38 : decode b_M_flagsField 38 = .ok (.iload_n 3, 1) := by decide +kernel
theorem d_M_flagsField_39 : decode b_M_flagsField 39 = .ok (.invokevirtual 559, 3) := by decide +kernel
theorem d_M_flagsField_42 : decode b_M_flagsField 42 = .ok (.aload_n 0, 1) := by decide +kernel
theorem d_M_flagsField_43 : decode b_M_flagsField 43 = .ok (.iload_n 1, 1) := by decide +kernel
theorem d_M_flagsField_44 : decode b_M_flagsField 44 = .ok (.iload_n 3, 1) := by decide +kernel
theorem d_M_flagsField_45 : decode b_M_flagsField 45 = .ok (.invokevirtual 567, 3) := by decide +kernel
theorem d_M_flagsField_48 : decode b_M_flagsField 48 = .ok (.return_, 1) := by decide +kernel
abbrev b_M_keyField : ByteArray := prog_14_method_75_code
def y_M_keyField : MethodName := ⟨R_M, "keyField", "(II[B)V"⟩
abbrev k_M_keyField : Cond := .code y_M_keyField b_M_keyField 5 none
theorem ki_M_keyField : k_M_keyField ∈ lw_tg := in_t 2621 (by decide +kernel)
theorem ks_M_keyField : Cond.instanceMethod y_M_keyField ∈ lw_tg := in_t 2620 (by decide +kernel)
theorem kx_M_keyField : Cond.selects R_M y_M_keyField y_M_keyField ∈ lw_tg := List.mem_filter.mpr ⟨List.mem_append_left _ (List.mem_of_getElem? (i := 148) (by decide +kernel)), rfl⟩
theorem kl_M_keyField : Cond.methodLink R_M 887 y_M_keyField ∈ lw_tg := in_t 2618 (by decide +kernel)
theorem hd_M_keyField : y_M_keyField.cls = R_M ∧ y_M_keyField.cls ≠ "java/lang/invoke/MethodHandle" ∧ y_M_keyField.cls ≠ "java/lang/invoke/VarHandle" ∧ (parseMethodDescriptor y_M_keyField.desc).map (fun d => d.parameters.length) = some 3 := by decide +kernel
theorem d_M_keyField_0 : decode b_M_keyField 0 = .ok (.aload_n 0, 1) := by decide +kernel
theorem d_M_keyField_1 : decode b_M_keyField 1 = .ok (.getfield 553, 3) := by decide +kernel
theorem d_M_keyField_4 : decode b_M_keyField 4 = .ok (.istore 4, 2) := by decide +kernel
theorem d_M_keyField_6 : decode b_M_keyField 6 = .ok (.aload_n 0, 1) := by decide +kernel
theorem d_M_keyField_7 : decode b_M_keyField 7 = .ok (.iconst 1, 1) := by decide +kernel
theorem d_M_keyField_8 : decode b_M_keyField 8 = .ok (.aload_n 3, 1) := by decide +kernel
theorem d_M_keyField_9 : decode b_M_keyField 9 = .ok (.iconst 0, 1) := by decide +kernel
theorem d_M_keyField_10 : decode b_M_keyField 10 = .ok (.iload_n 2, 1) := by decide +kernel
theorem d_M_keyField_11 : decode b_M_keyField 11 = .ok (.invokestatic 438, 3) := by decide +kernel
theorem d_M_keyField_14 : decode b_M_keyField 14 = .ok (.invokevirtual 584, 3) := by decide +kernel
theorem d_M_keyField_17 : decode b_M_keyField 17 = .ok (.aload_n 0, 1) := by decide +kernel
theorem d_M_keyField_18 : decode b_M_keyField 18 = .ok (.iconst 0, 1) := by decide +kernel
theorem d_M_keyField_19 : decode b_M_keyField 19 = .ok (.iload_n 2, 1) := by decide +kernel
theorem d_M_keyField_20 : decode b_M_keyField 20 = .ok (.i2l, 1) := by decide +kernel
theorem d_M_keyField_21 : decode b_M_keyField 21 = .ok (.invokevirtual 588, 3) := by decide +kernel
theorem d_M_keyField_24 : decode b_M_keyField 24 = .ok (.aload_n 0, 1) := by decide +kernel
theorem d_M_keyField_25 : decode b_M_keyField 25 = .ok (.bipush 48, 2) := by decide +kernel
theorem d_M_keyField_27 : decode b_M_keyField 27 = .ok (.iload 4, 2) := by decide +kernel
theorem d_M_keyField_29 : decode b_M_keyField 29 = .ok (.invokevirtual 559, 3) := by decide +kernel
theorem d_M_keyField_32 : decode b_M_keyField 32 = .ok (.aload_n 0, 1) := by decide +kernel
theorem d_M_keyField_33 : decode b_M_keyField 33 = .ok (.iload_n 1, 1) := by decide +kernel
theorem d_M_keyField_34 : decode b_M_keyField 34 = .ok (.iload 4, 2) := by decide +kernel
theorem d_M_keyField_36 : decode b_M_keyField 36 = .ok (.invokevirtual 567, 3) := by decide +kernel
theorem d_M_keyField_39 : decode b_M_keyField 39 = .ok (.return_, 1) := by decide +kernel
abbrev b_M_sealedField : ByteArray := prog_14_method_76_code
def y_M_sealedField : MethodName := ⟨R_M, "sealedField", "(IIJ)V"⟩
abbrev k_M_sealedField : Cond := .code y_M_sealedField b_M_sealedField 6 none
theorem ki_M_sealedField : k_M_sealedField ∈ lw_tg := in_t 2633 (by decide +kernel)
theorem ks_M_sealedField : Cond.instanceMethod y_M_sealedField ∈ lw_tg := in_t 2632 (by decide +kernel)
theorem kx_M_sealedField : Cond.selects R_M y_M_sealedField y_M_sealedField ∈ lw_tg := List.mem_filter.mpr ⟨List.mem_append_left _ (List.mem_of_getElem? (i := 151) (by decide +kernel)), rfl⟩
theorem kl_M_sealedField : Cond.methodLink R_M 870 y_M_sealedField ∈ lw_tg := in_t 2630 (by decide +kernel)
theorem hd_M_sealedField : y_M_sealedField.cls = R_M ∧ y_M_sealedField.cls ≠ "java/lang/invoke/MethodHandle" ∧ y_M_sealedField.cls ≠ "java/lang/invoke/VarHandle" ∧ (parseMethodDescriptor y_M_sealedField.desc).map (fun d => d.parameters.length) = some 3 := by decide +kernel
theorem d_M_sealedField_0 : decode b_M_sealedField 0 = .ok (.aload_n 0, 1) := by decide +kernel
theorem d_M_sealedField_1 : decode b_M_sealedField 1 = .ok (.getfield 553, 3) := by decide +kernel
theorem d_M_sealedField_4 : decode b_M_sealedField 4 = .ok (.istore 5, 2) := by decide +kernel
theorem d_M_sealedField_6 : decode b_M_sealedField 6 = .ok (.aload_n 0, 1) := by decide +kernel
theorem d_M_sealedField_7 : decode b_M_sealedField 7 = .ok (.iload_n 2, 1) := by decide +kernel
theorem d_M_sealedField_8 : decode b_M_sealedField 8 = .ok (.lload_n 3, 1) := by decide +kernel
theorem d_M_sealedField_9 : decode b_M_sealedField 9 = .ok (.invokevirtual 592, 3) := by decide +kernel
theorem d_M_sealedField_12 : decode b_M_sealedField 12 = .ok (.aload_n 0, 1) := by decide +kernel
theorem d_M_sealedField_13 : decode b_M_sealedField 13 = .ok (.iload_n 1, 1) := by decide +kernel
theorem d_M_sealedField_14 : decode b_M_sealedField 14 = .ok (.iload 5, 2) := by decide +kernel
theorem d_M_sealedField_16 : decode b_M_sealedField 16 = .ok (.invokevirtual 567, 3) := by decide +kernel
theorem d_M_sealedField_19 : decode b_M_sealedField 19 = .ok (.return_, 1) := by decide +kernel
abbrev b_M_putSealed : ByteArray := prog_14_method_77_code
def y_M_putSealed : MethodName := ⟨R_M, "putSealed", "(IJ)V"⟩
abbrev k_M_putSealed : Cond := .code y_M_putSealed b_M_putSealed 5 none
theorem ki_M_putSealed : k_M_putSealed ∈ lw_tg := in_t 2637 (by decide +kernel)
theorem ks_M_putSealed : Cond.instanceMethod y_M_putSealed ∈ lw_tg := in_t 2636 (by decide +kernel)
theorem kx_M_putSealed : Cond.selects R_M y_M_putSealed y_M_putSealed ∈ lw_tg := List.mem_filter.mpr ⟨List.mem_append_left _ (List.mem_of_getElem? (i := 152) (by decide +kernel)), rfl⟩
theorem kl_M_putSealed : Cond.methodLink R_M 592 y_M_putSealed ∈ lw_tg := in_t 2634 (by decide +kernel)
theorem hd_M_putSealed : y_M_putSealed.cls = R_M ∧ y_M_putSealed.cls ≠ "java/lang/invoke/MethodHandle" ∧ y_M_putSealed.cls ≠ "java/lang/invoke/VarHandle" ∧ (parseMethodDescriptor y_M_putSealed.desc).map (fun d => d.parameters.length) = some 2 := by decide +kernel
theorem d_M_putSealed_0 : decode b_M_putSealed 0 = .ok (.aload_n 0, 1) := by decide +kernel
theorem d_M_putSealed_1 : decode b_M_putSealed 1 = .ok (.getfield 553, 3) := by decide +kernel
theorem d_M_putSealed_4 : decode b_M_putSealed 4 = .ok (.istore 4, 2) := by decide +kernel
theorem d_M_putSealed_6 : decode b_M_putSealed 6 = .ok (.aload_n 0, 1) := by decide +kernel
theorem d_M_putSealed_7 : decode b_M_putSealed 7 = .ok (.iconst 2, 1) := by decide +kernel
theorem d_M_putSealed_8 : decode b_M_putSealed 8 = .ok (.aload_n 0, 1) := by decide +kernel
theorem d_M_putSealed_9 : decode b_M_putSealed 9 = .ok (.getfield 92, 3) := by decide +kernel
theorem d_M_putSealed_12 : decode b_M_putSealed 12 = .ok (.iconst 0, 1) := by decide +kernel
theorem d_M_putSealed_13 : decode b_M_putSealed 13 = .ok (.aload_n 0, 1) := by decide +kernel
theorem d_M_putSealed_14 : decode b_M_putSealed 14 = .ok (.getfield 447, 3) := by decide +kernel
theorem d_M_putSealed_17 : decode b_M_putSealed 17 = .ok (.invokevirtual 584, 3) := by decide +kernel
theorem d_M_putSealed_20 : decode b_M_putSealed 20 = .ok (.lload_n 2, 1) := by decide +kernel
theorem d_M_putSealed_21 : decode b_M_putSealed 21 = .ok (.lconst 0, 1) := by decide +kernel
theorem d_M_putSealed_22 : decode b_M_putSealed 22 = .ok (.lcmp, 1) := by decide +kernel
theorem d_M_putSealed_23 : decode b_M_putSealed 23 = .ok (.ifCond .le 9, 3) := by decide +kernel
theorem d_M_putSealed_26 : decode b_M_putSealed 26 = .ok (.aload_n 0, 1) := by decide +kernel
theorem d_M_putSealed_27 : decode b_M_putSealed 27 = .ok (.iconst 1, 1) := by decide +kernel
theorem d_M_putSealed_28 : decode b_M_putSealed 28 = .ok (.lload_n 2, 1) := by decide +kernel
theorem d_M_putSealed_29 : decode b_M_putSealed 29 = .ok (.invokevirtual 588, 3) := by decide +kernel
theorem d_M_putSealed_32 : decode b_M_putSealed 32 = .ok (.aload_n 0, 1) := by decide +kernel
theorem d_M_putSealed_33 : decode b_M_putSealed 33 = .ok (.iconst 0, 1) := by decide +kernel
theorem d_M_putSealed_34 : decode b_M_putSealed 34 = .ok (.iload_n 1, 1) := by decide +kernel
theorem d_M_putSealed_35 : decode b_M_putSealed 35 = .ok (.i2l, 1) := by decide +kernel
theorem d_M_putSealed_36 : decode b_M_putSealed 36 = .ok (.invokevirtual 588, 3) := by decide +kernel
theorem d_M_putSealed_39 : decode b_M_putSealed 39 = .ok (.aload_n 0, 1) := by decide +kernel
theorem d_M_putSealed_40 : decode b_M_putSealed 40 = .ok (.bipush 48, 2) := by decide +kernel
theorem d_M_putSealed_42 : decode b_M_putSealed 42 = .ok (.iload 4, 2) := by decide +kernel
theorem d_M_putSealed_44 : decode b_M_putSealed 44 = .ok (.invokevirtual 559, 3) := by decide +kernel
theorem d_M_putSealed_47 : decode b_M_putSealed 47 = .ok (.return_, 1) := by decide +kernel
abbrev b_M_nameField : ByteArray := prog_14_method_78_code
def y_M_nameField : MethodName := ⟨R_M, "nameField", "(III)V"⟩
abbrev k_M_nameField : Cond := .code y_M_nameField b_M_nameField 6 none
theorem ki_M_nameField : k_M_nameField ∈ lw_tg := in_t 2709 (by decide +kernel)
theorem ks_M_nameField : Cond.instanceMethod y_M_nameField ∈ lw_tg := in_t 2708 (by decide +kernel)
theorem kx_M_nameField : Cond.selects R_M y_M_nameField y_M_nameField ∈ lw_tg := List.mem_filter.mpr ⟨List.mem_append_left _ (List.mem_of_getElem? (i := 168) (by decide +kernel)), rfl⟩
theorem kl_M_nameField : Cond.methodLink R_M 908 y_M_nameField ∈ lw_tg := in_t 2706 (by decide +kernel)
theorem hd_M_nameField : y_M_nameField.cls = R_M ∧ y_M_nameField.cls ≠ "java/lang/invoke/MethodHandle" ∧ y_M_nameField.cls ≠ "java/lang/invoke/VarHandle" ∧ (parseMethodDescriptor y_M_nameField.desc).map (fun d => d.parameters.length) = some 3 := by decide +kernel
theorem d_M_nameField_0 : decode b_M_nameField 0 = .ok (.aload_n 0, 1) := by decide +kernel
theorem d_M_nameField_1 : decode b_M_nameField 1 = .ok (.getfield 553, 3) := by decide +kernel
theorem d_M_nameField_4 : decode b_M_nameField 4 = .ok (.istore 4, 2) := by decide +kernel
theorem d_M_nameField_6 : decode b_M_nameField 6 = .ok (.aload_n 0, 1) := by decide +kernel
theorem d_M_nameField_7 : decode b_M_nameField 7 = .ok (.getfield 553, 3) := by decide +kernel
theorem d_M_nameField_10 : decode b_M_nameField 10 = .ok (.istore 5, 2) := by decide +kernel
theorem d_M_nameField_12 : decode b_M_nameField 12 = .ok (.aload_n 0, 1) := by decide +kernel
theorem d_M_nameField_13 : decode b_M_nameField 13 = .ok (.aload_n 0, 1) := by decide +kernel
theorem d_M_nameField_14 : decode b_M_nameField 14 = .ok (.getfield 101, 3) := by decide +kernel
theorem d_M_nameField_17 : decode b_M_nameField 17 = .ok (.bipush 40, 2) := by decide +kernel
theorem d_M_nameField_19 : decode b_M_nameField 19 = .ok (.iload_n 2, 1) := by decide +kernel
theorem d_M_nameField_20 : decode b_M_nameField 20 = .ok (.imul, 1) := by decide +kernel
theorem d_M_nameField_21 : decode b_M_nameField 21 = .ok (.aload_n 0, 1) := by decide +kernel
theorem d_M_nameField_22 : decode b_M_nameField 22 = .ok (.getfield 104, 3) := by decide +kernel
theorem d_M_nameField_25 : decode b_M_nameField 25 = .ok (.iload_n 2, 1) := by decide +kernel
theorem d_M_nameField_26 : decode b_M_nameField 26 = .ok (.iaload, 1) := by decide +kernel
theorem d_M_nameField_27 : decode b_M_nameField 27 = .ok (.invokevirtual 595, 3) := by decide +kernel
theorem d_M_nameField_30 : decode b_M_nameField 30 = .ok (.aload_n 0, 1) := by decide +kernel
theorem d_M_nameField_31 : decode b_M_nameField 31 = .ok (.bipush 48, 2) := by decide +kernel
theorem d_M_nameField_33 : decode b_M_nameField 33 = .ok (.iload 5, 2) := by decide +kernel
theorem d_M_nameField_35 : decode b_M_nameField 35 = .ok (.invokevirtual 559, 3) := by decide +kernel
theorem d_M_nameField_38 : decode b_M_nameField 38 = .ok (.aload_n 0, 1) := by decide +kernel
theorem d_M_nameField_39 : decode b_M_nameField 39 = .ok (.iconst 1, 1) := by decide +kernel
theorem d_M_nameField_40 : decode b_M_nameField 40 = .ok (.iload 5, 2) := by decide +kernel
theorem d_M_nameField_42 : decode b_M_nameField 42 = .ok (.invokevirtual 567, 3) := by decide +kernel
theorem d_M_nameField_45 : decode b_M_nameField 45 = .ok (.aload_n 0, 1) := by decide +kernel
theorem d_M_nameField_46 : decode b_M_nameField 46 = .ok (.iconst 0, 1) := by decide +kernel
theorem d_M_nameField_47 : decode b_M_nameField 47 = .ok (.iload_n 3, 1) := by decide +kernel
theorem d_M_nameField_48 : decode b_M_nameField 48 = .ok (.i2l, 1) := by decide +kernel
theorem d_M_nameField_49 : decode b_M_nameField 49 = .ok (.invokevirtual 588, 3) := by decide +kernel
theorem d_M_nameField_52 : decode b_M_nameField 52 = .ok (.aload_n 0, 1) := by decide +kernel
theorem d_M_nameField_53 : decode b_M_nameField 53 = .ok (.bipush 48, 2) := by decide +kernel
theorem d_M_nameField_55 : decode b_M_nameField 55 = .ok (.iload 4, 2) := by decide +kernel
theorem d_M_nameField_57 : decode b_M_nameField 57 = .ok (.invokevirtual 559, 3) := by decide +kernel
theorem d_M_nameField_60 : decode b_M_nameField 60 = .ok (.aload_n 0, 1) := by decide +kernel
theorem d_M_nameField_61 : decode b_M_nameField 61 = .ok (.iload_n 1, 1) := by decide +kernel
theorem d_M_nameField_62 : decode b_M_nameField 62 = .ok (.iload 4, 2) := by decide +kernel
theorem d_M_nameField_64 : decode b_M_nameField 64 = .ok (.invokevirtual 567, 3) := by decide +kernel
theorem d_M_nameField_67 : decode b_M_nameField 67 = .ok (.return_, 1) := by decide +kernel
abbrev b_M_putParts : ByteArray := prog_14_method_79_code
def y_M_putParts : MethodName := ⟨R_M, "putParts", "([BII)V"⟩
abbrev k_M_putParts : Cond := .code y_M_putParts b_M_putParts 7 none
theorem ki_M_putParts : k_M_putParts ∈ lw_tg := in_t 2713 (by decide +kernel)
theorem ks_M_putParts : Cond.instanceMethod y_M_putParts ∈ lw_tg := in_t 2712 (by decide +kernel)
theorem kx_M_putParts : Cond.selects R_M y_M_putParts y_M_putParts ∈ lw_tg := List.mem_filter.mpr ⟨List.mem_append_left _ (List.mem_of_getElem? (i := 169) (by decide +kernel)), rfl⟩
theorem kl_M_putParts : Cond.methodLink R_M 595 y_M_putParts ∈ lw_tg := in_t 2710 (by decide +kernel)
theorem hd_M_putParts : y_M_putParts.cls = R_M ∧ y_M_putParts.cls ≠ "java/lang/invoke/MethodHandle" ∧ y_M_putParts.cls ≠ "java/lang/invoke/VarHandle" ∧ (parseMethodDescriptor y_M_putParts.desc).map (fun d => d.parameters.length) = some 3 := by decide +kernel
theorem d_M_putParts_0 : decode b_M_putParts 0 = .ok (.iload_n 3, 1) := by decide +kernel
theorem d_M_putParts_1 : decode b_M_putParts 1 = .ok (.istore 4, 2) := by decide +kernel
theorem d_M_putParts_3 : decode b_M_putParts 3 = .ok (.iload_n 3, 1) := by decide +kernel
theorem d_M_putParts_4 : decode b_M_putParts 4 = .ok (.iconst 1, 1) := by decide +kernel
theorem d_M_putParts_5 : decode b_M_putParts 5 = .ok (.isub, 1) := by decide +kernel
theorem d_M_putParts_6 : decode b_M_putParts 6 = .ok (.istore 5, 2) := by decide +kernel
theorem d_M_putParts_8 : decode b_M_putParts 8 = .ok (.iload 5, 2) := by decide +kernel
theorem d_M_putParts_10 : decode b_M_putParts 10 = .ok (.iconst (-1), 1) := by decide +kernel
theorem d_M_putParts_11 : decode b_M_putParts 11 = .ok (.if_icmp .lt 64, 3) := by decide +kernel
theorem d_M_putParts_14 : decode b_M_putParts 14 = .ok (.iload 5, 2) := by decide +kernel
theorem d_M_putParts_16 : decode b_M_putParts 16 = .ok (.ifCond .lt 17, 3) := by decide +kernel
theorem d_M_putParts_19 : decode b_M_putParts 19 = .ok (.aload_n 1, 1) := by decide +kernel
theorem d_M_putParts_20 : decode b_M_putParts 20 = .ok (.iload_n 2, 1) := by decide +kernel
theorem d_M_putParts_21 : decode b_M_putParts 21 = .ok (.iload 5, 2) := by decide +kernel
theorem d_M_putParts_23 : decode b_M_putParts 23 = .ok (.iadd, 1) := by decide +kernel
theorem d_M_putParts_24 : decode b_M_putParts 24 = .ok (.baload, 1) := by decide +kernel
theorem d_M_putParts_25 : decode b_M_putParts 25 = .ok (.bipush 47, 2) := by decide +kernel
theorem d_M_putParts_27 : decode b_M_putParts 27 = .ok (.if_icmp .eq 6, 3) := by decide +kernel
theorem d_M_putParts_30 : decode b_M_putParts 30 = .ok (.goto 39, 3) := by decide +kernel
theorem d_M_putParts_33 : decode b_M_putParts 33 = .ok (.aload_n 0, 1) := by decide +kernel
theorem d_M_putParts_34 : decode b_M_putParts 34 = .ok (.getfield 553, 3) := by decide +kernel
theorem d_M_putParts_37 : decode b_M_putParts 37 = .ok (.istore 6, 2) := by decide +kernel
theorem d_M_putParts_39 : decode b_M_putParts 39 = .ok (.aload_n 0, 1) := by decide +kernel
theorem d_M_putParts_40 : decode b_M_putParts 40 = .ok (.aload_n 1, 1) := by decide +kernel
theorem d_M_putParts_41 : decode b_M_putParts 41 = .ok (.iload_n 2, 1) := by decide +kernel
theorem d_M_putParts_42 : decode b_M_putParts 42 = .ok (.iload 5, 2) := by decide +kernel
theorem d_M_putParts_44 : decode b_M_putParts 44 = .ok (.iadd, 1) := by decide +kernel
theorem d_M_putParts_45 : decode b_M_putParts 45 = .ok (.iconst 1, 1) := by decide +kernel
theorem d_M_putParts_46 : decode b_M_putParts 46 = .ok (.iadd, 1) := by decide +kernel
theorem d_M_putParts_47 : decode b_M_putParts 47 = .ok (.iload 4, 2) := by decide +kernel
theorem d_M_putParts_49 : decode b_M_putParts 49 = .ok (.iload 5, 2) := by decide +kernel
theorem d_M_putParts_51 : decode b_M_putParts 51 = .ok (.isub, 1) := by decide +kernel
theorem d_M_putParts_52 : decode b_M_putParts 52 = .ok (.iconst 1, 1) := by decide +kernel
theorem d_M_putParts_53 : decode b_M_putParts 53 = .ok (.isub, 1) := by decide +kernel
theorem d_M_putParts_54 : decode b_M_putParts 54 = .ok (.invokevirtual 574, 3) := by decide +kernel
theorem d_M_putParts_57 : decode b_M_putParts 57 = .ok (.aload_n 0, 1) := by decide +kernel
theorem d_M_putParts_58 : decode b_M_putParts 58 = .ok (.bipush 27, 2) := by decide +kernel
theorem d_M_putParts_60 : decode b_M_putParts 60 = .ok (.iload 6, 2) := by decide +kernel
theorem d_M_putParts_62 : decode b_M_putParts 62 = .ok (.invokevirtual 559, 3) := by decide +kernel
theorem d_M_putParts_65 : decode b_M_putParts 65 = .ok (.iload 5, 2) := by decide +kernel
theorem d_M_putParts_67 : decode b_M_putParts 67 = .ok (.istore 4, 2) := by decide +kernel
theorem d_M_putParts_69 : decode b_M_putParts 69 = .ok (.iinc 5 (-1), 3) := by decide +kernel
theorem d_M_putParts_72 : decode b_M_putParts 72 = .ok (.goto (-64), 3) := by decide +kernel
theorem d_M_putParts_75 : decode b_M_putParts 75 = .ok (.return_, 1) := by decide +kernel
abbrev b_M_toOut : ByteArray := prog_14_method_80_code
def y_M_toOut : MethodName := ⟨R_M, "toOut", "(II)V"⟩
abbrev k_M_toOut : Cond := .code y_M_toOut b_M_toOut 4 none
theorem ki_M_toOut : k_M_toOut ∈ lw_tg := in_t 2660 (by decide +kernel)
theorem ks_M_toOut : Cond.instanceMethod y_M_toOut ∈ lw_tg := in_t 2659 (by decide +kernel)
theorem kx_M_toOut : Cond.selects R_M y_M_toOut y_M_toOut ∈ lw_tg := List.mem_filter.mpr ⟨List.mem_append_left _ (List.mem_of_getElem? (i := 157) (by decide +kernel)), rfl⟩
theorem kl_M_toOut : Cond.methodLink R_M 598 y_M_toOut ∈ lw_tg := in_t 2657 (by decide +kernel)
theorem hd_M_toOut : y_M_toOut.cls = R_M ∧ y_M_toOut.cls ≠ "java/lang/invoke/MethodHandle" ∧ y_M_toOut.cls ≠ "java/lang/invoke/VarHandle" ∧ (parseMethodDescriptor y_M_toOut.desc).map (fun d => d.parameters.length) = some 2 := by decide +kernel
theorem d_M_toOut_0 : decode b_M_toOut 0 = .ok (.aload_n 0, 1) := by decide +kernel
theorem d_M_toOut_1 : decode b_M_toOut 1 = .ok (.iload_n 2, 1) := by decide +kernel
theorem d_M_toOut_2 : decode b_M_toOut 2 = .ok (.iload_n 1, 1) := by decide +kernel
theorem d_M_toOut_3 : decode b_M_toOut 3 = .ok (.isub, 1) := by decide +kernel
theorem d_M_toOut_4 : decode b_M_toOut 4 = .ok (.putfield 348, 3) := by decide +kernel
theorem d_M_toOut_7 : decode b_M_toOut 7 = .ok (.iconst 0, 1) := by decide +kernel
theorem d_M_toOut_8 : decode b_M_toOut 8 = .ok (.istore_n 3, 1) := by decide +kernel
theorem d_M_toOut_9 : decode b_M_toOut 9 = .ok (.iload_n 3, 1) := by decide +kernel
theorem d_M_toOut_10 : decode b_M_toOut 10 = .ok (.aload_n 0, 1) := by decide +kernel
theorem d_M_toOut_11 : decode b_M_toOut 11 = .ok (.getfield 348, 3) := by decide +kernel
theorem d_M_toOut_14 : decode b_M_toOut 14 = .ok (.if_icmp .ge 23, 3) := by decide +kernel
theorem d_M_toOut_17 : decode b_M_toOut 17 = .ok (.aload_n 0, 1) := by decide +kernel
theorem d_M_toOut_18 : decode b_M_toOut 18 = .ok (.getfield 14, 3) := by decide +kernel
theorem d_M_toOut_21 : decode b_M_toOut 21 = .ok (.iload_n 3, 1) := by decide +kernel
theorem d_M_toOut_22 : decode b_M_toOut 22 = .ok (.aload_n 0, 1) := by decide +kernel
theorem d_M_toOut_23 : decode b_M_toOut 23 = .ok (.getfield 10, 3) := by decide +kernel
theorem d_M_toOut_26 : decode b_M_toOut 26 = .ok (.iload_n 1, 1) := by decide +kernel
theorem d_M_toOut_27 : decode b_M_toOut 27 = .ok (.iload_n 3, 1) := by decide +kernel
theorem d_M_toOut_28 : decode b_M_toOut 28 = .ok (.iadd, 1) := by decide +kernel
theorem d_M_toOut_29 : decode b_M_toOut 29 = .ok (.baload, 1) := by decide +kernel
theorem d_M_toOut_30 : decode b_M_toOut 30 = .ok (.bastore, 1) := by decide +kernel
theorem d_M_toOut_31 : decode b_M_toOut 31 = .ok (.iinc 3 1, 3) := by decide +kernel
theorem d_M_toOut_34 : decode b_M_toOut 34 = .ok (.goto (-25), 3) := by decide +kernel
theorem d_M_toOut_37 : decode b_M_toOut 37 = .ok (.return_, 1) := by decide +kernel
abbrev b_M_written : ByteArray := prog_14_method_81_code
def y_M_written : MethodName := ⟨R_M, "written", "()V"⟩
abbrev k_M_written : Cond := .code y_M_written b_M_written 1 none
theorem ki_M_written : k_M_written ∈ lw_tg := in_t 2656 (by decide +kernel)
theorem ks_M_written : Cond.instanceMethod y_M_written ∈ lw_tg := in_t 2655 (by decide +kernel)
theorem kx_M_written : Cond.selects R_M y_M_written y_M_written ∈ lw_tg := List.mem_filter.mpr ⟨List.mem_append_left _ (List.mem_of_getElem? (i := 156) (by decide +kernel)), rfl⟩
theorem kl_M_written : Cond.methodLink R_M 905 y_M_written ∈ lw_tg := in_t 2653 (by decide +kernel)
theorem hd_M_written : y_M_written.cls = R_M ∧ y_M_written.cls ≠ "java/lang/invoke/MethodHandle" ∧ y_M_written.cls ≠ "java/lang/invoke/VarHandle" ∧ (parseMethodDescriptor y_M_written.desc).map (fun d => d.parameters.length) = some 0 := by decide +kernel
theorem d_M_written_0 : decode b_M_written 0 = .ok (.aload_n 0, 1) := by decide +kernel
theorem d_M_written_1 : decode b_M_written 1 = .ok (.aload_n 0, 1) := by decide +kernel
theorem d_M_written_2 : decode b_M_written 2 = .ok (.getfield 553, 3) := by decide +kernel
theorem d_M_written_5 : decode b_M_written 5 = .ok (.ldc 9, 2) := by decide +kernel
theorem d_M_written_7 : decode b_M_written 7 = .ok (.invokevirtual 598, 3) := by decide +kernel
theorem d_M_written_10 : decode b_M_written 10 = .ok (.return_, 1) := by decide +kernel
abbrev b_M_nameRead : ByteArray := prog_14_method_82_code
def y_M_nameRead : MethodName := ⟨R_M, "nameRead", "(Z)Z"⟩
abbrev k_M_nameRead : Cond := .code y_M_nameRead b_M_nameRead 9 (some .boolean)
theorem ki_M_nameRead : k_M_nameRead ∈ lw_tg := in_t 1772 (by decide +kernel)
theorem ks_M_nameRead : Cond.instanceMethod y_M_nameRead ∈ lw_tg := in_t 1771 (by decide +kernel)
theorem kx_M_nameRead : Cond.selects R_M y_M_nameRead y_M_nameRead ∈ lw_tg := List.mem_filter.mpr ⟨List.mem_append_left _ (List.mem_of_getElem? (i := 73) (by decide +kernel)), rfl⟩
theorem kl_M_nameRead : Cond.methodLink R_M 613 y_M_nameRead ∈ lw_tg := in_t 1769 (by decide +kernel)
theorem hd_M_nameRead : y_M_nameRead.cls = R_M ∧ y_M_nameRead.cls ≠ "java/lang/invoke/MethodHandle" ∧ y_M_nameRead.cls ≠ "java/lang/invoke/VarHandle" ∧ (parseMethodDescriptor y_M_nameRead.desc).map (fun d => d.parameters.length) = some 1 := by decide +kernel
theorem d_M_nameRead_0 : decode b_M_nameRead 0 = .ok (.iconst 0, 1) := by decide +kernel
theorem d_M_nameRead_1 : decode b_M_nameRead 1 = .ok (.istore_n 2, 1) := by decide +kernel
theorem d_M_nameRead_2 : decode b_M_nameRead 2 = .ok (.iconst 1, 1) := by decide +kernel
theorem d_M_nameRead_3 : decode b_M_nameRead 3 = .ok (.istore_n 3, 1) := by decide +kernel
theorem d_M_nameRead_4 : decode b_M_nameRead 4 = .ok (.iconst 0, 1) := by decide +kernel
theorem d_M_nameRead_5 : decode b_M_nameRead 5 = .ok (.istore 4, 2) := by decide +kernel
theorem d_M_nameRead_7 : decode b_M_nameRead 7 = .ok (.iconst 1, 1) := by decide +kernel
theorem d_M_nameRead_8 : decode b_M_nameRead 8 = .ok (.istore 5, 2) := by decide +kernel
theorem d_M_nameRead_10 : decode b_M_nameRead 10 = .ok (.iload_n 2, 1) := by decide +kernel
theorem d_M_nameRead_11 : decode b_M_nameRead 11 = .ok (.aload_n 0, 1) := by decide +kernel
theorem d_M_nameRead_12 : decode b_M_nameRead 12 = .ok (.getfield 332, 3) := by decide +kernel
theorem d_M_nameRead_15 : decode b_M_nameRead 15 = .ok (.if_icmp .ge 167, 3) := by decide +kernel
theorem d_M_nameRead_18 : decode b_M_nameRead 18 = .ok (.aload_n 0, 1) := by decide +kernel
theorem d_M_nameRead_19 : decode b_M_nameRead 19 = .ok (.getfield 10, 3) := by decide +kernel
theorem d_M_nameRead_22 : decode b_M_nameRead 22 = .ok (.iload_n 2, 1) := by decide +kernel
theorem d_M_nameRead_23 : decode b_M_nameRead 23 = .ok (.baload, 1) := by decide +kernel
theorem d_M_nameRead_24 : decode b_M_nameRead 24 = .ok (.bipush 58, 2) := by decide +kernel
theorem d_M_nameRead_26 : decode b_M_nameRead 26 = .ok (.if_icmp .eq 156, 3) := by decide +kernel
theorem d_M_nameRead_29 : decode b_M_nameRead 29 = .ok (.iload 5, 2) := by decide +kernel
theorem d_M_nameRead_31 : decode b_M_nameRead 31 = .ok (.ifCond .eq 151, 3) := by decide +kernel
theorem d_M_nameRead_34 : decode b_M_nameRead 34 = .ok (.aload_n 0, 1) := by decide +kernel
theorem d_M_nameRead_35 : decode b_M_nameRead 35 = .ok (.getfield 10, 3) := by decide +kernel
theorem d_M_nameRead_38 : decode b_M_nameRead 38 = .ok (.iload_n 2, 1) := by decide +kernel
theorem d_M_nameRead_39 : decode b_M_nameRead 39 = .ok (.baload, 1) := by decide +kernel
theorem d_M_nameRead_40 : decode b_M_nameRead 40 = .ok (.istore 6, 2) := by decide +kernel
theorem d_M_nameRead_42 : decode b_M_nameRead 42 = .ok (.iload 6, 2) := by decide +kernel
theorem d_M_nameRead_44 : decode b_M_nameRead 44 = .ok (.bipush 97, 2) := by decide +kernel
theorem d_M_nameRead_46 : decode b_M_nameRead 46 = .ok (.if_icmp .lt 14, 3) := by decide +kernel
theorem d_M_nameRead_49 : decode b_M_nameRead 49 = .ok (.iload 6, 2) := by decide +kernel
theorem d_M_nameRead_51 : decode b_M_nameRead 51 = .ok (.bipush 122, 2) := by decide +kernel
theorem d_M_nameRead_53 : decode b_M_nameRead 53 = .ok (.if_icmp .gt 7, 3) := by decide +kernel
theorem d_M_nameRead_56 : decode b_M_nameRead 56 = .ok (.iconst 1, 1) := by decide +kernel
theorem d_M_nameRead_57 : decode b_M_nameRead 57 = .ok (.goto 4, 3) := by decide +kernel
theorem d_M_nameRead_60 : decode b_M_nameRead 60 = .ok (.iconst 0, 1) := by decide +kernel
theorem d_M_nameRead_61 : decode b_M_nameRead 61 = .ok (.istore 7, 2) := by decide +kernel
theorem d_M_nameRead_63 : decode b_M_nameRead 63 = .ok (.iload 6, 2) := by decide +kernel
theorem d_M_nameRead_65 : decode b_M_nameRead 65 = .ok (.bipush 47, 2) := by decide +kernel
theorem d_M_nameRead_67 : decode b_M_nameRead 67 = .ok (.if_icmp .ne 29, 3) := by decide +kernel
theorem d_M_nameRead_70 : decode b_M_nameRead 70 = .ok (.iload 4, 2) := by decide +kernel
theorem d_M_nameRead_72 : decode b_M_nameRead 72 = .ok (.ifCond .le 12, 3) := by decide +kernel
theorem d_M_nameRead_75 : decode b_M_nameRead 75 = .ok (.iload_n 3, 1) := by decide +kernel
theorem d_M_nameRead_76 : decode b_M_nameRead 76 = .ok (.iconst 1, 1) := by decide +kernel
theorem d_M_nameRead_77 : decode b_M_nameRead 77 = .ok (.if_icmp .ne 7, 3) := by decide +kernel
theorem d_M_nameRead_80 : decode b_M_nameRead 80 = .ok (.iconst 1, 1) := by decide +kernel
theorem d_M_nameRead_81 : decode b_M_nameRead 81 = .ok (.goto 4, 3) := by decide +kernel
theorem d_M_nameRead_84 : decode b_M_nameRead 84 = .ok (.iconst 0, 1) := by decide +kernel
theorem d_M_nameRead_85 : decode b_M_nameRead 85 = .ok (.istore 5, 2) := by decide +kernel
theorem d_M_nameRead_87 : decode b_M_nameRead 87 = .ok (.iinc 3 1, 3) := by decide +kernel
theorem d_M_nameRead_90 : decode b_M_nameRead 90 = .ok (.iconst 0, 1) := by decide +kernel
theorem d_M_nameRead_91 : decode b_M_nameRead 91 = .ok (.istore 4, 2) := by decide +kernel
theorem d_M_nameRead_93 : decode b_M_nameRead 93 = .ok (.goto 83, 3) := by decide +kernel
theorem d_M_nameRead_96 : decode b_M_nameRead 96 = .ok (.iload 7, 2) := by decide +kernel
theorem d_M_nameRead_98 : decode b_M_nameRead 98 = .ok (.ifCond .ne 49, 3) := by decide +kernel
theorem d_M_nameRead_101 : decode b_M_nameRead 101 = .ok (.iload_n 2, 1) := by decide +kernel
theorem d_M_nameRead_102 : decode b_M_nameRead 102 = .ok (.ifCond .le 22, 3) := by decide +kernel
theorem d_M_nameRead_105 : decode b_M_nameRead 105 = .ok (.iload 4, 2) := by decide +kernel
theorem d_M_nameRead_107 : decode b_M_nameRead 107 = .ok (.ifCond .le 17, 3) := by decide +kernel
theorem d_M_nameRead_110 : decode b_M_nameRead 110 = .ok (.iload 6, 2) := by decide +kernel
theorem d_M_nameRead_112 : decode b_M_nameRead 112 = .ok (.bipush 48, 2) := by decide +kernel
theorem d_M_nameRead_114 : decode b_M_nameRead 114 = .ok (.if_icmp .lt 10, 3) := by decide +kernel
theorem d_M_nameRead_117 : decode b_M_nameRead 117 = .ok (.iload 6, 2) := by decide +kernel
theorem d_M_nameRead_119 : decode b_M_nameRead 119 = .ok (.bipush 57, 2) := by decide +kernel
theorem d_M_nameRead_121 : decode b_M_nameRead 121 = .ok (.if_icmp .le 26, 3) := by decide +kernel
theorem d_M_nameRead_124 : decode b_M_nameRead 124 = .ok (.iload 4, 2) := by decide +kernel
theorem d_M_nameRead_126 : decode b_M_nameRead 126 = .ok (.ifCond .ne 25, 3) := by decide +kernel
theorem d_M_nameRead_129 : decode b_M_nameRead 129 = .ok (.iload_n 2, 1) := by decide +kernel
theorem d_M_nameRead_130 : decode b_M_nameRead 130 = .ok (.ifCond .le 21, 3) := by decide +kernel
theorem d_M_nameRead_133 : decode b_M_nameRead 133 = .ok (.iload 6, 2) := by decide +kernel
theorem d_M_nameRead_135 : decode b_M_nameRead 135 = .ok (.bipush 48, 2) := by decide +kernel
theorem d_M_nameRead_137 : decode b_M_nameRead 137 = .ok (.if_icmp .lt 14, 3) := by decide +kernel
theorem d_M_nameRead_140 : decode b_M_nameRead 140 = .ok (.iload 6, 2) := by decide +kernel
theorem d_M_nameRead_142 : decode b_M_nameRead 142 = .ok (.bipush 57, 2) := by decide +kernel
theorem d_M_nameRead_144 : decode b_M_nameRead 144 = .ok (.if_icmp .gt 7, 3) := by decide +kernel
theorem d_M_nameRead_147 : decode b_M_nameRead 147 = .ok (.iconst 1, 1) := by decide +kernel
theorem d_M_nameRead_148 : decode b_M_nameRead 148 = .ok (.goto 4, 3) := by decide +kernel
theorem d_M_nameRead_151 : decode b_M_nameRead 151 = .ok (.iconst 0, 1) := by decide +kernel
theorem d_M_nameRead_152 : decode b_M_nameRead 152 = .ok (.istore 5, 2) := by decide +kernel
theorem d_M_nameRead_154 : decode b_M_nameRead 154 = .ok (.iinc 4 1, 3) := by decide +kernel
theorem d_M_nameRead_157 : decode b_M_nameRead 157 = .ok (.iload 5, 2) := by decide +kernel
theorem d_M_nameRead_159 : decode b_M_nameRead 159 = .ok (.ifCond .eq 14, 3) := by decide +kernel
theorem d_M_nameRead_162 : decode b_M_nameRead 162 = .ok (.iload 4, 2) := by decide +kernel
theorem d_M_nameRead_164 : decode b_M_nameRead 164 = .ok (.bipush 16, 2) := by decide +kernel
theorem d_M_nameRead_166 : decode b_M_nameRead 166 = .ok (.if_icmp .gt 7, 3) := by decide +kernel
theorem d_M_nameRead_169 : decode b_M_nameRead 169 = .ok (.iconst 1, 1) := by decide +kernel
theorem d_M_nameRead_170 : decode b_M_nameRead 170 = .ok (.goto 4, 3) := by decide +kernel
theorem d_M_nameRead_173 : decode b_M_nameRead 173 = .ok (.iconst 0, 1) := by decide +kernel
theorem d_M_nameRead_174 : decode b_M_nameRead 174 = .ok (.istore 5, 2) := by decide +kernel
theorem d_M_nameRead_176 : decode b_M_nameRead 176 = .ok (.iinc 2 1, 3) := by decide +kernel
theorem d_M_nameRead_179 : decode b_M_nameRead 179 = .ok (.goto (-169), 3) := by decide +kernel
theorem d_M_nameRead_182 : decode b_M_nameRead 182 = .ok (.iload_n 1, 1) := by decide +kernel
theorem d_M_nameRead_183 : decode b_M_nameRead 183 = .ok (.ifCond .eq 15, 3) := by decide +kernel
theorem d_M_nameRead_186 : decode b_M_nameRead 186 = .ok (.aload_n 0, 1) := by decide +kernel
theorem d_M_nameRead_187 : decode b_M_nameRead 187 = .ok (.iload_n 2, 1) := by decide +kernel
theorem d_M_nameRead_188 : decode b_M_nameRead 188 = .ok (.invokevirtual 601, 3) := by decide +kernel
theorem d_M_nameRead_191 : decode b_M_nameRead 191 = .ok (.ifCond .eq 7, 3) := by decide +kernel
theorem d_M_nameRead_194 : decode b_M_nameRead 194 = .ok (.iconst 1, 1) := by decide +kernel
theorem d_M_nameRead_195 : decode b_M_nameRead 195 = .ok (.goto 4, 3) := by decide +kernel
theorem d_M_nameRead_198 : decode b_M_nameRead 198 = .ok (.iconst 0, 1) := by decide +kernel
theorem d_M_nameRead_199 : decode b_M_nameRead 199 = .ok (.istore 6, 2) := by decide +kernel
theorem d_M_nameRead_201 : decode b_M_nameRead 201 = .ok (.iload 6, 2) := by decide +kernel
theorem d_M_nameRead_203 : decode b_M_nameRead 203 = .ok (.ifCond .ne 15, 3) := by decide +kernel
theorem d_M_nameRead_206 : decode b_M_nameRead 206 = .ok (.iload 5, 2) := by decide +kernel
theorem d_M_nameRead_208 : decode b_M_nameRead 208 = .ok (.ifCond .eq 8, 3) := by decide +kernel
theorem d_M_nameRead_211 : decode b_M_nameRead 211 = .ok (.iload 4, 2) := by decide +kernel
theorem d_M_nameRead_213 : decode b_M_nameRead 213 = .ok (.ifCond .ne 5, 3) := by decide +kernel
theorem d_M_nameRead_216 : decode b_M_nameRead 216 = .ok (.iconst 0, 1) := by decide +kernel
theorem d_M_nameRead_217 : decode b_M_nameRead 217 = .ok (.ireturn, 1) := by decide +kernel
theorem d_M_nameRead_218 : decode b_M_nameRead 218 = .ok (.iload_n 2, 1) := by decide +kernel
theorem d_M_nameRead_219 : decode b_M_nameRead 219 = .ok (.istore 7, 2) := by decide +kernel
theorem d_M_nameRead_221 : decode b_M_nameRead 221 = .ok (.iload 6, 2) := by decide +kernel
theorem d_M_nameRead_223 : decode b_M_nameRead 223 = .ok (.ifCond .eq 7, 3) := by decide +kernel
theorem d_M_nameRead_226 : decode b_M_nameRead 226 = .ok (.bipush 12, 2) := by decide +kernel
theorem d_M_nameRead_228 : decode b_M_nameRead 228 = .ok (.istore 7, 2) := by decide +kernel
theorem d_M_nameRead_230 : decode b_M_nameRead 230 = .ok (.aload_n 0, 1) := by decide +kernel
theorem d_M_nameRead_231 : decode b_M_nameRead 231 = .ok (.iload 7, 2) := by decide +kernel
theorem d_M_nameRead_233 : decode b_M_nameRead 233 = .ok (.putfield 605, 3) := by decide +kernel
theorem d_M_nameRead_236 : decode b_M_nameRead 236 = .ok (.aload_n 0, 1) := by decide +kernel
theorem d_M_nameRead_237 : decode b_M_nameRead 237 = .ok (.iload 7, 2) := by decide +kernel
theorem d_M_nameRead_239 : decode b_M_nameRead 239 = .ok (.putfield 608, 3) := by decide +kernel
theorem d_M_nameRead_242 : decode b_M_nameRead 242 = .ok (.iconst 0, 1) := by decide +kernel
theorem d_M_nameRead_243 : decode b_M_nameRead 243 = .ok (.istore 8, 2) := by decide +kernel
theorem d_M_nameRead_245 : decode b_M_nameRead 245 = .ok (.iload 8, 2) := by decide +kernel
theorem d_M_nameRead_247 : decode b_M_nameRead 247 = .ok (.iload 7, 2) := by decide +kernel
theorem d_M_nameRead_249 : decode b_M_nameRead 249 = .ok (.if_icmp .ge 23, 3) := by decide +kernel
theorem d_M_nameRead_252 : decode b_M_nameRead 252 = .ok (.aload_n 0, 1) := by decide +kernel
theorem d_M_nameRead_253 : decode b_M_nameRead 253 = .ok (.getfield 128, 3) := by decide +kernel
theorem d_M_nameRead_256 : decode b_M_nameRead 256 = .ok (.iload 8, 2) := by decide +kernel
theorem d_M_nameRead_258 : decode b_M_nameRead 258 = .ok (.aload_n 0, 1) := by decide +kernel
theorem d_M_nameRead_259 : decode b_M_nameRead 259 = .ok (.getfield 10, 3) := by decide +kernel
theorem d_M_nameRead_262 : decode b_M_nameRead 262 = .ok (.iload 8, 2) := by decide +kernel
theorem d_M_nameRead_264 : decode b_M_nameRead 264 = .ok (.baload, 1) := by decide +kernel
theorem d_M_nameRead_265 : decode b_M_nameRead 265 = .ok (.bastore, 1) := by decide +kernel
theorem d_M_nameRead_266 : decode b_M_nameRead 266 = .ok (.iinc 8 1, 3) := by decide +kernel
theorem d_M_nameRead_269 : decode b_M_nameRead 269 = .ok (.goto (-24), 3) := by decide +kernel
theorem d_M_nameRead_272 : decode b_M_nameRead 272 = .ok (.iconst 1, 1) := by decide +kernel
theorem d_M_nameRead_273 : decode b_M_nameRead 273 = .ok (.ireturn, 1) := by decide +kernel
abbrev b_M_isHouse : ByteArray := prog_14_method_83_code
def y_M_isHouse : MethodName := ⟨R_M, "isHouse", "(I)Z"⟩
abbrev k_M_isHouse : Cond := .code y_M_isHouse b_M_isHouse 4 (some .boolean)
theorem ki_M_isHouse : k_M_isHouse ∈ lw_tg := in_t 1776 (by decide +kernel)
theorem ks_M_isHouse : Cond.instanceMethod y_M_isHouse ∈ lw_tg := in_t 1775 (by decide +kernel)
theorem kx_M_isHouse : Cond.selects R_M y_M_isHouse y_M_isHouse ∈ lw_tg := List.mem_filter.mpr ⟨List.mem_append_left _ (List.mem_of_getElem? (i := 74) (by decide +kernel)), rfl⟩
theorem kl_M_isHouse : Cond.methodLink R_M 601 y_M_isHouse ∈ lw_tg := in_t 1773 (by decide +kernel)
theorem hd_M_isHouse : y_M_isHouse.cls = R_M ∧ y_M_isHouse.cls ≠ "java/lang/invoke/MethodHandle" ∧ y_M_isHouse.cls ≠ "java/lang/invoke/VarHandle" ∧ (parseMethodDescriptor y_M_isHouse.desc).map (fun d => d.parameters.length) = some 1 := by decide +kernel
theorem d_M_isHouse_0 : decode b_M_isHouse 0 = .ok (.ldc_w 611, 3) := by decide +kernel
theorem d_M_isHouse_3 : decode b_M_isHouse 3 = .ok (.astore_n 2, 1) := by decide +kernel
theorem d_M_isHouse_4 : decode b_M_isHouse 4 = .ok (.aload_n 0, 1) := by decide +kernel
theorem d_M_isHouse_5 : decode b_M_isHouse 5 = .ok (.getfield 332, 3) := by decide +kernel
theorem d_M_isHouse_8 : decode b_M_isHouse 8 = .ok (.bipush 12, 2) := by decide +kernel
theorem d_M_isHouse_10 : decode b_M_isHouse 10 = .ok (.if_icmp .ge 5, 3) := by decide +kernel
theorem d_M_isHouse_13 : decode b_M_isHouse 13 = .ok (.iconst 0, 1) := by decide +kernel
theorem d_M_isHouse_14 : decode b_M_isHouse 14 = .ok (.ireturn, 1) := by decide +kernel
theorem d_M_isHouse_15 : decode b_M_isHouse 15 = .ok (.iconst 0, 1) := by decide +kernel
theorem d_M_isHouse_16 : decode b_M_isHouse 16 = .ok (.istore_n 3, 1) := by decide +kernel
theorem d_M_isHouse_17 : decode b_M_isHouse 17 = .ok (.iload_n 3, 1) := by decide +kernel
theorem d_M_isHouse_18 : decode b_M_isHouse 18 = .ok (.bipush 12, 2) := by decide +kernel
theorem d_M_isHouse_20 : decode b_M_isHouse 20 = .ok (.if_icmp .ge 25, 3) := by decide +kernel
theorem d_M_isHouse_23 : decode b_M_isHouse 23 = .ok (.aload_n 0, 1) := by decide +kernel
theorem d_M_isHouse_24 : decode b_M_isHouse 24 = .ok (.getfield 10, 3) := by decide +kernel
theorem d_M_isHouse_27 : decode b_M_isHouse 27 = .ok (.iload_n 3, 1) := by decide +kernel
theorem d_M_isHouse_28 : decode b_M_isHouse 28 = .ok (.baload, 1) := by decide +kernel
theorem d_M_isHouse_29 : decode b_M_isHouse 29 = .ok (.aload_n 2, 1) := by decide +kernel
theorem d_M_isHouse_30 : decode b_M_isHouse 30 = .ok (.iload_n 3, 1) := by decide +kernel
theorem d_M_isHouse_31 : decode b_M_isHouse 31 = .ok (.invokevirtual 344, 3) := by decide +kernel
theorem d_M_isHouse_34 : decode b_M_isHouse 34 = .ok (.if_icmp .eq 5, 3) := by decide +kernel
theorem d_M_isHouse_37 : decode b_M_isHouse 37 = .ok (.iconst 0, 1) := by decide +kernel
theorem d_M_isHouse_38 : decode b_M_isHouse 38 = .ok (.ireturn, 1) := by decide +kernel
theorem d_M_isHouse_39 : decode b_M_isHouse 39 = .ok (.iinc 3 1, 3) := by decide +kernel
theorem d_M_isHouse_42 : decode b_M_isHouse 42 = .ok (.goto (-25), 3) := by decide +kernel
theorem d_M_isHouse_45 : decode b_M_isHouse 45 = .ok (.aload_n 0, 1) := by decide +kernel
theorem d_M_isHouse_46 : decode b_M_isHouse 46 = .ok (.getfield 332, 3) := by decide +kernel
theorem d_M_isHouse_49 : decode b_M_isHouse 49 = .ok (.bipush 12, 2) := by decide +kernel
theorem d_M_isHouse_51 : decode b_M_isHouse 51 = .ok (.if_icmp .eq 15, 3) := by decide +kernel
theorem d_M_isHouse_54 : decode b_M_isHouse 54 = .ok (.aload_n 0, 1) := by decide +kernel
theorem d_M_isHouse_55 : decode b_M_isHouse 55 = .ok (.getfield 10, 3) := by decide +kernel
theorem d_M_isHouse_58 : decode b_M_isHouse 58 = .ok (.bipush 12, 2) := by decide +kernel
theorem d_M_isHouse_60 : decode b_M_isHouse 60 = .ok (.baload, 1) := by decide +kernel
theorem d_M_isHouse_61 : decode b_M_isHouse 61 = .ok (.bipush 58, 2) := by decide +kernel
theorem d_M_isHouse_63 : decode b_M_isHouse 63 = .ok (.if_icmp .ne 7, 3) := by decide +kernel
theorem d_M_isHouse_66 : decode b_M_isHouse 66 = .ok (.iconst 1, 1) := by decide +kernel
theorem d_M_isHouse_67 : decode b_M_isHouse 67 = .ok (.goto 4, 3) := by decide +kernel
theorem d_M_isHouse_70 : decode b_M_isHouse 70 = .ok (.iconst 0, 1) := by decide +kernel
theorem d_M_isHouse_71 : decode b_M_isHouse 71 = .ok (.ireturn, 1) := by decide +kernel
abbrev b_M_bothRead : ByteArray := prog_14_method_84_code
def y_M_bothRead : MethodName := ⟨R_M, "bothRead", "(Z)Z"⟩
abbrev k_M_bothRead : Cond := .code y_M_bothRead b_M_bothRead 2 (some .boolean)
theorem ki_M_bothRead : k_M_bothRead ∈ lw_tg := in_t 1768 (by decide +kernel)
theorem ks_M_bothRead : Cond.instanceMethod y_M_bothRead ∈ lw_tg := in_t 1767 (by decide +kernel)
theorem kx_M_bothRead : Cond.selects R_M y_M_bothRead y_M_bothRead ∈ lw_tg := List.mem_filter.mpr ⟨List.mem_append_left _ (List.mem_of_getElem? (i := 72) (by decide +kernel)), rfl⟩
theorem kl_M_bothRead : Cond.methodLink R_M 633 y_M_bothRead ∈ lw_tg := in_t 1765 (by decide +kernel)
theorem hd_M_bothRead : y_M_bothRead.cls = R_M ∧ y_M_bothRead.cls ≠ "java/lang/invoke/MethodHandle" ∧ y_M_bothRead.cls ≠ "java/lang/invoke/VarHandle" ∧ (parseMethodDescriptor y_M_bothRead.desc).map (fun d => d.parameters.length) = some 1 := by decide +kernel
theorem d_M_bothRead_0 : decode b_M_bothRead 0 = .ok (.aload_n 0, 1) := by decide +kernel
theorem d_M_bothRead_1 : decode b_M_bothRead 1 = .ok (.iload_n 1, 1) := by decide +kernel
theorem d_M_bothRead_2 : decode b_M_bothRead 2 = .ok (.invokevirtual 613, 3) := by decide +kernel
theorem d_M_bothRead_5 : decode b_M_bothRead 5 = .ok (.ifCond .eq 28, 3) := by decide +kernel
theorem d_M_bothRead_8 : decode b_M_bothRead 8 = .ok (.aload_n 0, 1) := by decide +kernel
theorem d_M_bothRead_9 : decode b_M_bothRead 9 = .ok (.getfield 605, 3) := by decide +kernel
theorem d_M_bothRead_12 : decode b_M_bothRead 12 = .ok (.aload_n 0, 1) := by decide +kernel
theorem d_M_bothRead_13 : decode b_M_bothRead 13 = .ok (.getfield 332, 3) := by decide +kernel
theorem d_M_bothRead_16 : decode b_M_bothRead 16 = .ok (.if_icmp .ge 17, 3) := by decide +kernel
theorem d_M_bothRead_19 : decode b_M_bothRead 19 = .ok (.aload_n 0, 1) := by decide +kernel
theorem d_M_bothRead_20 : decode b_M_bothRead 20 = .ok (.getfield 10, 3) := by decide +kernel
theorem d_M_bothRead_23 : decode b_M_bothRead 23 = .ok (.aload_n 0, 1) := by decide +kernel
theorem d_M_bothRead_24 : decode b_M_bothRead 24 = .ok (.getfield 605, 3) := by decide +kernel
theorem d_M_bothRead_27 : decode b_M_bothRead 27 = .ok (.baload, 1) := by decide +kernel
theorem d_M_bothRead_28 : decode b_M_bothRead 28 = .ok (.bipush 58, 2) := by decide +kernel
theorem d_M_bothRead_30 : decode b_M_bothRead 30 = .ok (.if_icmp .eq 5, 3) := by decide +kernel
theorem d_M_bothRead_33 : decode b_M_bothRead 33 = .ok (.iconst 0, 1) := by decide +kernel
theorem d_M_bothRead_34 : decode b_M_bothRead 34 = .ok (.ireturn, 1) := by decide +kernel
theorem d_M_bothRead_35 : decode b_M_bothRead 35 = .ok (.aload_n 0, 1) := by decide +kernel
theorem d_M_bothRead_36 : decode b_M_bothRead 36 = .ok (.aload_n 0, 1) := by decide +kernel
theorem d_M_bothRead_37 : decode b_M_bothRead 37 = .ok (.getfield 332, 3) := by decide +kernel
theorem d_M_bothRead_40 : decode b_M_bothRead 40 = .ok (.aload_n 0, 1) := by decide +kernel
theorem d_M_bothRead_41 : decode b_M_bothRead 41 = .ok (.getfield 605, 3) := by decide +kernel
theorem d_M_bothRead_44 : decode b_M_bothRead 44 = .ok (.isub, 1) := by decide +kernel
theorem d_M_bothRead_45 : decode b_M_bothRead 45 = .ok (.iconst 1, 1) := by decide +kernel
theorem d_M_bothRead_46 : decode b_M_bothRead 46 = .ok (.isub, 1) := by decide +kernel
theorem d_M_bothRead_47 : decode b_M_bothRead 47 = .ok (.putfield 418, 3) := by decide +kernel
theorem d_M_bothRead_50 : decode b_M_bothRead 50 = .ok (.aload_n 0, 1) := by decide +kernel
theorem d_M_bothRead_51 : decode b_M_bothRead 51 = .ok (.aload_n 0, 1) := by decide +kernel
theorem d_M_bothRead_52 : decode b_M_bothRead 52 = .ok (.getfield 605, 3) := by decide +kernel
theorem d_M_bothRead_55 : decode b_M_bothRead 55 = .ok (.iconst 1, 1) := by decide +kernel
theorem d_M_bothRead_56 : decode b_M_bothRead 56 = .ok (.iadd, 1) := by decide +kernel
theorem d_M_bothRead_57 : decode b_M_bothRead 57 = .ok (.aload_n 0, 1) := by decide +kernel
theorem d_M_bothRead_58 : decode b_M_bothRead 58 = .ok (.getfield 332, 3) := by decide +kernel
theorem d_M_bothRead_61 : decode b_M_bothRead 61 = .ok (.invokevirtual 617, 3) := by decide +kernel
theorem d_M_bothRead_64 : decode b_M_bothRead 64 = .ok (.ireturn, 1) := by decide +kernel
