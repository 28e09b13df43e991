abbrev b_M_hasMoreFlags : ByteArray := prog_14_method_53_code
def y_M_hasMoreFlags : MethodName := ⟨R_M, "hasMoreFlags", "(II)Z"⟩
abbrev k_M_hasMoreFlags : Cond := .code y_M_hasMoreFlags b_M_hasMoreFlags 5 (some .boolean)
theorem ki_M_hasMoreFlags : k_M_hasMoreFlags ∈ lw_tg := in_t 2483 (by decide +kernel)
theorem ks_M_hasMoreFlags : Cond.instanceMethod y_M_hasMoreFlags ∈ lw_tg := in_t 2482 (by decide +kernel)
theorem kx_M_hasMoreFlags : Cond.selects R_M y_M_hasMoreFlags y_M_hasMoreFlags ∈ lw_tg := List.mem_filter.mpr ⟨List.mem_append_left _ (List.mem_of_getElem? (i := 116) (by decide +kernel)), rfl⟩
theorem kl_M_hasMoreFlags : Cond.methodLink R_M 707 y_M_hasMoreFlags ∈ lw_tg := in_t 2480 (by decide +kernel)
theorem hd_M_hasMoreFlags : y_M_hasMoreFlags.cls = R_M ∧ y_M_hasMoreFlags.cls ≠ "java/lang/invoke/MethodHandle" ∧ y_M_hasMoreFlags.cls ≠ "java/lang/invoke/VarHandle" ∧ (parseMethodDescriptor y_M_hasMoreFlags.desc).map (fun d => d.parameters.length) = some 2 := by decide +kernel
theorem d_M_hasMoreFlags_0 : decode b_M_hasMoreFlags 0 = .ok (.aload_n 0, 1) := by decide +kernel
theorem d_M_hasMoreFlags_1 : decode b_M_hasMoreFlags 1 = .ok (.aload_n 0, 1) := by decide +kernel
theorem d_M_hasMoreFlags_2 : decode b_M_hasMoreFlags 2 = .ok (.iload_n 1, 1) := by decide +kernel
theorem d_M_hasMoreFlags_3 : decode b_M_hasMoreFlags 3 = .ok (.iload_n 2, 1) := by decide +kernel
theorem d_M_hasMoreFlags_4 : decode b_M_hasMoreFlags 4 = .ok (.invokevirtual 536, 3) := by decide +kernel
theorem d_M_hasMoreFlags_7 : decode b_M_hasMoreFlags 7 = .ok (.aload_n 0, 1) := by decide +kernel
theorem d_M_hasMoreFlags_8 : decode b_M_hasMoreFlags 8 = .ok (.iload_n 1, 1) := by decide +kernel
theorem d_M_hasMoreFlags_9 : decode b_M_hasMoreFlags 9 = .ok (.iload_n 2, 1) := by decide +kernel
theorem d_M_hasMoreFlags_10 : decode b_M_hasMoreFlags 10 = .ok (.invokevirtual 539, 3) := by decide +kernel
theorem d_M_hasMoreFlags_13 : decode b_M_hasMoreFlags 13 = .ok (.iconst 3, 1) := by decide +kernel
theorem d_M_hasMoreFlags_14 : decode b_M_hasMoreFlags 14 = .ok (.invokevirtual 476, 3) := by decide +kernel
theorem d_M_hasMoreFlags_17 : decode b_M_hasMoreFlags 17 = .ok (.pop, 1) := by decide +kernel
theorem d_M_hasMoreFlags_18 : decode b_M_hasMoreFlags 18 = .ok (.iconst 0, 1) := by decide +kernel
theorem d_M_hasMoreFlags_19 : decode b_M_hasMoreFlags 19 = .ok (.istore_n 3, 1) := by decide +kernel
theorem d_M_hasMoreFlags_20 : decode b_M_hasMoreFlags 20 = .ok (.aload_n 0, 1) := by decide +kernel
theorem d_M_hasMoreFlags_21 : decode b_M_hasMoreFlags 21 = .ok (.getfield 470, 3) := by decide +kernel
theorem d_M_hasMoreFlags_24 : decode b_M_hasMoreFlags 24 = .ok (.iconst 5, 1) := by decide +kernel
theorem d_M_hasMoreFlags_25 : decode b_M_hasMoreFlags 25 = .ok (.iadd, 1) := by decide +kernel
theorem d_M_hasMoreFlags_26 : decode b_M_hasMoreFlags 26 = .ok (.istore 4, 2) := by decide +kernel
theorem d_M_hasMoreFlags_28 : decode b_M_hasMoreFlags 28 = .ok (.iload 4, 2) := by decide +kernel
theorem d_M_hasMoreFlags_30 : decode b_M_hasMoreFlags 30 = .ok (.aload_n 0, 1) := by decide +kernel
theorem d_M_hasMoreFlags_31 : decode b_M_hasMoreFlags 31 = .ok (.getfield 473, 3) := by decide +kernel
theorem d_M_hasMoreFlags_34 : decode b_M_hasMoreFlags 34 = .ok (.if_icmp .ge 29, 3) := by decide +kernel
theorem d_M_hasMoreFlags_37 : decode b_M_hasMoreFlags 37 = .ok (.iload_n 3, 1) := by decide +kernel
theorem d_M_hasMoreFlags_38 : decode b_M_hasMoreFlags 38 = .ok (.ifCond .ne 13, 3) := by decide +kernel
theorem d_M_hasMoreFlags_41 : decode b_M_hasMoreFlags 41 = .ok (.aload_n 0, 1) := by decide +kernel
theorem d_M_hasMoreFlags_42 : decode b_M_hasMoreFlags 42 = .ok (.getfield 10, 3) := by decide +kernel
theorem d_M_hasMoreFlags_45 : decode b_M_hasMoreFlags 45 = .ok (.iload 4, 2) := by decide +kernel
theorem d_M_hasMoreFlags_47 : decode b_M_hasMoreFlags 47 = .ok (.baload, 1) := by decide +kernel
theorem d_M_hasMoreFlags_48 : decode b_M_hasMoreFlags 48 = .ok (.ifCond .eq 7, 3) := by decide +kernel
theorem d_M_hasMoreFlags_51 : decode b_M_hasMoreFlags 51 = .ok (.iconst 1, 1) := by decide +kernel
theorem d_M_hasMoreFlags_52 : decode b_M_hasMoreFlags 52 = .ok (.goto 4, 3) := by decide +kernel
theorem d_M_hasMoreFlags_55 : decode b_M_hasMoreFlags 55 = .ok (.iconst 0, 1) := by decide +kernel
theorem d_M_hasMoreFlags_56 : decode b_M_hasMoreFlags 56 = .ok (.istore_n 3, 1) := by decide +kernel
theorem d_M_hasMoreFlags_57 : decode b_M_hasMoreFlags 57 = .ok (.iinc 4 1, 3) := by decide +kernel
theorem d_M_hasMoreFlags_60 : decode b_M_hasMoreFlags 60 = .ok (.goto (-32), 3) := by decide +kernel
theorem d_M_hasMoreFlags_63 : decode b_M_hasMoreFlags 63 = .ok (.iload_n 3, 1) := by decide +kernel
theorem d_M_hasMoreFlags_64 : decode b_M_hasMoreFlags 64 = .ok (.ireturn, 1) := by decide +kernel
abbrev b_M_bit : ByteArray := prog_14_method_54_code
def y_M_bit : MethodName := ⟨R_M, "bit", "(II)Z"⟩
abbrev k_M_bit : Cond := .code y_M_bit b_M_bit 3 (some .boolean)
theorem ki_M_bit : k_M_bit ∈ lw_tg := in_t 2538 (by decide +kernel)
theorem ks_M_bit : Cond.instanceMethod y_M_bit ∈ lw_tg := in_t 2537 (by decide +kernel)
theorem kx_M_bit : Cond.selects R_M y_M_bit y_M_bit ∈ lw_tg := List.mem_filter.mpr ⟨List.mem_append_left _ (List.mem_of_getElem? (i := 128) (by decide +kernel)), rfl⟩
theorem kl_M_bit : Cond.methodLink R_M 820 y_M_bit ∈ lw_tg := in_t 2535 (by decide +kernel)
theorem hd_M_bit : y_M_bit.cls = R_M ∧ y_M_bit.cls ≠ "java/lang/invoke/MethodHandle" ∧ y_M_bit.cls ≠ "java/lang/invoke/VarHandle" ∧ (parseMethodDescriptor y_M_bit.desc).map (fun d => d.parameters.length) = some 2 := by decide +kernel
theorem d_M_bit_0 : decode b_M_bit 0 = .ok (.iload_n 1, 1) := by decide +kernel
theorem d_M_bit_1 : decode b_M_bit 1 = .ok (.bipush 31, 2) := by decide +kernel
theorem d_M_bit_3 : decode b_M_bit 3 = .ok (.iload_n 2, 1) := by decide +kernel
theorem d_M_bit_4 : decode b_M_bit 4 = .ok (.isub, 1) := by decide +kernel
theorem d_M_bit_5 : decode b_M_bit 5 = .ok (.iushr, 1) := by decide +kernel
theorem d_M_bit_6 : decode b_M_bit 6 = .ok (.iconst 1, 1) := by decide +kernel
theorem d_M_bit_7 : decode b_M_bit 7 = .ok (.iand, 1) := by decide +kernel
theorem d_M_bit_8 : decode b_M_bit 8 = .ok (.iconst 1, 1) := by decide +kernel
theorem d_M_bit_9 : decode b_M_bit 9 = .ok (.if_icmp .ne 7, 3) := by decide +kernel
theorem d_M_bit_12 : decode b_M_bit 12 = .ok (.iconst 1, 1) := by decide +kernel
theorem d_M_bit_13 : decode b_M_bit 13 = .ok (.goto 4, 3) := by decide +kernel
theorem d_M_bit_16 : decode b_M_bit 16 = .ok (.iconst 0, 1) := by decide +kernel
theorem d_M_bit_17 : decode b_M_bit 17 = .ok (.ireturn, 1) := by decide +kernel
abbrev b_M_bitOf : ByteArray := prog_14_method_55_code
def y_M_bitOf : MethodName := ⟨R_M, "bitOf", "(I)I"⟩
abbrev k_M_bitOf : Cond := .code y_M_bitOf b_M_bitOf 1 (some .int)
theorem ki_M_bitOf : k_M_bitOf ∈ lw_tg := in_t 2475 (by decide +kernel)
theorem ks_M_bitOf : Cond.static y_M_bitOf ∈ lw_tg := in_t 2474 (by decide +kernel)
theorem kl_M_bitOf : Cond.methodLink R_M 701 y_M_bitOf ∈ lw_tg := in_t 2473 (by decide +kernel)
theorem hd_M_bitOf : y_M_bitOf.cls = R_M ∧ y_M_bitOf.cls ≠ "java/lang/invoke/MethodHandle" ∧ y_M_bitOf.cls ≠ "java/lang/invoke/VarHandle" ∧ (parseMethodDescriptor y_M_bitOf.desc).map (fun d => d.parameters.length) = some 1 := by decide +kernel
theorem d_M_bitOf_0 : decode b_M_bitOf 0 = .ok (.iconst 1, 1) := by decide +kernel
theorem d_M_bitOf_1 : decode b_M_bitOf 1 = .ok (.bipush 31, 2) := by decide +kernel
theorem d_M_bitOf_3 : decode b_M_bitOf 3 = .ok (.iload_n 0, 1) := by decide +kernel
theorem d_M_bitOf_4 : decode b_M_bitOf 4 = .ok (.isub, 1) := by decide +kernel
theorem d_M_bitOf_5 : decode b_M_bitOf 5 = .ok (.ishl, 1) := by decide +kernel
theorem d_M_bitOf_6 : decode b_M_bitOf 6 = .ok (.ireturn, 1) := by decide +kernel
abbrev b_M_isWord : ByteArray := prog_14_method_56_code
def y_M_isWord : MethodName := ⟨R_M, "isWord", "(IILjava/lang/String;)Z"⟩
abbrev k_M_isWord : Cond := .code y_M_isWord b_M_isWord 5 (some .boolean)
theorem ki_M_isWord : k_M_isWord ∈ lw_tg := in_t 2444 (by decide +kernel)
theorem ks_M_isWord : Cond.instanceMethod y_M_isWord ∈ lw_tg := in_t 2443 (by decide +kernel)
theorem kx_M_isWord : Cond.selects R_M y_M_isWord y_M_isWord ∈ lw_tg := List.mem_filter.mpr ⟨List.mem_append_left _ (List.mem_of_getElem? (i := 107) (by decide +kernel)), rfl⟩
theorem kl_M_isWord : Cond.methodLink R_M 678 y_M_isWord ∈ lw_tg := in_t 2441 (by decide +kernel)
theorem hd_M_isWord : y_M_isWord.cls = R_M ∧ y_M_isWord.cls ≠ "java/lang/invoke/MethodHandle" ∧ y_M_isWord.cls ≠ "java/lang/invoke/VarHandle" ∧ (parseMethodDescriptor y_M_isWord.desc).map (fun d => d.parameters.length) = some 3 := by decide +kernel
theorem d_M_isWord_0 : decode b_M_isWord 0 = .ok (.aload_n 0, 1) := by decide +kernel
theorem d_M_isWord_1 : decode b_M_isWord 1 = .ok (.iload_n 1, 1) := by decide +kernel
theorem d_M_isWord_2 : decode b_M_isWord 2 = .ok (.iload_n 2, 1) := by decide +kernel
theorem d_M_isWord_3 : decode b_M_isWord 3 = .ok (.bipush 27, 2) := by decide +kernel
theorem d_M_isWord_5 : decode b_M_isWord 5 = .ok (.invokevirtual 476, 3) := by decide +kernel
theorem d_M_isWord_8 : decode b_M_isWord 8 = .ok (.pop, 1) := by decide +kernel
theorem d_M_isWord_9 : decode b_M_isWord 9 = .ok (.aload_n 0, 1) := by decide +kernel
theorem d_M_isWord_10 : decode b_M_isWord 10 = .ok (.getfield 473, 3) := by decide +kernel
theorem d_M_isWord_13 : decode b_M_isWord 13 = .ok (.aload_n 0, 1) := by decide +kernel
theorem d_M_isWord_14 : decode b_M_isWord 14 = .ok (.getfield 470, 3) := by decide +kernel
theorem d_M_isWord_17 : decode b_M_isWord 17 = .ok (.isub, 1) := by decide +kernel
theorem d_M_isWord_18 : decode b_M_isWord 18 = .ok (.aload_n 3, 1) := by decide +kernel
theorem d_M_isWord_19 : decode b_M_isWord 19 = .ok (.invokevirtual 339, 3) := by decide +kernel
theorem d_M_isWord_22 : decode b_M_isWord 22 = .ok (.if_icmp .eq 5, 3) := by decide +kernel
theorem d_M_isWord_25 : decode b_M_isWord 25 = .ok (.iconst 0, 1) := by decide +kernel
theorem d_M_isWord_26 : decode b_M_isWord 26 = .ok (.ireturn, 1) := by decide +kernel
theorem d_M_isWord_27 : decode b_M_isWord 27 = .ok (.iconst 0, 1) := by decide +kernel
theorem d_M_isWord_28 : decode b_M_isWord 28 = .ok (.istore 4, 2) := by decide +kernel
theorem d_M_isWord_30 : decode b_M_isWord 30 = .ok (.iload 4, 2) := by decide +kernel
theorem d_M_isWord_32 : decode b_M_isWord 32 = .ok (.aload_n 3, 1) := by decide +kernel
theorem d_M_isWord_33 : decode b_M_isWord 33 = .ok (.invokevirtual 339, 3) := by decide +kernel
theorem d_M_isWord_36 : decode b_M_isWord 36 = .ok (.if_icmp .ge 32, 3) := by decide +kernel
theorem d_M_isWord_39 : decode b_M_isWord 39 = .ok (.aload_n 0, 1) := by decide +kernel
theorem d_M_isWord_40 : decode b_M_isWord 40 = .ok (.getfield 10, 3) := by decide +kernel
theorem d_M_isWord_43 : decode b_M_isWord 43 = .ok (.aload_n 0, 1) := by decide +kernel
theorem d_M_isWord_44 : decode b_M_isWord 44 = .ok (.getfield 470, 3) := by decide +kernel
theorem d_M_isWord_47 : decode b_M_isWord 47 = .ok (.iload 4, 2) := by decide +kernel
theorem d_M_isWord_49 : decode b_M_isWord 49 = .ok (.iadd, 1) := by decide +kernel
theorem d_M_isWord_50 : decode b_M_isWord 50 = .ok (.baload, 1) := by decide +kernel
theorem d_M_isWord_51 : decode b_M_isWord 51 = .ok (.aload_n 3, 1) := by decide +kernel
theorem d_M_isWord_52 : decode b_M_isWord 52 = .ok (.iload 4, 2) := by decide +kernel
theorem d_M_isWord_54 : decode b_M_isWord 54 = .ok (.invokevirtual 344, 3) := by decide +kernel
theorem d_M_isWord_57 : decode b_M_isWord 57 = .ok (.if_icmp .eq 5, 3) := by decide +kernel
theorem d_M_isWord_60 : decode b_M_isWord 60 = .ok (.iconst 0, 1) := by decide +kernel
theorem d_M_isWord_61 : decode b_M_isWord 61 = .ok (.ireturn, 1) := by decide +kernel
theorem d_M_isWord_62 : decode b_M_isWord 62 = .ok (.iinc 4 1, 3) := by decide +kernel
theorem d_M_isWord_65 : decode b_M_isWord 65 = .ok (.goto (-35), 3) := by decide +kernel
theorem d_M_isWord_68 : decode b_M_isWord 68 = .ok (.iconst 1, 1) := by decide +kernel
theorem d_M_isWord_69 : decode b_M_isWord 69 = .ok (.ireturn, 1) := by decide +kernel
abbrev b_M_isSame : ByteArray := prog_14_method_57_code
def y_M_isSame : MethodName := ⟨R_M, "isSame", "(IIII)Z"⟩
abbrev k_M_isSame : Cond := .code y_M_isSame b_M_isSame 6 (some .boolean)
theorem ki_M_isSame : k_M_isSame ∈ lw_tg := in_t 2688 (by decide +kernel)
theorem ks_M_isSame : Cond.instanceMethod y_M_isSame ∈ lw_tg := in_t 2687 (by decide +kernel)
theorem kx_M_isSame : Cond.selects R_M y_M_isSame y_M_isSame ∈ lw_tg := List.mem_filter.mpr ⟨List.mem_append_left _ (List.mem_of_getElem? (i := 163) (by decide +kernel)), rfl⟩
theorem kl_M_isSame : Cond.methodLink R_M 549 y_M_isSame ∈ lw_tg := in_t 2685 (by decide +kernel)
theorem hd_M_isSame : y_M_isSame.cls = R_M ∧ y_M_isSame.cls ≠ "java/lang/invoke/MethodHandle" ∧ y_M_isSame.cls ≠ "java/lang/invoke/VarHandle" ∧ (parseMethodDescriptor y_M_isSame.desc).map (fun d => d.parameters.length) = some 4 := by decide +kernel
theorem d_M_isSame_0 : decode b_M_isSame 0 = .ok (.iload_n 2, 1) := by decide +kernel
theorem d_M_isSame_1 : decode b_M_isSame 1 = .ok (.iload_n 1, 1) := by decide +kernel
theorem d_M_isSame_2 : decode b_M_isSame 2 = .ok (.isub, 1) := by decide +kernel
theorem d_M_isSame_3 : decode b_M_isSame 3 = .ok (.iload 4, 2) := by decide +kernel
theorem d_M_isSame_5 : decode b_M_isSame 5 = .ok (.iload_n 3, 1) := by decide +kernel
theorem d_M_isSame_6 : decode b_M_isSame 6 = .ok (.isub, 1) := by decide +kernel
theorem d_M_isSame_7 : decode b_M_isSame 7 = .ok (.if_icmp .eq 5, 3) := by decide +kernel
theorem d_M_isSame_10 : decode b_M_isSame 10 = .ok (.iconst 0, 1) := by decide +kernel
theorem d_M_isSame_11 : decode b_M_isSame 11 = .ok (.ireturn, 1) := by decide +kernel
theorem d_M_isSame_12 : decode b_M_isSame 12 = .ok (.iconst 0, 1) := by decide +kernel
theorem d_M_isSame_13 : decode b_M_isSame 13 = .ok (.istore 5, 2) := by decide +kernel
theorem d_M_isSame_15 : decode b_M_isSame 15 = .ok (.iload 5, 2) := by decide +kernel
theorem d_M_isSame_17 : decode b_M_isSame 17 = .ok (.iload_n 2, 1) := by decide +kernel
theorem d_M_isSame_18 : decode b_M_isSame 18 = .ok (.iload_n 1, 1) := by decide +kernel
theorem d_M_isSame_19 : decode b_M_isSame 19 = .ok (.isub, 1) := by decide +kernel
theorem d_M_isSame_20 : decode b_M_isSame 20 = .ok (.if_icmp .ge 32, 3) := by decide +kernel
theorem d_M_isSame_23 : decode b_M_isSame 23 = .ok (.aload_n 0, 1) := by decide +kernel
theorem d_M_isSame_24 : decode b_M_isSame 24 = .ok (.getfield 10, 3) := by decide +kernel
theorem d_M_isSame_27 : decode b_M_isSame 27 = .ok (.iload_n 1, 1) := by decide +kernel
theorem d_M_isSame_28 : decode b_M_isSame 28 = .ok (.iload 5, 2) := by decide +kernel
theorem d_M_isSame_30 : decode b_M_isSame 30 = .ok (.iadd, 1) := by decide +kernel
theorem d_M_isSame_31 : decode b_M_isSame 31 = .ok (.baload, 1) := by decide +kernel
theorem d_M_isSame_32 : decode b_M_isSame 32 = .ok (.aload_n 0, 1) := by decide +kernel
theorem d_M_isSame_33 : decode b_M_isSame 33 = .ok (.getfield 10, 3) := by decide +kernel
theorem d_M_isSame_36 : decode b_M_isSame 36 = .ok (.iload_n 3, 1) := by decide +kernel
theorem d_M_isSame_37 : decode b_M_isSame 37 = .ok (.iload 5, 2) := by decide +kernel
theorem d_M_isSame_39 : decode b_M_isSame 39 = .ok (.iadd, 1) := by decide +kernel
theorem d_M_isSame_40 : decode b_M_isSame 40 = .ok (.baload, 1) := by decide +kernel
theorem d_M_isSame_41 : decode b_M_isSame 41 = .ok (.if_icmp .eq 5, 3) := by decide +kernel
theorem d_M_isSame_44 : decode b_M_isSame 44 = .ok (.iconst 0, 1) := by decide +kernel
theorem d_M_isSame_45 : decode b_M_isSame 45 = .ok (.ireturn, 1) := by decide +kernel
theorem d_M_isSame_46 : decode b_M_isSame 46 = .ok (.iinc 5 1, 3) := by decide +kernel
theorem d_M_isSame_49 : decode b_M_isSame 49 = .ok (.goto (-34), 3) := by decide +kernel
theorem d_M_isSame_52 : decode b_M_isSame 52 = .ok (.iconst 1, 1) := by decide +kernel
theorem d_M_isSame_53 : decode b_M_isSame 53 = .ok (.ireturn, 1) := by decide +kernel
abbrev b_M_partsAt : ByteArray := prog_14_method_58_code
def y_M_partsAt : MethodName := ⟨R_M, "partsAt", "(II)I"⟩
abbrev k_M_partsAt : Cond := .code y_M_partsAt b_M_partsAt 3 (some .int)
theorem ki_M_partsAt : k_M_partsAt ∈ lw_tg := in_t 2456 (by decide +kernel)
theorem ks_M_partsAt : Cond.instanceMethod y_M_partsAt ∈ lw_tg := in_t 2455 (by decide +kernel)
theorem kx_M_partsAt : Cond.selects R_M y_M_partsAt y_M_partsAt ∈ lw_tg := List.mem_filter.mpr ⟨List.mem_append_left _ (List.mem_of_getElem? (i := 110) (by decide +kernel)), rfl⟩
theorem kl_M_partsAt : Cond.methodLink R_M 546 y_M_partsAt ∈ lw_tg := in_t 2453 (by decide +kernel)
theorem hd_M_partsAt : y_M_partsAt.cls = R_M ∧ y_M_partsAt.cls ≠ "java/lang/invoke/MethodHandle" ∧ y_M_partsAt.cls ≠ "java/lang/invoke/VarHandle" ∧ (parseMethodDescriptor y_M_partsAt.desc).map (fun d => d.parameters.length) = some 2 := by decide +kernel
theorem d_M_partsAt_0 : decode b_M_partsAt 0 = .ok (.aload_n 0, 1) := by decide +kernel
theorem d_M_partsAt_1 : decode b_M_partsAt 1 = .ok (.ldc_w 511, 3) := by decide +kernel
theorem d_M_partsAt_4 : decode b_M_partsAt 4 = .ok (.iload_n 1, 1) := by decide +kernel
theorem d_M_partsAt_5 : decode b_M_partsAt 5 = .ok (.iload_n 2, 1) := by decide +kernel
theorem d_M_partsAt_6 : decode b_M_partsAt 6 = .ok (.bipush 11, 2) := by decide +kernel
theorem d_M_partsAt_8 : decode b_M_partsAt 8 = .ok (.invokevirtual 487, 3) := by decide +kernel
theorem d_M_partsAt_11 : decode b_M_partsAt 11 = .ok (.pop, 1) := by decide +kernel
theorem d_M_partsAt_12 : decode b_M_partsAt 12 = .ok (.aload_n 0, 1) := by decide +kernel
theorem d_M_partsAt_13 : decode b_M_partsAt 13 = .ok (.bipush 11, 2) := by decide +kernel
theorem d_M_partsAt_15 : decode b_M_partsAt 15 = .ok (.iconst 1, 1) := by decide +kernel
theorem d_M_partsAt_16 : decode b_M_partsAt 16 = .ok (.invokevirtual 536, 3) := by decide +kernel
theorem d_M_partsAt_19 : decode b_M_partsAt 19 = .ok (.ireturn, 1) := by decide +kernel
abbrev b_M_sameNames : ByteArray := prog_14_method_59_code
def y_M_sameNames : MethodName := ⟨R_M, "sameNames", "(IIII)Z"⟩
abbrev k_M_sameNames : Cond := .code y_M_sameNames b_M_sameNames 8 (some .boolean)
theorem ki_M_sameNames : k_M_sameNames ∈ lw_tg := in_t 2692 (by decide +kernel)
theorem ks_M_sameNames : Cond.instanceMethod y_M_sameNames ∈ lw_tg := in_t 2691 (by decide +kernel)
theorem kx_M_sameNames : Cond.selects R_M y_M_sameNames y_M_sameNames ∈ lw_tg := List.mem_filter.mpr ⟨List.mem_append_left _ (List.mem_of_getElem? (i := 164) (by decide +kernel)), rfl⟩
theorem kl_M_sameNames : Cond.methodLink R_M 790 y_M_sameNames ∈ lw_tg := in_t 2689 (by decide +kernel)
theorem hd_M_sameNames : y_M_sameNames.cls = R_M ∧ y_M_sameNames.cls ≠ "java/lang/invoke/MethodHandle" ∧ y_M_sameNames.cls ≠ "java/lang/invoke/VarHandle" ∧ (parseMethodDescriptor y_M_sameNames.desc).map (fun d => d.parameters.length) = some 4 := by decide +kernel
theorem d_M_sameNames_0 : decode b_M_sameNames 0 = .ok (.aload_n 0, 1) := by decide +kernel
theorem d_M_sameNames_1 : decode b_M_sameNames 1 = .ok (.iload_n 1, 1) := by decide +kernel
theorem d_M_sameNames_2 : decode b_M_sameNames 2 = .ok (.iload_n 2, 1) := by decide +kernel
theorem d_M_sameNames_3 : decode b_M_sameNames 3 = .ok (.invokevirtual 546, 3) := by decide +kernel
theorem d_M_sameNames_6 : decode b_M_sameNames 6 = .ok (.istore 5, 2) := by decide +kernel
theorem d_M_sameNames_8 : decode b_M_sameNames 8 = .ok (.aload_n 0, 1) := by decide +kernel
theorem d_M_sameNames_9 : decode b_M_sameNames 9 = .ok (.bipush 11, 2) := by decide +kernel
theorem d_M_sameNames_11 : decode b_M_sameNames 11 = .ok (.iconst 1, 1) := by decide +kernel
theorem d_M_sameNames_12 : decode b_M_sameNames 12 = .ok (.invokevirtual 539, 3) := by decide +kernel
theorem d_M_sameNames_15 : decode b_M_sameNames 15 = .ok (.istore 6, 2) := by decide +kernel
theorem d_M_sameNames_17 : decode b_M_sameNames 17 = .ok (.aload_n 0, 1) := by decide +kernel
theorem d_M_sameNames_18 : decode b_M_sameNames 18 = .ok (.iload_n 3, 1) := by decide +kernel
theorem d_M_sameNames_19 : decode b_M_sameNames 19 = .ok (.iload 4, 2) := by decide +kernel
theorem d_M_sameNames_21 : decode b_M_sameNames 21 = .ok (.invokevirtual 546, 3) := by decide +kernel
theorem d_M_sameNames_24 : decode b_M_sameNames 24 = .ok (.istore 7, 2) := by decide +kernel
theorem d_M_sameNames_26 : decode b_M_sameNames 26 = .ok (.aload_n 0, 1) := by decide +kernel
theorem d_M_sameNames_27 : decode b_M_sameNames 27 = .ok (.iload 5, 2) := by decide +kernel
theorem d_M_sameNames_29 : decode b_M_sameNames 29 = .ok (.iload 6, 2) := by decide +kernel
theorem d_M_sameNames_31 : decode b_M_sameNames 31 = .ok (.iload 7, 2) := by decide +kernel
theorem d_M_sameNames_33 : decode b_M_sameNames 33 = .ok (.aload_n 0, 1) := by decide +kernel
theorem d_M_sameNames_34 : decode b_M_sameNames 34 = .ok (.bipush 11, 2) := by decide +kernel
theorem d_M_sameNames_36 : decode b_M_sameNames 36 = .ok (.iconst 1, 1) := by decide +kernel
theorem d_M_sameNames_37 : decode b_M_sameNames 37 = .ok (.invokevirtual 539, 3) := by decide +kernel
theorem d_M_sameNames_40 : decode b_M_sameNames 40 = .ok (.invokevirtual 549, 3) := by decide +kernel
theorem d_M_sameNames_43 : decode b_M_sameNames 43 = .ok (.ireturn, 1) := by decide +kernel
abbrev b_M_start : ByteArray := prog_14_method_60_code
def y_M_start : MethodName := ⟨R_M, "start", "()V"⟩
abbrev k_M_start : Cond := .code y_M_start b_M_start 1 none
theorem ki_M_start : k_M_start ∈ lw_tg := in_t 2561 (by decide +kernel)
theorem ks_M_start : Cond.instanceMethod y_M_start ∈ lw_tg := in_t 2560 (by decide +kernel)
theorem kx_M_start : Cond.selects R_M y_M_start y_M_start ∈ lw_tg := List.mem_filter.mpr ⟨List.mem_append_left _ (List.mem_of_getElem? (i := 133) (by decide +kernel)), rfl⟩
theorem kl_M_start : Cond.methodLink R_M 861 y_M_start ∈ lw_tg := in_t 2558 (by decide +kernel)
theorem hd_M_start : y_M_start.cls = R_M ∧ y_M_start.cls ≠ "java/lang/invoke/MethodHandle" ∧ y_M_start.cls ≠ "java/lang/invoke/VarHandle" ∧ (parseMethodDescriptor y_M_start.desc).map (fun d => d.parameters.length) = some 0 := by decide +kernel
theorem d_M_start_0 : decode b_M_start 0 = .ok (.aload_n 0, 1) := by decide +kernel
theorem d_M_start_1 : decode b_M_start 1 = .ok (.ldc 9, 2) := by decide +kernel
theorem d_M_start_3 : decode b_M_start 3 = .ok (.putfield 553, 3) := by decide +kernel
theorem d_M_start_6 : decode b_M_start 6 = .ok (.return_, 1) := by decide +kernel
abbrev b_M_one : ByteArray := prog_14_method_61_code
def y_M_one : MethodName := ⟨R_M, "one", "(I)V"⟩
abbrev k_M_one : Cond := .code y_M_one b_M_one 2 none
theorem ki_M_one : k_M_one ∈ lw_tg := in_t 2577 (by decide +kernel)
theorem ks_M_one : Cond.instanceMethod y_M_one ∈ lw_tg := in_t 2576 (by decide +kernel)
theorem kx_M_one : Cond.selects R_M y_M_one y_M_one ∈ lw_tg := List.mem_filter.mpr ⟨List.mem_append_left _ (List.mem_of_getElem? (i := 137) (by decide +kernel)), rfl⟩
theorem kl_M_one : Cond.methodLink R_M 556 y_M_one ∈ lw_tg := in_t 2574 (by decide +kernel)
theorem hd_M_one : y_M_one.cls = R_M ∧ y_M_one.cls ≠ "java/lang/invoke/MethodHandle" ∧ y_M_one.cls ≠ "java/lang/invoke/VarHandle" ∧ (parseMethodDescriptor y_M_one.desc).map (fun d => d.parameters.length) = some 1 := by decide +kernel
theorem d_M_one_0 : decode b_M_one 0 = .ok (.aload_n 0, 1) := by decide +kernel
theorem d_M_one_1 : decode b_M_one 1 = .ok (.dup, 1) := by decide +kernel
theorem d_M_one_2 : decode b_M_one 2 = .ok (.getfield 553, 3) := by decide +kernel
theorem d_M_one_5 : decode b_M_one 5 = .ok (.iconst 1, 1) := by decide +kernel
theorem d_M_one_6 : decode b_M_one 6 = .ok (.isub, 1) := by decide +kernel
theorem d_M_one_7 : decode b_M_one 7 = .ok (.putfield 553, 3) := by decide +kernel
theorem d_M_one_10 : decode b_M_one 10 = .ok (.aload_n 0, 1) := by decide +kernel
theorem d_M_one_11 : decode b_M_one 11 = .ok (.getfield 10, 3) := by decide +kernel
theorem d_M_one_14 : decode b_M_one 14 = .ok (.aload_n 0, 1) := by decide +kernel
theorem d_M_one_15 : decode b_M_one 15 = .ok (.getfield 553, 3) := by decide +kernel
theorem d_M_one_18 : decode b_M_one 18 = .ok (.iload_n 1, 1) := by decide +kernel
theorem d_M_one_19 : decode b_M_one 19 = .ok (.i2b, 1) := by decide +kernel
theorem d_M_one_20 : decode b_M_one 20 = .ok (.bastore, 1) := by decide +kernel
theorem d_M_one_21 : decode b_M_one 21 = .ok (.return_, 1) := by decide +kernel
abbrev b_M_head : ByteArray := prog_14_method_62_code
def y_M_head : MethodName := ⟨R_M, "head", "(II)V"⟩
abbrev k_M_head : Cond := .code y_M_head b_M_head 6 none
theorem ki_M_head : k_M_head ∈ lw_tg := in_t 2585 (by decide +kernel)
theorem ks_M_head : Cond.instanceMethod y_M_head ∈ lw_tg := in_t 2584 (by decide +kernel)
theorem kx_M_head : Cond.selects R_M y_M_head y_M_head ∈ lw_tg := List.mem_filter.mpr ⟨List.mem_append_left _ (List.mem_of_getElem? (i := 139) (by decide +kernel)), rfl⟩
theorem kl_M_head : Cond.methodLink R_M 559 y_M_head ∈ lw_tg := in_t 2582 (by decide +kernel)
theorem hd_M_head : y_M_head.cls = R_M ∧ y_M_head.cls ≠ "java/lang/invoke/MethodHandle" ∧ y_M_head.cls ≠ "java/lang/invoke/VarHandle" ∧ (parseMethodDescriptor y_M_head.desc).map (fun d => d.parameters.length) = some 2 := by decide +kernel
theorem d_M_head_0 : decode b_M_head 0 = .ok (.iload_n 2, 1) := by decide +kernel
theorem d_M_head_1 : decode b_M_head 1 = .ok (.aload_n 0, 1) := by decide +kernel
theorem d_M_head_2 : decode b_M_head 2 = .ok (.getfield 553, 3) := by decide +kernel
theorem d_M_head_5 : decode b_M_head 5 = .ok (.isub, 1) := by decide +kernel
theorem d_M_head_6 : decode b_M_head 6 = .ok (.istore_n 3, 1) := by decide +kernel
theorem d_M_head_7 : decode b_M_head 7 = .ok (.iload_n 3, 1) := by decide +kernel
theorem d_M_head_8 : decode b_M_head 8 = .ok (.bipush 127, 2) := by decide +kernel
theorem d_M_head_10 : decode b_M_head 10 = .ok (.if_icmp .le 46, 3) := by decide +kernel
theorem d_M_head_13 : decode b_M_head 13 = .ok (.iconst 0, 1) := by decide +kernel
theorem d_M_head_14 : decode b_M_head 14 = .ok (.istore 4, 2) := by decide +kernel
theorem d_M_head_16 : decode b_M_head 16 = .ok (.iload_n 3, 1) := by decide +kernel
theorem d_M_head_17 : decode b_M_head 17 = .ok (.istore 5, 2) := by decide +kernel
theorem d_M_head_19 : decode b_M_head 19 = .ok (.iload 5, 2) := by decide +kernel
theorem d_M_head_21 : decode b_M_head 21 = .ok (.ifCond .le 22, 3) := by decide +kernel
theorem d_M_head_24 : decode b_M_head 24 = .ok (.aload_n 0, 1) := by decide +kernel
theorem d_M_head_25 : decode b_M_head 25 = .ok (.iload 5, 2) := by decide +kernel
theorem d_M_head_27 : decode b_M_head 27 = .ok (.invokevirtual 556, 3) := by decide +kernel
theorem d_M_head_30 : decode b_M_head 30 = .ok (.iinc 4 1, 3) := by decide +kernel
theorem d_M_head_33 : decode b_M_head 33 = .ok (.iload 5, 2) := by decide +kernel
theorem d_M_head_35 : decode b_M_head 35 = .ok (.bipush 8, 2) := by decide +kernel
theorem d_M_head_37 : decode b_M_head 37 = .ok (.ishr, 1) := by decide +kernel
theorem d_M_head_38 : decode b_M_head 38 = .ok (.istore 5, 2) := by decide +kernel
theorem d_M_head_40 : decode b_M_head 40 = .ok (.goto (-21), 3) := by decide +kernel
theorem d_M_head_43 : decode b_M_head 43 = .ok (.aload_n 0, 1) := by decide +kernel
theorem d_M_head_44 : decode b_M_head 44 = .ok (.sipush 128, 3) := by decide +kernel
theorem d_M_head_47 : decode b_M_head 47 = .ok (.iload 4, 2) := by decide +kernel
theorem d_M_head_49 : decode b_M_head 49 = .ok (.iadd, 1) := by decide +kernel
theorem d_M_head_50 : decode b_M_head 50 = .ok (.invokevirtual 556, 3) := by decide +kernel
theorem d_M_head_53 : decode b_M_head 53 = .ok (.goto 8, 3) := by decide +kernel
theorem d_M_head_56 : decode b_M_head 56 = .ok (.aload_n 0, 1) := by decide +kernel
theorem d_M_head_57 : decode b_M_head 57 = .ok (.iload_n 3, 1) := by decide +kernel
theorem d_M_head_58 : decode b_M_head 58 = .ok (.invokevirtual 556, 3) := by decide +kernel
theorem d_M_head_61 : decode b_M_head 61 = .ok (.aload_n 0, 1) := by decide +kernel
theorem d_M_head_62 : decode b_M_head 62 = .ok (.iload_n 1, 1) := by decide +kernel
theorem d_M_head_63 : decode b_M_head 63 = .ok (.invokevirtual 556, 3) := by decide +kernel
theorem d_M_head_66 : decode b_M_head 66 = .ok (.return_, 1) := by decide +kernel
abbrev b_M_field : ByteArray := prog_14_method_63_code
def y_M_field : MethodName := ⟨R_M, "field", "(II)V"⟩
abbrev k_M_field : Cond := .code y_M_field b_M_field 3 none
theorem ki_M_field : k_M_field ∈ lw_tg := in_t 2581 (by decide +kernel)
theorem ks_M_field : Cond.instanceMethod y_M_field ∈ lw_tg := in_t 2580 (by decide +kernel)
theorem kx_M_field : Cond.selects R_M y_M_field y_M_field ∈ lw_tg := List.mem_filter.mpr ⟨List.mem_append_left _ (List.mem_of_getElem? (i := 138) (by decide +kernel)), rfl⟩
theorem kl_M_field : Cond.methodLink R_M 567 y_M_field ∈ lw_tg := in_t 2578 (by decide +kernel)
theorem hd_M_field : y_M_field.cls = R_M ∧ y_M_field.cls ≠ "java/lang/invoke/MethodHandle" ∧ y_M_field.cls ≠ "java/lang/invoke/VarHandle" ∧ (parseMethodDescriptor y_M_field.desc).map (fun d => d.parameters.length) = some 2 := by decide +kernel
theorem d_M_field_0 : decode b_M_field 0 = .ok (.aload_n 0, 1) := by decide +kernel
theorem d_M_field_1 : decode b_M_field 1 = .ok (.sipush 160, 3) := by decide +kernel
theorem d_M_field_4 : decode b_M_field 4 = .ok (.iload_n 1, 1) := by decide +kernel
theorem d_M_field_5 : decode b_M_field 5 = .ok (.iadd, 1) := by decide +kernel
theorem d_M_field_6 : decode b_M_field 6 = .ok (.iload_n 2, 1) := by decide +kernel
theorem d_M_field_7 : decode b_M_field 7 = .ok (.invokevirtual 559, 3) := by decide +kernel
theorem d_M_field_10 : decode b_M_field 10 = .ok (.return_, 1) := by decide +kernel
abbrev b_M_putNumber : ByteArray := prog_14_method_64_code
def y_M_putNumber : MethodName := ⟨R_M, "putNumber", "(J)V"⟩
abbrev k_M_putNumber : Cond := .code y_M_putNumber b_M_putNumber 8 none
theorem ki_M_putNumber : k_M_putNumber ∈ lw_tg := in_t 2609 (by decide +kernel)
theorem ks_M_putNumber : Cond.instanceMethod y_M_putNumber ∈ lw_tg := in_t 2608 (by decide +kernel)
theorem kx_M_putNumber : Cond.selects R_M y_M_putNumber y_M_putNumber ∈ lw_tg := List.mem_filter.mpr ⟨List.mem_append_left _ (List.mem_of_getElem? (i := 145) (by decide +kernel)), rfl⟩
theorem kl_M_putNumber : Cond.methodLink R_M 563 y_M_putNumber ∈ lw_tg := in_t 2606 (by decide +kernel)
theorem hd_M_putNumber : y_M_putNumber.cls = R_M ∧ y_M_putNumber.cls ≠ "java/lang/invoke/MethodHandle" ∧ y_M_putNumber.cls ≠ "java/lang/invoke/VarHandle" ∧ (parseMethodDescriptor y_M_putNumber.desc).map (fun d => d.parameters.length) = some 1 := by decide +kernel
theorem d_M_putNumber_0 : decode b_M_putNumber 0 = .ok (.aload_n 0, 1) := by decide +kernel
theorem d_M_putNumber_1 : decode b_M_putNumber 1 = .ok (.getfield 553, 3) := by decide +kernel
theorem d_M_putNumber_4 : decode b_M_putNumber 4 = .ok (.istore_n 3, 1) := by decide +kernel
theorem d_M_putNumber_5 : decode b_M_putNumber 5 = .ok (.lload_n 1, 1) := by decide +kernel
theorem d_M_putNumber_6 : decode b_M_putNumber 6 = .ok (.lstore 4, 2) := by decide +kernel
theorem d_M_putNumber_8 : decode b_M_putNumber 8 = .ok (.iconst 1, 1) := by decide +kernel
theorem d_M_putNumber_9 : decode b_M_putNumber 9 = .ok (.istore 6, 2) := by decide +kernel
theorem d_M_putNumber_11 : decode b_M_putNumber 11 = .ok (.iload 6, 2) := by decide +kernel
theorem d_M_putNumber_13 : decode b_M_putNumber 13 = .ok (.ifCond .eq 62, 3) := by decide +kernel
theorem d_M_putNumber_16 : decode b_M_putNumber 16 = .ok (.aload_n 0, 1) := by decide +kernel
theorem d_M_putNumber_17 : decode b_M_putNumber 17 = .ok (.lload 4, 2) := by decide +kernel
theorem d_M_putNumber_19 : decode b_M_putNumber 19 = .ok (.l2i, 1) := by decide +kernel
theorem d_M_putNumber_20 : decode b_M_putNumber 20 = .ok (.invokevirtual 556, 3) := by decide +kernel
theorem d_M_putNumber_23 : decode b_M_putNumber 23 = .ok (.lload 4, 2) := by decide +kernel
theorem d_M_putNumber_25 : decode b_M_putNumber 25 = .ok (.l2i, 1) := by decide +kernel
theorem d_M_putNumber_26 : decode b_M_putNumber 26 = .ok (.sipush 128, 3) := by decide +kernel
theorem d_M_putNumber_29 : decode b_M_putNumber 29 = .ok (.iand, 1) := by decide +kernel
theorem d_M_putNumber_30 : decode b_M_putNumber 30 = .ok (.istore 7, 2) := by decide +kernel
theorem d_M_putNumber_32 : decode b_M_putNumber 32 = .ok (.lload 4, 2) := by decide +kernel
theorem d_M_putNumber_34 : decode b_M_putNumber 34 = .ok (.bipush 8, 2) := by decide +kernel
theorem d_M_putNumber_36 : decode b_M_putNumber 36 = .ok (.lshr, 1) := by decide +kernel
theorem d_M_putNumber_37 : decode b_M_putNumber 37 = .ok (.lstore 4, 2) := by decide +kernel
theorem d_M_putNumber_39 : decode b_M_putNumber 39 = .ok (.lload 4, 2) := by decide +kernel
theorem d_M_putNumber_41 : decode b_M_putNumber 41 = .ok (.lconst 0, 1) := by decide +kernel
theorem d_M_putNumber_42 : decode b_M_putNumber 42 = .ok (.lcmp, 1) := by decide +kernel
theorem d_M_putNumber_43 : decode b_M_putNumber 43 = .ok (.ifCond .ne 8, 3) := by decide +kernel
theorem d_M_putNumber_46 : decode b_M_putNumber 46 = .ok (.iload 7, 2) := by decide +kernel
theorem d_M_putNumber_48 : decode b_M_putNumber 48 = .ok (.ifCond .eq 21, 3) := by decide +kernel
theorem d_M_putNumber_51 : decode b_M_putNumber 51 = .ok (.lload 4, 2) := by decide +kernel
theorem d_M_putNumber_53 : decode b_M_putNumber 53 = .ok (.ldc2_w 459, 3) := by decide +kernel
theorem d_M_putNumber_56 : decode b_M_putNumber 56 = .ok (.lcmp, 1) := by decide +kernel
theorem d_M_putNumber_57 : decode b_M_putNumber 57 = .ok (.ifCond .ne 8, 3) := by decide +kernel
theorem d_M_putNumber_60 : decode b_M_putNumber 60 = .ok (.iload 7, 2) := by decide +kernel
theorem d_M_putNumber_62 : decode b_M_putNumber 62 = .ok (.ifCond .ne 7, 3) := by decide +kernel
theorem d_M_putNumber_65 : decode b_M_putNumber 65 = .ok (.iconst 1, 1) := by decide +kernel
theorem d_M_putNumber_66 : decode b_M_putNumber 66 = .ok (.goto 4, 3) := by decide +kernel
theorem d_M_putNumber_69 : decode b_M_putNumber 69 = .ok (.iconst 0, 1) := by decide +kernel
theorem d_M_putNumber_70 : decode b_M_putNumber 70 = .ok (.istore 6, 2) := by decide +kernel
theorem d_M_putNumber_72 : decode b_M_putNumber 72 = .ok (.goto (-61), 3) := by decide +kernel
theorem d_M_putNumber_75 : decode b_M_putNumber 75 = .ok (.aload_n 0, 1) := by decide +kernel
theorem d_M_putNumber_76 : decode b_M_putNumber 76 = .ok (.iconst 2, 1) := by decide +kernel
theorem d_M_putNumber_77 : decode b_M_putNumber 77 = .ok (.iload_n 3, 1) := by decide +kernel
theorem d_M_putNumber_78 : decode b_M_putNumber 78 = .ok (.invokevirtual 559, 3) := by decide +kernel
theorem d_M_putNumber_81 : decode b_M_putNumber 81 = .ok (.return_, 1) := by decide +kernel
abbrev b_M_numberField : ByteArray := prog_14_method_65_code
def y_M_numberField : MethodName := ⟨R_M, "numberField", "(IJ)V"⟩
abbrev k_M_numberField : Cond := .code y_M_numberField b_M_numberField 5 none
theorem ki_M_numberField : k_M_numberField ∈ lw_tg := in_t 2605 (by decide +kernel)
theorem ks_M_numberField : Cond.instanceMethod y_M_numberField ∈ lw_tg := in_t 2604 (by decide +kernel)
theorem kx_M_numberField : Cond.selects R_M y_M_numberField y_M_numberField ∈ lw_tg := List.mem_filter.mpr ⟨List.mem_append_left _ (List.mem_of_getElem? (i := 144) (by decide +kernel)), rfl⟩
theorem kl_M_numberField : Cond.methodLink R_M 588 y_M_numberField ∈ lw_tg := in_t 2602 (by decide +kernel)
theorem hd_M_numberField : y_M_numberField.cls = R_M ∧ y_M_numberField.cls ≠ "java/lang/invoke/MethodHandle" ∧ y_M_numberField.cls ≠ "java/lang/invoke/VarHandle" ∧ (parseMethodDescriptor y_M_numberField.desc).map (fun d => d.parameters.length) = some 2 := by decide +kernel
theorem d_M_numberField_0 : decode b_M_numberField 0 = .ok (.aload_n 0, 1) := by decide +kernel
theorem d_M_numberField_1 : decode b_M_numberField 1 = .ok (.getfield 553, 3) := by decide +kernel
theorem d_M_numberField_4 : decode b_M_numberField 4 = .ok (.istore 4, 2) := by decide +kernel
theorem d_M_numberField_6 : decode b_M_numberField 6 = .ok (.aload_n 0, 1) := by decide +kernel
theorem d_M_numberField_7 : decode b_M_numberField 7 = .ok (.lload_n 2, 1) := by decide +kernel
theorem d_M_numberField_8 : decode b_M_numberField 8 = .ok (.invokevirtual 563, 3) := by decide +kernel
theorem d_M_numberField_11 : decode b_M_numberField 11 = .ok (.aload_n 0, 1) := by decide +kernel
theorem d_M_numberField_12 : decode b_M_numberField 12 = .ok (.iload_n 1, 1) := by decide +kernel
theorem d_M_numberField_13 : decode b_M_numberField 13 = .ok (.iload 4, 2) := by decide +kernel
theorem d_M_numberField_15 : decode b_M_numberField 15 = .ok (.invokevirtual 567, 3) := by decide +kernel
theorem d_M_numberField_18 : decode b_M_numberField 18 = .ok (.return_, 1) := by decide +kernel
abbrev b_M_putWord : ByteArray := prog_14_method_66_code
def y_M_putWord : MethodName := ⟨R_M, "putWord", "(Ljava/lang/String;)V"⟩
abbrev k_M_putWord : Cond := .code y_M_putWord b_M_putWord 4 none
theorem ki_M_putWord : k_M_putWord ∈ lw_tg := in_t 2617 (by decide +kernel)
theorem ks_M_putWord : Cond.instanceMethod y_M_putWord ∈ lw_tg := in_t 2616 (by decide +kernel)
theorem kx_M_putWord : Cond.selects R_M y_M_putWord y_M_putWord ∈ lw_tg := List.mem_filter.mpr ⟨List.mem_append_left _ (List.mem_of_getElem? (i := 147) (by decide +kernel)), rfl⟩
theorem kl_M_putWord : Cond.methodLink R_M 570 y_M_putWord ∈ lw_tg := in_t 2614 (by decide +kernel)
theorem hd_M_putWord : y_M_putWord.cls = R_M ∧ y_M_putWord.cls ≠ "java/lang/invoke/MethodHandle" ∧ y_M_putWord.cls ≠ "java/lang/invoke/VarHandle" ∧ (parseMethodDescriptor y_M_putWord.desc).map (fun d => d.parameters.length) = some 1 := by decide +kernel
theorem d_M_putWord_0 : decode b_M_putWord 0 = .ok (.aload_n 0, 1) := by decide +kernel
theorem d_M_putWord_1 : decode b_M_putWord 1 = .ok (.getfield 553, 3) := by decide +kernel
theorem d_M_putWord_4 : decode b_M_putWord 4 = .ok (.istore_n 2, 1) := by decide +kernel
theorem d_M_putWord_5 : decode b_M_putWord 5 = .ok (.aload_n 1, 1) := by decide +kernel
theorem d_M_putWord_6 : decode b_M_putWord 6 = .ok (.invokevirtual 339, 3) := by decide +kernel
theorem d_M_putWord_9 : decode b_M_putWord 9 = .ok (.iconst 1, 1) := by decide +kernel
theorem d_M_putWord_10 : decode b_M_putWord 10 = .ok (.isub, 1) := by decide +kernel
theorem d_M_putWord_11 : decode b_M_putWord 11 = .ok (.istore_n 3, 1) := by decide +kernel
theorem d_M_putWord_12 : decode b_M_putWord 12 = .ok (.iload_n 3, 1) := by decide +kernel
theorem d_M_putWord_13 : decode b_M_putWord 13 = .ok (.ifCond .lt 18, 3) := by decide +kernel
theorem d_M_putWord_16 : decode b_M_putWord 16 = .ok (.aload_n 0, 1) := by decide +kernel
theorem d_M_putWord_17 : decode b_M_putWord 17 = .ok (.aload_n 1, 1) := by decide +kernel
theorem d_M_putWord_18 : decode b_M_putWord 18 = .ok (.iload_n 3, 1) := by decide +kernel
theorem d_M_putWord_19 : decode b_M_putWord 19 = .ok (.invokevirtual 344, 3) := by decide +kernel
theorem d_M_putWord_22 : decode b_M_putWord 22 = .ok (.invokevirtual 556, 3) := by decide +kernel
theorem d_M_putWord_25 : decode b_M_putWord 25 = .ok (.iinc 3 (-1), 3) := by decide +kernel
theorem d_M_putWord_28 : decode b_M_putWord 28 = .ok (.goto (-16), 3) := by decide +kernel
theorem d_M_putWord_31 : decode b_M_putWord 31 = .ok (.aload_n 0, 1) := by decide +kernel
theorem d_M_putWord_32 : decode b_M_putWord 32 = .ok (.bipush 27, 2) := by decide +kernel
theorem d_M_putWord_34 : decode b_M_putWord 34 = .ok (.iload_n 2, 1) := by decide +kernel
theorem d_M_putWord_35 : decode b_M_putWord 35 = .ok (.invokevirtual 559, 3) := by decide +kernel
theorem d_M_putWord_38 : decode b_M_putWord 38 = .ok (.return_, 1) := by decide +kernel
abbrev b_M_wordField : ByteArray := prog_14_method_67_code
def y_M_wordField : MethodName := ⟨R_M, "wordField", "(ILjava/lang/String;)V"⟩
abbrev k_M_wordField : Cond := .code y_M_wordField b_M_wordField 4 none
theorem ki_M_wordField : k_M_wordField ∈ lw_tg := in_t 2613 (by decide +kernel)
theorem ks_M_wordField : Cond.instanceMethod y_M_wordField ∈ lw_tg := in_t 2612 (by decide +kernel)
theorem kx_M_wordField : Cond.selects R_M y_M_wordField y_M_wordField ∈ lw_tg := List.mem_filter.mpr ⟨List.mem_append_left _ (List.mem_of_getElem? (i := 146) (by decide +kernel)), rfl⟩
theorem kl_M_wordField : Cond.methodLink R_M 878 y_M_wordField ∈ lw_tg := in_t 2610 (by decide +kernel)
theorem hd_M_wordField : y_M_wordField.cls = R_M ∧ y_M_wordField.cls ≠ "java/lang/invoke/MethodHandle" ∧ y_M_wordField.cls ≠ "java/lang/invoke/VarHandle" ∧ (parseMethodDescriptor y_M_wordField.desc).map (fun d => d.parameters.length) = some 2 := by decide +kernel
theorem d_M_wordField_0 : decode b_M_wordField 0 = .ok (.aload_n 0, 1) := by decide +kernel
theorem d_M_wordField_1 : decode b_M_wordField 1 = .ok (.getfield 553, 3) := by decide +kernel
theorem d_M_wordField_4 : decode b_M_wordField 4 = .ok (.istore_n 3, 1) := by decide +kernel
theorem d_M_wordField_5 : decode b_M_wordField 5 = .ok (.aload_n 0, 1) := by decide +kernel
theorem d_M_wordField_6 : decode b_M_wordField 6 = .ok (.aload_n 2, 1) := by decide +kernel
theorem d_M_wordField_7 : decode b_M_wordField 7 = .ok (.invokevirtual 570, 3) := by decide +kernel
theorem d_M_wordField_10 : decode b_M_wordField 10 = .ok (.aload_n 0, 1) := by decide +kernel
theorem d_M_wordField_11 : decode b_M_wordField 11 = .ok (.iload_n 1, 1) := by decide +kernel
theorem d_M_wordField_12 : decode b_M_wordField 12 = .ok (.iload_n 3, 1) := by decide +kernel
theorem d_M_wordField_13 : decode b_M_wordField 13 = .ok (.invokevirtual 567, 3) := by decide +kernel
theorem d_M_wordField_16 : decode b_M_wordField 16 = .ok (.return_, 1) := by decide +kernel
abbrev b_M_putBytes : ByteArray := prog_14_method_68_code
def y_M_putBytes : MethodName := ⟨R_M, "putBytes", "([BII)V"⟩
abbrev k_M_putBytes : Cond := .code y_M_putBytes b_M_putBytes 5 none
theorem ki_M_putBytes : k_M_putBytes ∈ lw_tg := in_t 2573 (by decide +kernel)
theorem ks_M_putBytes : Cond.instanceMethod y_M_putBytes ∈ lw_tg := in_t 2572 (by decide +kernel)
theorem kx_M_putBytes : Cond.selects R_M y_M_putBytes y_M_putBytes ∈ lw_tg := List.mem_filter.mpr ⟨List.mem_append_left _ (List.mem_of_getElem? (i := 136) (by decide +kernel)), rfl⟩
theorem kl_M_putBytes : Cond.methodLink R_M 574 y_M_putBytes ∈ lw_tg := in_t 2570 (by decide +kernel)
theorem hd_M_putBytes : y_M_putBytes.cls = R_M ∧ y_M_putBytes.cls ≠ "java/lang/invoke/MethodHandle" ∧ y_M_putBytes.cls ≠ "java/lang/invoke/VarHandle" ∧ (parseMethodDescriptor y_M_putBytes.desc).map (fun d => d.parameters.length) = some 3 := by decide +kernel
theorem d_M_putBytes_0 : decode b_M_putBytes 0 = .ok (.iload_n 3, 1) := by decide +kernel
theorem d_M_putBytes_1 : decode b_M_putBytes 1 = .ok (.iconst 1, 1) := by decide +kernel
theorem d_M_putBytes_2 : decode b_M_putBytes 2 = .ok (.isub, 1) := by decide +kernel
theorem d_M_putBytes_3 : decode b_M_putBytes 3 = .ok (.istore 4, 2) := by decide +kernel
theorem d_M_putBytes_5 : decode b_M_putBytes 5 = .ok (.iload 4, 2) := by decide +kernel
theorem d_M_putBytes_7 : decode b_M_putBytes 7 = .ok (.ifCond .lt 19, 3) := by decide +kernel
theorem d_M_putBytes_10 : decode b_M_putBytes 10 = .ok (.aload_n 0, 1) := by decide +kernel
theorem d_M_putBytes_11 : decode b_M_putBytes 11 = .ok (.aload_n 1, 1) := by decide +kernel
theorem d_M_putBytes_12 : decode b_M_putBytes 12 = .ok (.iload_n 2, 1) := by decide +kernel
theorem d_M_putBytes_13 : decode b_M_putBytes 13 = .ok (.iload 4, 2) := by decide +kernel
theorem d_M_putBytes_15 : decode b_M_putBytes 15 = .ok (.iadd, 1) := by decide +kernel
theorem d_M_putBytes_16 : decode b_M_putBytes 16 = .ok (.baload, 1) := by decide +kernel
theorem d_M_putBytes_17 : decode b_M_putBytes 17 = .ok (.invokevirtual 556, 3) := by decide +kernel
theorem d_M_putBytes_20 : decode b_M_putBytes 20 = .ok (.iinc 4 (-1), 3) := by decide +kernel
theorem d_M_putBytes_23 : decode b_M_putBytes 23 = .ok (.goto (-18), 3) := by decide +kernel
theorem d_M_putBytes_26 : decode b_M_putBytes 26 = .ok (.return_, 1) := by decide +kernel
abbrev b_M_octetField : ByteArray := prog_14_method_69_code
def y_M_octetField : MethodName := ⟨R_M, "octetField", "(I[BII)V"⟩
abbrev k_M_octetField : Cond := .code y_M_octetField b_M_octetField 6 none
theorem ki_M_octetField : k_M_octetField ∈ lw_tg := in_t 2601 (by decide +kernel)
theorem ks_M_octetField : Cond.instanceMethod y_M_octetField ∈ lw_tg := in_t 2600 (by decide +kernel)
theorem kx_M_octetField : Cond.selects R_M y_M_octetField y_M_octetField ∈ lw_tg := List.mem_filter.mpr ⟨List.mem_append_left _ (List.mem_of_getElem? (i := 143) (by decide +kernel)), rfl⟩
theorem kl_M_octetField : Cond.methodLink R_M 584 y_M_octetField ∈ lw_tg := in_t 2598 (by decide +kernel)
theorem hd_M_octetField : y_M_octetField.cls = R_M ∧ y_M_octetField.cls ≠ "java/lang/invoke/MethodHandle" ∧ y_M_octetField.cls ≠ "java/lang/invoke/VarHandle" ∧ (parseMethodDescriptor y_M_octetField.desc).map (fun d => d.parameters.length) = some 4 := by decide +kernel
theorem d_M_octetField_0 : decode b_M_octetField 0 = .ok (.aload_n 0, 1) := by decide +kernel
theorem d_M_octetField_1 : decode b_M_octetField 1 = .ok (.getfield 553, 3) := by decide +kernel
theorem d_M_octetField_4 : decode b_M_octetField 4 = .ok (.istore 5, 2) := by decide +kernel
theorem d_M_octetField_6 : decode b_M_octetField 6 = .ok (.aload_n 0, 1) := by decide +kernel
theorem d_M_octetField_7 : decode b_M_octetField 7 = .ok (.aload_n 2, 1) := by decide +kernel
theorem d_M_octetField_8 : decode b_M_octetField 8 = .ok (.iload_n 3, 1) := by decide +kernel
theorem d_M_octetField_9 : decode b_M_octetField 9 = .ok (.iload 4, 2) := by decide +kernel
theorem d_M_octetField_11 : decode b_M_octetField 11 = .ok (.invokevirtual 574, 3) := by decide +kernel
theorem d_M_octetField_14 : decode b_M_octetField 14 = .ok (.aload_n 0, 1) := by decide +kernel
theorem d_M_octetField_15 : decode b_M_octetField 15 = .ok (.iconst 4, 1) := by decide +kernel
theorem d_M_octetField_16 : decode b_M_octetField 16 = .ok (.iload 5, 2) := by decide +kernel
theorem d_M_octetField_18 : decode b_M_octetField 18 = .ok (.invokevirtual 559, 3) := by decide +kernel
theorem d_M_octetField_21 : decode b_M_octetField 21 = .ok (.aload_n 0, 1) := by decide +kernel
theorem d_M_octetField_22 : decode b_M_octetField 22 = .ok (.iload_n 1, 1) := by decide +kernel
theorem d_M_octetField_23 : decode b_M_octetField 23 = .ok (.iload 5, 2) := by decide +kernel
theorem d_M_octetField_25 : decode b_M_octetField 25 = .ok (.invokevirtual 567, 3) := by decide +kernel
theorem d_M_octetField_28 : decode b_M_octetField 28 = .ok (.return_, 1) := by decide +kernel
abbrev b_M_copyField : ByteArray := prog_14_method_70_code
def y_M_copyField : MethodName := ⟨R_M, "copyField", "(III)V"⟩
abbrev k_M_copyField : Cond := .code y_M_copyField b_M_copyField 5 none
theorem ki_M_copyField : k_M_copyField ∈ lw_tg := in_t 2569 (by decide +kernel)
theorem ks_M_copyField : Cond.instanceMethod y_M_copyField ∈ lw_tg := in_t 2568 (by decide +kernel)
theorem kx_M_copyField : Cond.selects R_M y_M_copyField y_M_copyField ∈ lw_tg := List.mem_filter.mpr ⟨List.mem_append_left _ (List.mem_of_getElem? (i := 135) (by decide +kernel)), rfl⟩
theorem kl_M_copyField : Cond.methodLink R_M 874 y_M_copyField ∈ lw_tg := in_t 2566 (by decide +kernel)
theorem hd_M_copyField : y_M_copyField.cls = R_M ∧ y_M_copyField.cls ≠ "java/lang/invoke/MethodHandle" ∧ y_M_copyField.cls ≠ "java/lang/invoke/VarHandle" ∧ (parseMethodDescriptor y_M_copyField.desc).map (fun d => d.parameters.length) = some 3 := by decide +kernel
theorem d_M_copyField_0 : decode b_M_copyField 0 = .ok (.aload_n 0, 1) := by decide +kernel
theorem d_M_copyField_1 : decode b_M_copyField 1 = .ok (.getfield 553, 3) := by decide +kernel
theorem d_M_copyField_4 : decode b_M_copyField 4 = .ok (.istore 4, 2) := by decide +kernel
theorem d_M_copyField_6 : decode b_M_copyField 6 = .ok (.aload_n 0, 1) := by decide +kernel
theorem d_M_copyField_7 : decode b_M_copyField 7 = .ok (.aload_n 0, 1) := by decide +kernel
theorem d_M_copyField_8 : decode b_M_copyField 8 = .ok (.getfield 10, 3) := by decide +kernel
theorem d_M_copyField_11 : decode b_M_copyField 11 = .ok (.iload_n 2, 1) := by decide +kernel
theorem d_M_copyField_12 : decode b_M_copyField 12 = .ok (.iload_n 3, 1) := by decide +kernel
theorem d_M_copyField_13 : decode b_M_copyField 13 = .ok (.iload_n 2, 1) := by decide +kernel
theorem d_M_copyField_14 : decode b_M_copyField 14 = .ok (.isub, 1) := by decide +kernel
theorem d_M_copyField_15 : decode b_M_copyField 15 = .ok (.invokevirtual 574, 3) := by decide +kernel
theorem d_M_copyField_18 : decode b_M_copyField 18 = .ok (.aload_n 0, 1) := by decide +kernel
theorem d_M_copyField_19 : decode b_M_copyField 19 = .ok (.iload_n 1, 1) := by decide +kernel
theorem d_M_copyField_20 : decode b_M_copyField 20 = .ok (.iload 4, 2) := by decide +kernel
theorem d_M_copyField_22 : decode b_M_copyField 22 = .ok (.invokevirtual 567, 3) := by decide +kernel
theorem d_M_copyField_25 : decode b_M_copyField 25 = .ok (.return_, 1) := by decide +kernel
abbrev b_M_timeField : ByteArray := prog_14_method_71_code
def y_M_timeField : MethodName := ⟨R_M, "timeField", "(IJ)V"⟩
abbrev k_M_timeField : Cond := .code y_M_timeField b_M_timeField 5 none
theorem ki_M_timeField : k_M_timeField ∈ lw_tg := in_t 2589 (by decide +kernel)
theorem ks_M_timeField : Cond.instanceMethod y_M_timeField ∈ lw_tg := in_t 2588 (by decide +kernel)
theorem kx_M_timeField : Cond.selects R_M y_M_timeField y_M_timeField ∈ lw_tg := List.mem_filter.mpr ⟨List.mem_append_left _ (List.mem_of_getElem? (i := 140) (by decide +kernel)), rfl⟩
theorem kl_M_timeField : Cond.methodLink R_M 884 y_M_timeField ∈ lw_tg := in_t 2586 (by decide +kernel)
theorem hd_M_timeField : y_M_timeField.cls = R_M ∧ y_M_timeField.cls ≠ "java/lang/invoke/MethodHandle" ∧ y_M_timeField.cls ≠ "java/lang/invoke/VarHandle" ∧ (parseMethodDescriptor y_M_timeField.desc).map (fun d => d.parameters.length) = some 2 := by decide +kernel
theorem d_M_timeField_0 : decode b_M_timeField 0 = .ok (.aload_n 0, 1) := by decide +kernel
theorem d_M_timeField_1 : decode b_M_timeField 1 = .ok (.getfield 553, 3) := by decide +kernel
theorem d_M_timeField_4 : decode b_M_timeField 4 = .ok (.istore 4, 2) := by decide +kernel
theorem d_M_timeField_6 : decode b_M_timeField 6 = .ok (.aload_n 0, 1) := by decide +kernel
theorem d_M_timeField_7 : decode b_M_timeField 7 = .ok (.lload_n 2, 1) := by decide +kernel
theorem d_M_timeField_8 : decode b_M_timeField 8 = .ok (.invokevirtual 578, 3) := by decide +kernel
theorem d_M_timeField_11 : decode b_M_timeField 11 = .ok (.aload_n 0, 1) := by decide +kernel
theorem d_M_timeField_12 : decode b_M_timeField 12 = .ok (.iload_n 1, 1) := by decide +kernel
theorem d_M_timeField_13 : decode b_M_timeField 13 = .ok (.iload 4, 2) := by decide +kernel
theorem d_M_timeField_15 : decode b_M_timeField 15 = .ok (.invokevirtual 567, 3) := by decide +kernel
theorem d_M_timeField_18 : decode b_M_timeField 18 = .ok (.return_, 1) := by decide +kernel
abbrev b_M_putTime : ByteArray := prog_14_method_72_code
def y_M_putTime : MethodName := ⟨R_M, "putTime", "(J)V"⟩
abbrev k_M_putTime : Cond := .code y_M_putTime b_M_putTime 8 none
theorem ki_M_putTime : k_M_putTime ∈ lw_tg := in_t 2593 (by decide +kernel)
theorem ks_M_putTime : Cond.instanceMethod y_M_putTime ∈ lw_tg := in_t 2592 (by decide +kernel)
theorem kx_M_putTime : Cond.selects R_M y_M_putTime y_M_putTime ∈ lw_tg := List.mem_filter.mpr ⟨List.mem_append_left _ (List.mem_of_getElem? (i := 141) (by decide +kernel)), rfl⟩
theorem kl_M_putTime : Cond.methodLink R_M 578 y_M_putTime ∈ lw_tg := in_t 2590 (by decide +kernel)
theorem hd_M_putTime : y_M_putTime.cls = R_M ∧ y_M_putTime.cls ≠ "java/lang/invoke/MethodHandle" ∧ y_M_putTime.cls ≠ "java/lang/invoke/VarHandle" ∧ (parseMethodDescriptor y_M_putTime.desc).map (fun d => d.parameters.length) = some 1 := by decide +kernel
theorem d_M_putTime_0 : decode b_M_putTime 0 = .ok (.aload_n 0, 1) := by decide +kernel
theorem d_M_putTime_1 : decode b_M_putTime 1 = .ok (.getfield 553, 3) := by decide +kernel
theorem d_M_putTime_4 : decode b_M_putTime 4 = .ok (.istore_n 3, 1) := by decide +kernel
theorem d_M_putTime_5 : decode b_M_putTime 5 = .ok (.lload_n 1, 1) := by decide +kernel
theorem d_M_putTime_6 : decode b_M_putTime 6 = .ok (.ldc2_w 464, 3) := by decide +kernel
theorem d_M_putTime_9 : decode b_M_putTime 9 = .ok (.ldiv, 1) := by decide +kernel
theorem d_M_putTime_10 : decode b_M_putTime 10 = .ok (.l2i, 1) := by decide +kernel
theorem d_M_putTime_11 : decode b_M_putTime 11 = .ok (.istore 4, 2) := by decide +kernel
theorem d_M_putTime_13 : decode b_M_putTime 13 = .ok (.lload_n 1, 1) := by decide +kernel
theorem d_M_putTime_14 : decode b_M_putTime 14 = .ok (.ldc2_w 464, 3) := by decide +kernel
theorem d_M_putTime_17 : decode b_M_putTime 17 = .ok (.lrem, 1) := by decide +kernel
theorem d_M_putTime_18 : decode b_M_putTime 18 = .ok (.l2i, 1) := by decide +kernel
theorem d_M_putTime_19 : decode b_M_putTime 19 = .ok (.istore 5, 2) := by decide +kernel
theorem d_M_putTime_21 : decode b_M_putTime 21 = .ok (.sipush 1970, 3) := by decide +kernel
theorem d_M_putTime_24 : decode b_M_putTime 24 = .ok (.istore 6, 2) := by decide +kernel
theorem d_M_putTime_26 : decode b_M_putTime 26 = .ok (.iload 4, 2) := by decide +kernel
theorem d_M_putTime_28 : decode b_M_putTime 28 = .ok (.iload 6, 2) := by decide +kernel
theorem d_M_putTime_30 : decode b_M_putTime 30 = .ok (.iconst 4, 1) := by decide +kernel
theorem d_M_putTime_31 : decode b_M_putTime 31 = .ok (.irem, 1) := by decide +kernel
theorem d_M_putTime_32 : decode b_M_putTime 32 = .ok (.ifCond .ne 17, 3) := by decide +kernel
theorem d_M_putTime_35 : decode b_M_putTime 35 = .ok (.iload 6, 2) := by decide +kernel
theorem d_M_putTime_37 : decode b_M_putTime 37 = .ok (.sipush 2100, 3) := by decide +kernel
theorem d_M_putTime_40 : decode b_M_putTime 40 = .ok (.if_icmp .eq 9, 3) := by decide +kernel
theorem d_M_putTime_43 : decode b_M_putTime 43 = .ok (.sipush 366, 3) := by decide +kernel
theorem d_M_putTime_46 : decode b_M_putTime 46 = .ok (.goto 6, 3) := by decide +kernel
theorem d_M_putTime_49 : decode b_M_putTime 49 = .ok (.sipush 365, 3) := by decide +kernel
theorem d_M_putTime_52 : decode b_M_putTime 52 = .ok (.if_icmp .lt 38, 3) := by decide +kernel
theorem d_M_putTime_55 : decode b_M_putTime 55 = .ok (.iload 4, 2) := by decide +kernel
theorem d_M_putTime_57 : decode b_M_putTime 57 = .ok (.iload 6, 2) := by decide +kernel
theorem d_M_putTime_59 : decode b_M_putTime 59 = .ok (.iconst 4, 1) := by decide +kernel
theorem d_M_putTime_60 : decode b_M_putTime 60 = .ok (.irem, 1) := by decide +kernel
theorem d_M_putTime_61 : decode b_M_putTime 61 = .ok (.ifCond .ne 17, 3) := by decide +kernel
theorem d_M_putTime_64 : decode b_M_putTime 64 = .ok (.iload 6, 2) := by decide +kernel
theorem d_M_putTime_66 : decode b_M_putTime 66 = .ok (.sipush 2100, 3) := by decide +kernel
theorem d_M_putTime_69 : decode b_M_putTime 69 = .ok (.if_icmp .eq 9, 3) := by decide +kernel
theorem d_M_putTime_72 : decode b_M_putTime 72 = .ok (.sipush 366, 3) := by decide +kernel
theorem d_M_putTime_75 : decode b_M_putTime 75 = .ok (.goto 6, 3) := by decide +kernel
theorem d_M_putTime_78 : decode b_M_putTime 78 = .ok (.sipush 365, 3) := by decide +kernel
theorem d_M_putTime_81 : decode b_M_putTime 81 = .ok (.isub, 1) := by decide +kernel
theorem d_M_putTime_82 : decode b_M_putTime 82 = .ok (.istore 4, 2) := by decide +kernel
theorem d_M_putTime_84 : decode b_M_putTime 84 = .ok (.iinc 6 1, 3) := by decide +kernel
theorem d_M_putTime_87 : decode b_M_putTime 87 = .ok (.goto (-61), 3) := by decide +kernel
theorem d_M_putTime_90 : decode b_M_putTime 90 = .ok (.iconst 1, 1) := by decide +kernel
theorem d_M_putTime_91 : decode b_M_putTime 91 = .ok (.istore 7, 2) := by decide +kernel
theorem d_M_putTime_93 : decode b_M_putTime 93 = .ok (.iload 4, 2) := by decide +kernel
theorem d_M_putTime_95 : decode b_M_putTime 95 = .ok (.iload 6, 2) := by decide +kernel
theorem d_M_putTime_97 : decode b_M_putTime 97 = .ok (.iload 7, 2) := by decide +kernel
theorem d_M_putTime_99 : decode b_M_putTime 99 = .ok (.invokestatic 456, 3) := by decide +kernel
theorem d_M_putTime_102 : decode b_M_putTime 102 = .ok (.if_icmp .lt 21, 3) := by decide +kernel
theorem d_M_putTime_105 : decode b_M_putTime 105 = .ok (.iload 4, 2) := by decide +kernel
theorem d_M_putTime_107 : decode b_M_putTime 107 = .ok (.iload 6, 2) := by decide +kernel
theorem d_M_putTime_109 : decode b_M_putTime 109 = .ok (.iload 7, 2) := by decide +kernel
theorem d_M_putTime_111 : decode b_M_putTime 111 = .ok (.invokestatic 456, 3) := by decide +kernel
theorem d_M_putTime_114 : decode b_M_putTime 114 = .ok (.isub, 1) := by decide +kernel
theorem d_M_putTime_115 : decode b_M_putTime 115 = .ok (.istore 4, 2) := by decide +kernel
theorem d_M_putTime_117 : decode b_M_putTime 117 = .ok (.iinc 7 1, 3) := by decide +kernel
theorem d_M_putTime_120 : decode b_M_putTime 120 = .ok (.goto (-27), 3) := by decide +kernel
theorem d_M_putTime_123 : decode b_M_putTime 123 = .ok (.aload_n 0, 1) := by decide +kernel
theorem d_M_putTime_124 : decode b_M_putTime 124 = .ok (.bipush 90, 2) := by decide +kernel
theorem d_M_putTime_126 : decode b_M_putTime 126 = .ok (.invokevirtual 556, 3) := by decide +kernel
theorem d_M_putTime_129 : decode b_M_putTime 129 = .ok (.aload_n 0, 1) := by decide +kernel
theorem d_M_putTime_130 : decode b_M_putTime 130 = .ok (.iload 5, 2) := by decide +kernel
theorem d_M_putTime_132 : decode b_M_putTime 132 = .ok (.bipush 60, 2) := by decide +kernel
theorem d_M_putTime_134 : decode b_M_putTime 134 = .ok (.irem, 1) := by decide +kernel
theorem d_M_putTime_135 : decode b_M_putTime 135 = .ok (.invokevirtual 581, 3) := by decide +kernel
theorem d_M_putTime_138 : decode b_M_putTime 138 = .ok (.aload_n 0, 1) := by decide +kernel
theorem d_M_putTime_139 : decode b_M_putTime 139 = .ok (.iload 5, 2) := by decide +kernel
theorem d_M_putTime_141 : decode b_M_putTime 141 = .ok (.bipush 60, 2) := by decide +kernel
theorem d_M_putTime_143 : decode b_M_putTime 143 = .ok (.idiv, 1) := by decide +kernel
theorem d_M_putTime_144 : decode b_M_putTime 144 = .ok (.bipush 60, 2) := by decide +kernel
theorem d_M_putTime_146 : decode b_M_putTime 146 = .ok (.irem, 1) := by decide +kernel
theorem d_M_putTime_147 : decode b_M_putTime 147 = .ok (.invokevirtual 581, 3) := by decide +kernel
theorem d_M_putTime_150 : decode b_M_putTime 150 = .ok (.aload_n 0, 1) := by decide +kernel
theorem d_M_putTime_151 : decode b_M_putTime 151 = .ok (.iload 5, 2) := by decide +kernel
theorem d_M_putTime_153 : decode b_M_putTime 153 = .ok (.sipush 3600, 3) := by decide +kernel
theorem d_M_putTime_156 : decode b_M_putTime 156 = .ok (.idiv, 1) := by decide +kernel
theorem d_M_putTime_157 : decode b_M_putTime 157 = .ok (.invokevirtual 581, 3) := by decide +kernel
theorem d_M_putTime_160 : decode b_M_putTime 160 = .ok (.aload_n 0, 1) := by decide +kernel
theorem d_M_putTime_161 : decode b_M_putTime 161 = .ok (.iload 4, 2) := by decide +kernel
theorem d_M_putTime_163 : decode b_M_putTime 163 = .ok (.iconst 1, 1) := by decide +kernel
theorem d_M_putTime_164 : decode b_M_putTime 164 = .ok (.iadd, 1) := by decide +kernel
theorem d_M_putTime_165 : decode b_M_putTime 165 = .ok (.invokevirtual 581, 3) := by decide +kernel
theorem d_M_putTime_168 : decode b_M_putTime 168 = .ok (.aload_n 0, 1) := by decide +kernel
theorem d_M_putTime_169 : decode b_M_putTime 169 = .ok (.iload 7, 2) := by decide +kernel
theorem d_M_putTime_171 : decode b_M_putTime 171 = .ok (.invokevirtual 581, 3) := by decide +kernel
theorem d_M_putTime_174 : decode b_M_putTime 174 = .ok (.aload_n 0, 1) := by decide +kernel
theorem d_M_putTime_175 : decode b_M_putTime 175 = .ok (.iload 6, 2) := by decide +kernel
theorem d_M_putTime_177 : decode b_M_putTime 177 = .ok (.bipush 100, 2) := by decide +kernel
theorem d_M_putTime_179 : decode b_M_putTime 179 = .ok (.irem, 1) := by decide +kernel
theorem d_M_putTime_180 : decode b_M_putTime 180 = .ok (.invokevirtual 581, 3) := by decide +kernel
theorem d_M_putTime_183 : decode b_M_putTime 183 = .ok (.aload_n 0, 1) := by decide +kernel
theorem d_M_putTime_184 : decode b_M_putTime 184 = .ok (.iload 6, 2) := by decide +kernel
theorem d_M_putTime_186 : decode b_M_putTime 186 = .ok (.bipush 100, 2) := by decide +kernel
theorem d_M_putTime_188 : decode b_M_putTime 188 = .ok (.idiv, 1) := by decide +kernel
theorem d_M_putTime_189 : decode b_M_putTime 189 = .ok (.invokevirtual 581, 3) := by decide +kernel
theorem d_M_putTime_192 : decode b_M_putTime 192 = .ok (.aload_n 0, 1) := by decide +kernel
theorem d_M_putTime_193 : decode b_M_putTime 193 = .ok (.bipush 24, 2) := by decide +kernel
theorem d_M_putTime_195 : decode b_M_putTime 195 = .ok (.iload_n 3, 1) := by decide +kernel
theorem d_M_putTime_196 : decode b_M_putTime 196 = .ok (.invokevirtual 559, 3) := by decide +kernel
theorem d_M_putTime_199 : decode b_M_putTime 199 = .ok (.return_, 1) := by decide +kernel
abbrev b_M_putTwo : ByteArray := prog_14_method_73_code
def y_M_putTwo : MethodName := ⟨R_M, "putTwo", "(I)V"⟩
abbrev k_M_putTwo : Cond := .code y_M_putTwo b_M_putTwo 2 none
theorem ki_M_putTwo : k_M_putTwo ∈ lw_tg := in_t 2597 (by decide +kernel)
theorem ks_M_putTwo : Cond.instanceMethod y_M_putTwo ∈ lw_tg := in_t 2596 (by decide +kernel)
theorem kx_M_putTwo : Cond.selects R_M y_M_putTwo y_M_putTwo ∈ lw_tg := List.mem_filter.mpr ⟨List.mem_append_left _ (List.mem_of_getElem? (i := 142) (by decide +kernel)), rfl⟩
theorem kl_M_putTwo : Cond.methodLink R_M 581 y_M_putTwo ∈ lw_tg := in_t 2594 (by decide +kernel)
theorem hd_M_putTwo : y_M_putTwo.cls = R_M ∧ y_M_putTwo.cls ≠ "java/lang/invoke/MethodHandle" ∧ y_M_putTwo.cls ≠ "java/lang/invoke/VarHandle" ∧ (parseMethodDescriptor y_M_putTwo.desc).map (fun d => d.parameters.length) = some 1 := by decide +kernel
theorem d_M_putTwo_0 : decode b_M_putTwo 0 = .ok (.aload_n 0, 1) := by decide +kernel
theorem d_M_putTwo_1 : decode b_M_putTwo 1 = .ok (.bipush 48, 2) := by decide +kernel
theorem d_M_putTwo_3 : decode b_M_putTwo 3 = .ok (.iload_n 1, 1) := by decide +kernel
theorem d_M_putTwo_4 : decode b_M_putTwo 4 = .ok (.bipush 10, 2) := by decide +kernel
theorem d_M_putTwo_6 : decode b_M_putTwo 6 = .ok (.irem, 1) := by decide +kernel
theorem d_M_putTwo_7 : decode b_M_putTwo 7 = .ok (.iadd, 1) := by decide +kernel
theorem d_M_putTwo_8 : decode b_M_putTwo 8 = .ok (.invokevirtual 556, 3) := by decide +kernel
theorem d_M_putTwo_11 : decode b_M_putTwo 11 = .ok (.aload_n 0, 1) := by decide +kernel
theorem d_M_putTwo_12 : decode b_M_putTwo 12 = .ok (.bipush 48, 2) := by decide +kernel
theorem d_M_putTwo_14 : decode b_M_putTwo 14 = .ok (.iload_n 1, 1) := by decide +kernel
theorem d_M_putTwo_15 : decode b_M_putTwo 15 = .ok (.bipush 10, 2) := by decide +kernel
theorem d_M_putTwo_17 : decode b_M_putTwo 17 = .ok (.idiv, 1) := by decide +kernel
theorem d_M_putTwo_18 : decode b_M_putTwo 18 = .ok (.iadd, 1) := by decide +kernel
theorem d_M_putTwo_19 : decode b_M_putTwo 19 = .ok (.invokevirtual 556, 3) := by decide +kernel
theorem d_M_putTwo_22 : decode b_M_putTwo 22 = .ok (.return_, 1) := by decide +kernel
abbrev b_M_flagsField : ByteArray := prog_14_method_74_code
def y_M_flagsField : MethodName := ⟨R_M, "flagsField", "(II)V"⟩
abbrev k_M_flagsField : Cond := .code y_M_flagsField b_M_flagsField 5 none
theorem ki_M_flagsField : k_M_flagsField ∈ lw_tg := in_t 2625 (by decide +kernel)
theorem ks_M_flagsField : Cond.instanceMethod y_M_flagsField ∈ lw_tg := in_t 2624 (by decide +kernel)
theorem kx_M_flagsField : Cond.selects R_M y_M_flagsField y_M_flagsField ∈ lw_tg := List.mem_filter.mpr ⟨List.mem_append_left _ (List.mem_of_getElem? (i := 149) (by decide +kernel)), rfl⟩
theorem kl_M_flagsField : Cond.methodLink R_M 890 y_M_flagsField ∈ lw_tg := in_t 2622 (by decide +kernel)
theorem hd_M_flagsField : y_M_flagsField.cls = R_M ∧ y_M_flagsField.cls ≠ "java/lang/invoke/MethodHandle" ∧ y_M_flagsField.cls ≠ "java/lang/invoke/VarHandle" ∧ (parseMethodDescriptor y_M_flagsField.desc).map (fun d => d.parameters.length) = some 2 := by decide +kernel
theorem d_M_flagsField_0 : decode b_M_flagsField 0 = .ok (.aload_n 0, 1) := by decide +kernel
theorem d_M_flagsField_1 : decode b_M_flagsField 1 = .ok (.getfield 553, 3) := by decide +kernel
theorem d_M_flagsField_4 : decode b_M_flagsField 4 = .ok (.istore_n 3, 1) := by decide +kernel
theorem d_M_flagsField_5 : decode b_M_flagsField 5 = .ok (.iconst 0, 1) := by decide +kernel
theorem d_M_flagsField_6 : decode b_M_flagsField 6 = .ok (.istore 4, 2) := by decide +kernel
theorem d_M_flagsField_8 : decode b_M_flagsField 8 = .ok (.iload 4, 2) := by decide +kernel
theorem d_M_flagsField_10 : decode b_M_flagsField 10 = .ok (.iconst 4, 1) := by decide +kernel
theorem d_M_flagsField_11 : decode b_M_flagsField 11 = .ok (.if_icmp .ge 20, 3) := by decide +kernel
theorem d_M_flagsField_14 : decode b_M_flagsField 14 = .ok (.aload_n 0, 1) := by decide +kernel
theorem d_M_flagsField_15 : decode b_M_flagsField 15 = .ok (.iload_n 2, 1) := by decide +kernel
theorem d_M_flagsField_16 : decode b_M_flagsField 16 = .ok (.bipush 8, 2) := by decide +kernel
theorem d_M_flagsField_18 : decode b_M_flagsField 18 = .ok (.iload 4, 2) := by decide +kernel
theorem d_M_flagsField_20 : decode b_M_flagsField 20 = .ok (.imul, 1) := by decide +kernel
theorem d_M_flagsField_21 : decode b_M_flagsField 21 = .ok (.iushr, 1) := by decide +kernel
theorem d_M_flagsField_22 : decode b_M_flagsField 22 = .ok (.invokevirtual 556, 3) := by decide +kernel
theorem d_M_flagsField_25 : decode b_M_flagsField 25 = .ok (.iinc 4 1, 3) := by decide +kernel
theorem d_M_flagsField_28 : decode b_M_flagsField 28 = .ok (.goto (-20), 3) := by decide +kernel
theorem d_M_flagsField_31 : decode b_M_flagsField 31 = .ok (.aload_n 0, 1) := by decide +kernel
theorem d_M_flagsField_32 : decode b_M_flagsField 32 = .ok (.iconst 0, 1) := by decide +kernel
theorem d_M_flagsField_33 : decode b_M_flagsField 33 = .ok (.invokevirtual 556, 3) := by decide +kernel
theorem d_M_flagsField_36 : decode b_M_flagsField 36 = .ok (.aload_n 0, 1) := by decide +kernel
theorem d_M_flagsField_37 : decode b_M_flagsField 37 = .ok (.iconst 3, 1) := by decide +kernel
theorem d_M_flagsField_38 : decode b_M_flagsField 38 = .ok (.iload_n 3, 1) := by decide +kernel
theorem d_M_flagsField_39 : decode b_M_flagsField 39 = .ok (.invokevirtual 559, 3) := by decide +kernel
theorem d_M_flagsField_42 : decode b_M_flagsField 42 = .ok (.aload_n 0, 1) := by decide +kernel
theorem d_M_flagsField_43 : decode b_M_flagsField 43 = .ok (.iload_n 1, 1) := by decide +kernel
theorem d_M_flagsField_44 : decode b_M_flagsField 44 = .ok (.iload_n 3, 1) := by decide +kernel
theorem d_M_flagsField_45 : decode b_M_flagsField 45 = .ok (.invokevirtual 567, 3) := by decide +kernel
theorem d_M_flagsField_48 : decode b_M_flagsField 48 = .ok (.return_, 1) := by decide +kernel
abbrev b_M_keyField : ByteArray := prog_14_method_75_code
def y_M_keyField : MethodName := ⟨R_M, "keyField", "(II[B)V"⟩
abbrev k_M_keyField : Cond := .code y_M_keyField b_M_keyField 5 none
theorem ki_M_keyField : k_M_keyField ∈ lw_tg := in_t 2621 (by decide +kernel)
theorem ks_M_keyField : Cond.instanceMethod y_M_keyField ∈ lw_tg := in_t 2620 (by decide +kernel)
theorem kx_M_keyField : Cond.selects R_M y_M_keyField y_M_keyField ∈ lw_tg := List.mem_filter.mpr ⟨List.mem_append_left _ (List.mem_of_getElem? (i := 148) (by decide +kernel)), rfl⟩
theorem kl_M_keyField : Cond.methodLink R_M 887 y_M_keyField ∈ lw_tg := in_t 2618 (by decide +kernel)
theorem hd_M_keyField : y_M_keyField.cls = R_M ∧ y_M_keyField.cls ≠ "java/lang/invoke/MethodHandle" ∧ y_M_keyField.cls ≠ "java/lang/invoke/VarHandle" ∧ (parseMethodDescriptor y_M_keyField.desc).map (fun d => d.parameters.length) = some 3 := by decide +kernel
theorem d_M_keyField_0 : decode b_M_keyField 0 = .ok (.aload_n 0, 1) := by decide +kernel
theorem d_M_keyField_1 : decode b_M_keyField 1 = .ok (.getfield 553, 3) := by decide +kernel
theorem d_M_keyField_4 : decode b_M_keyField 4 = .ok (.istore 4, 2) := by decide +kernel
theorem d_M_keyField_6 : decode b_M_keyField 6 = .ok (.aload_n 0, 1) := by decide +kernel
theorem d_M_keyField_7 : decode b_M_keyField 7 = .ok (.iconst 1, 1) := by decide +kernel
theorem d_M_keyField_8 : decode b_M_keyField 8 = .ok (.aload_n 3, 1) := by decide +kernel
theorem d_M_keyField_9 : decode b_M_keyField 9 = .ok (.iconst 0, 1) := by decide +kernel
theorem d_M_keyField_10 : decode b_M_keyField 10 = .ok (.iload_n 2, 1) := by decide +kernel
theorem d_M_keyField_11 : decode b_M_keyField 11 = .ok (.invokestatic 438, 3) := by decide +kernel
theorem d_M_keyField_14 : decode b_M_keyField 14 = .ok (.invokevirtual 584, 3) := by decide +kernel
theorem d_M_keyField_17 : decode b_M_keyField 17 = .ok (.aload_n 0, 1) := by decide +kernel
theorem d_M_keyField_18 : decode b_M_keyField 18 = .ok (.iconst 0, 1) := by decide +kernel
theorem d_M_keyField_19 : decode b_M_keyField 19 = .ok (.iload_n 2, 1) := by decide +kernel
theorem d_M_keyField_20 : decode b_M_keyField 20 = .ok (.i2l, 1) := by decide +kernel
theorem d_M_keyField_21 : decode b_M_keyField 21 = .ok (.invokevirtual 588, 3) := by decide +kernel
theorem d_M_keyField_24 : decode b_M_keyField 24 = .ok (.aload_n 0, 1) := by decide +kernel
theorem d_M_keyField_25 : decode b_M_keyField 25 = .ok (.bipush 48, 2) := by decide +kernel
theorem d_M_keyField_27 : decode b_M_keyField 27 = .ok (.iload 4, 2) := by decide +kernel
theorem d_M_keyField_29 : decode b_M_keyField 29 = .ok (.invokevirtual 559, 3) := by decide +kernel
theorem d_M_keyField_32 : decode b_M_keyField 32 = .ok (.aload_n 0, 1) := by decide +kernel
theorem d_M_keyField_33 : decode b_M_keyField 33 = .ok (.iload_n 1, 1) := by decide +kernel
theorem d_M_keyField_34 : decode b_M_keyField 34 = .ok (.iload 4, 2) := by decide +kernel
theorem d_M_keyField_36 : decode b_M_keyField 36 = .ok (.invokevirtual 567, 3) := by decide +kernel
theorem d_M_keyField_39 : decode b_M_keyField 39 = .ok (.return_, 1) := by decide +kernel
abbrev b_M_sealedField : ByteArray := prog_14_method_76_code
def y_M_sealedField : MethodName := ⟨R_M, "sealedField", "(IIJ)V"⟩
abbrev k_M_sealedField : Cond := .code y_M_sealedField b_M_sealedField 6 none
theorem ki_M_sealedField : k_M_sealedField ∈ lw_tg := in_t 2633 (by decide +kernel)
theorem ks_M_sealedField : Cond.instanceMethod y_M_sealedField ∈ lw_tg := in_t 2632 (by decide +kernel)
theorem kx_M_sealedField : Cond.selects R_M y_M_sealedField y_M_sealedField ∈ lw_tg := List.mem_filter.mpr ⟨List.mem_append_left _ (List.mem_of_getElem? (i := 151) (by decide +kernel)), rfl⟩
theorem kl_M_sealedField : Cond.methodLink R_M 870 y_M_sealedField ∈ lw_tg := in_t 2630 (by decide +kernel)
theorem hd_M_sealedField : y_M_sealedField.cls = R_M ∧ y_M_sealedField.cls ≠ "java/lang/invoke/MethodHandle" ∧ y_M_sealedField.cls ≠ "java/lang/invoke/VarHandle" ∧ (parseMethodDescriptor y_M_sealedField.desc).map (fun d => d.parameters.length) = some 3 := by decide +kernel
theorem d_M_sealedField_0 : decode b_M_sealedField 0 = .ok (.aload_n 0, 1) := by decide +kernel
theorem d_M_sealedField_1 : decode b_M_sealedField 1 = .ok (.getfield 553, 3) := by decide +kernel
theorem d_M_sealedField_4 : decode b_M_sealedField 4 = .ok (.istore 5, 2) := by decide +kernel
theorem d_M_sealedField_6 : decode b_M_sealedField 6 = .ok (.aload_n 0, 1) := by decide +kernel
theorem d_M_sealedField_7 : decode b_M_sealedField 7 = .ok (.iload_n 2, 1) := by decide +kernel
theorem d_M_sealedField_8 : decode b_M_sealedField 8 = .ok (.lload_n 3, 1) := by decide +kernel
theorem d_M_sealedField_9 : decode b_M_sealedField 9 = .ok (.invokevirtual 592, 3) := by decide +kernel
theorem d_M_sealedField_12 : decode b_M_sealedField 12 = .ok (.aload_n 0, 1) := by decide +kernel
theorem d_M_sealedField_13 : decode b_M_sealedField 13 = .ok (.iload_n 1, 1) := by decide +kernel
theorem d_M_sealedField_14 : decode b_M_sealedField 14 = .ok (.iload 5, 2) := by decide +kernel
theorem d_M_sealedField_16 : decode b_M_sealedField 16 = .ok (.invokevirtual 567, 3) := by decide +kernel
theorem d_M_sealedField_19 : decode b_M_sealedField 19 = .ok (.return_, 1) := by decide +kernel
abbrev b_M_putSealed : ByteArray := prog_14_method_77_code
def y_M_putSealed : MethodName := ⟨R_M, "putSealed", "(IJ)V"⟩
abbrev k_M_putSealed : Cond := .code y_M_putSealed b_M_putSealed 5 none
theorem ki_M_putSealed : k_M_putSealed ∈ lw_tg := in_t 2637 (by decide +kernel)
theorem ks_M_putSealed : Cond.instanceMethod y_M_putSealed ∈ lw_tg := in_t 2636 (by decide +kernel)
theorem kx_M_putSealed : Cond.selects R_M y_M_putSealed y_M_putSealed ∈ lw_tg := List.mem_filter.mpr ⟨List.mem_append_left _ (List.mem_of_getElem? (i := 152) (by decide +kernel)), rfl⟩
theorem kl_M_putSealed : Cond.methodLink R_M 592 y_M_putSealed ∈ lw_tg := in_t 2634 (by decide +kernel)
theorem hd_M_putSealed : y_M_putSealed.cls = R_M ∧ y_M_putSealed.cls ≠ "java/lang/invoke/MethodHandle" ∧ y_M_putSealed.cls ≠ "java/lang/invoke/VarHandle" ∧ (parseMethodDescriptor y_M_putSealed.desc).map (fun d => d.parameters.length) = some 2 := by decide +kernel
theorem d_M_putSealed_0 : decode b_M_putSealed 0 = .ok (.aload_n 0, 1) := by decide +kernel
theorem d_M_putSealed_1 : decode b_M_putSealed 1 = .ok (.getfield 553, 3) := by decide +kernel
theorem d_M_putSealed_4 : decode b_M_putSealed 4 = .ok (.istore 4, 2) := by decide +kernel
theorem d_M_putSealed_6 : decode b_M_putSealed 6 = .ok (.aload_n 0, 1) := by decide +kernel
theorem d_M_putSealed_7 : decode b_M_putSealed 7 = .ok (.iconst 2, 1) := by decide +kernel
theorem d_M_putSealed_8 : decode b_M_putSealed 8 = .ok (.aload_n 0, 1) := by decide +kernel
theorem d_M_putSealed_9 : decode b_M_putSealed 9 = .ok (.getfield 92, 3) := by decide +kernel
theorem d_M_putSealed_12 : decode b_M_putSealed 12 = .ok (.iconst 0, 1) := by decide +kernel
theorem d_M_putSealed_13 : decode b_M_putSealed 13 = .ok (.aload_n 0, 1) := by decide +kernel
theorem d_M_putSealed_14 : decode b_M_putSealed 14 = .ok (.getfield 447, 3) := by decide +kernel
theorem d_M_putSealed_17 : decode b_M_putSealed 17 = .ok (.invokevirtual 584, 3) := by decide +kernel
theorem d_M_putSealed_20 : decode b_M_putSealed 20 = .ok (.lload_n 2, 1) := by decide +kernel
theorem d_M_putSealed_21 : decode b_M_putSealed 21 = .ok (.lconst 0, 1) := by decide +kernel
theorem d_M_putSealed_22 : decode b_M_putSealed 22 = .ok (.lcmp, 1) := by decide +kernel
theorem d_M_putSealed_23 : decode b_M_putSealed 23 = .ok (.ifCond .le 9, 3) := by decide +kernel
theorem d_M_putSealed_26 : decode b_M_putSealed 26 = .ok (.aload_n 0, 1) := by decide +kernel
theorem d_M_putSealed_27 : decode b_M_putSealed 27 = .ok (.iconst 1, 1) := by decide +kernel
theorem d_M_putSealed_28 : decode b_M_putSealed 28 = .ok (.lload_n 2, 1) := by decide +kernel
theorem d_M_putSealed_29 : decode b_M_putSealed 29 = .ok (.invokevirtual 588, 3) := by decide +kernel
theorem d_M_putSealed_32 : decode b_M_putSealed 32 = .ok (.aload_n 0, 1) := by decide +kernel
theorem d_M_putSealed_33 : decode b_M_putSealed 33 = .ok (.iconst 0, 1) := by decide +kernel
theorem d_M_putSealed_34 : decode b_M_putSealed 34 = .ok (.iload_n 1, 1) := by decide +kernel
theorem d_M_putSealed_35 : decode b_M_putSealed 35 = .ok (.i2l, 1) := by decide +kernel
theorem d_M_putSealed_36 : decode b_M_putSealed 36 = .ok (.invokevirtual 588, 3) := by decide +kernel
theorem d_M_putSealed_39 : decode b_M_putSealed 39 = .ok (.aload_n 0, 1) := by decide +kernel
theorem d_M_putSealed_40 : decode b_M_putSealed 40 = .ok (.bipush 48, 2) := by decide +kernel
theorem d_M_putSealed_42 : decode b_M_putSealed 42 = .ok (.iload 4, 2) := by decide +kernel
theorem d_M_putSealed_44 : decode b_M_putSealed 44 = .ok (.invokevirtual 559, 3) := by decide +kernel
theorem d_M_putSealed_47 : decode b_M_putSealed 47 = .ok (.return_, 1) := by decide +kernel
abbrev b_M_nameField : ByteArray := prog_14_method_78_code
def y_M_nameField : MethodName := ⟨R_M, "nameField", "(III)V"⟩
abbrev k_M_nameField : Cond := .code y_M_nameField b_M_nameField 6 none
theorem ki_M_nameField : k_M_nameField ∈ lw_tg := in_t 2709 (by decide +kernel)
theorem ks_M_nameField : Cond.instanceMethod y_M_nameField ∈ lw_tg := in_t 2708 (by decide +kernel)
theorem kx_M_nameField : Cond.selects R_M y_M_nameField y_M_nameField ∈ lw_tg := List.mem_filter.mpr ⟨List.mem_append_left _ (List.mem_of_getElem? (i := 168) (by decide +kernel)), rfl⟩
theorem kl_M_nameField : Cond.methodLink R_M 908 y_M_nameField ∈ lw_tg := in_t 2706 (by decide +kernel)
theorem hd_M_nameField : y_M_nameField.cls = R_M ∧ y_M_nameField.cls ≠ "java/lang/invoke/MethodHandle" ∧ y_M_nameField.cls ≠ "java/lang/invoke/VarHandle" ∧ (parseMethodDescriptor y_M_nameField.desc).map (fun d => d.parameters.length) = some 3 := by decide +kernel
theorem d_M_nameField_0 : decode b_M_nameField 0 = .ok (.aload_n 0, 1) := by decide +kernel
theorem d_M_nameField_1 : decode b_M_nameField 1 = .ok (.getfield 553, 3) := by decide +kernel
theorem d_M_nameField_4 : decode b_M_nameField 4 = .ok (.istore 4, 2) := by decide +kernel
theorem d_M_nameField_6 : decode b_M_nameField 6 = .ok (.aload_n 0, 1) := by decide +kernel
theorem d_M_nameField_7 : decode b_M_nameField 7 = .ok (.getfield 553, 3) := by decide +kernel
theorem d_M_nameField_10 : decode b_M_nameField 10 = .ok (.istore 5, 2) := by decide +kernel
theorem d_M_nameField_12 : decode b_M_nameField 12 = .ok (.aload_n 0, 1) := by decide +kernel
theorem d_M_nameField_13 : decode b_M_nameField 13 = .ok (.aload_n 0, 1) := by decide +kernel
theorem d_M_nameField_14 : decode b_M_nameField 14 = .ok (.getfield 101, 3) := by decide +kernel
theorem d_M_nameField_17 : decode b_M_nameField 17 = .ok (.bipush 40, 2) := by decide +kernel
theorem d_M_nameField_19 : decode b_M_nameField 19 = .ok (.iload_n 2, 1) := by decide +kernel
theorem d_M_nameField_20 : decode b_M_nameField 20 = .ok (.imul, 1) := by decide +kernel
theorem d_M_nameField_21 : decode b_M_nameField 21 = .ok (.aload_n 0, 1) := by decide +kernel
theorem d_M_nameField_22 : decode b_M_nameField 22 = .ok (.getfield 104, 3) := by decide +kernel
theorem d_M_nameField_25 : decode b_M_nameField 25 = .ok (.iload_n 2, 1) := by decide +kernel
theorem d_M_nameField_26 : decode b_M_nameField 26 = .ok (.iaload, 1) := by decide +kernel
theorem d_M_nameField_27 : decode b_M_nameField 27 = .ok (.invokevirtual 595, 3) := by decide +kernel
theorem d_M_nameField_30 : decode b_M_nameField 30 = .ok (.aload_n 0, 1) := by decide +kernel
theorem d_M_nameField_31 : decode b_M_nameField 31 = .ok (.bipush 48, 2) := by decide +kernel
theorem d_M_nameField_33 : decode b_M_nameField 33 = .ok (.iload 5, 2) := by decide +kernel
theorem d_M_nameField_35 : decode b_M_nameField 35 = .ok (.invokevirtual 559, 3) := by decide +kernel
theorem d_M_nameField_38 : decode b_M_nameField 38 = .ok (.aload_n 0, 1) := by decide +kernel
theorem d_M_nameField_39 : decode b_M_nameField 39 = .ok (.iconst 1, 1) := by decide +kernel
theorem d_M_nameField_40 : decode b_M_nameField 40 = .ok (.iload 5, 2) := by decide +kernel
theorem d_M_nameField_42 : decode b_M_nameField 42 = .ok (.invokevirtual 567, 3) := by decide +kernel
theorem d_M_nameField_45 : decode b_M_nameField 45 = .ok (.aload_n 0, 1) := by decide +kernel
theorem d_M_nameField_46 : decode b_M_nameField 46 = .ok (.iconst 0, 1) := by decide +kernel
theorem d_M_nameField_47 : decode b_M_nameField 47 = .ok (.iload_n 3, 1) := by decide +kernel
theorem d_M_nameField_48 : decode b_M_nameField 48 = .ok (.i2l, 1) := by decide +kernel
theorem d_M_nameField_49 : decode b_M_nameField 49 = .ok (.invokevirtual 588, 3) := by decide +kernel
theorem d_M_nameField_52 : decode b_M_nameField 52 = .ok (.aload_n 0, 1) := by decide +kernel
theorem d_M_nameField_53 : decode b_M_nameField 53 = .ok (.bipush 48, 2) := by decide +kernel
theorem d_M_nameField_55 : decode b_M_nameField 55 = .ok (.iload 4, 2) := by decide +kernel
theorem d_M_nameField_57 : decode b_M_nameField 57 = .ok (.invokevirtual 559, 3) := by decide +kernel
theorem d_M_nameField_60 : decode b_M_nameField 60 = .ok (.aload_n 0, 1) := by decide +kernel
theorem d_M_nameField_61 : decode b_M_nameField 61 = .ok (.iload_n 1, 1) := by decide +kernel
theorem d_M_nameField_62 : decode b_M_nameField 62 = .ok (.iload 4, 2) := by decide +kernel
theorem d_M_nameField_64 : decode b_M_nameField 64 = .ok (.invokevirtual 567, 3) := by decide +kernel
theorem d_M_nameField_67 : decode b_M_nameField 67 = .ok (.return_, 1) := by decide +kernel
abbrev b_M_putParts : ByteArray := prog_14_method_79_code
def y_M_putParts : MethodName := ⟨R_M, "putParts", "([BII)V"⟩
abbrev k_M_putParts : Cond := .code y_M_putParts b_M_putParts 7 none
theorem ki_M_putParts : k_M_putParts ∈ lw_tg := in_t 2713 (by decide +kernel)
theorem ks_M_putParts : Cond.instanceMethod y_M_putParts ∈ lw_tg := in_t 2712 (by decide +kernel)
theorem kx_M_putParts : Cond.selects R_M y_M_putParts y_M_putParts ∈ lw_tg := List.mem_filter.mpr ⟨List.mem_append_left _ (List.mem_of_getElem? (i := 169) (by decide +kernel)), rfl⟩
theorem kl_M_putParts : Cond.methodLink R_M 595 y_M_putParts ∈ lw_tg := in_t 2710 (by decide +kernel)
theorem hd_M_putParts : y_M_putParts.cls = R_M ∧ y_M_putParts.cls ≠ "java/lang/invoke/MethodHandle" ∧ y_M_putParts.cls ≠ "java/lang/invoke/VarHandle" ∧ (parseMethodDescriptor y_M_putParts.desc).map (fun d => d.parameters.length) = some 3 := by decide +kernel
theorem d_M_putParts_0 : decode b_M_putParts 0 = .ok (.iload_n 3, 1) := by decide +kernel
theorem d_M_putParts_1 : decode b_M_putParts 1 = .ok (.istore 4, 2) := by decide +kernel
theorem d_M_putParts_3 : decode b_M_putParts 3 = .ok (.iload_n 3, 1) := by decide +kernel
theorem d_M_putParts_4 : decode b_M_putParts 4 = .ok (.iconst 1, 1) := by decide +kernel
theorem d_M_putParts_5 : decode b_M_putParts 5 = .ok (.isub, 1) := by decide +kernel
theorem d_M_putParts_6 : decode b_M_putParts 6 = .ok (.istore 5, 2) := by decide +kernel
theorem d_M_putParts_8 : decode b_M_putParts 8 = .ok (.iload 5, 2) := by decide +kernel
theorem d_M_putParts_10 : decode b_M_putParts 10 = .ok (.iconst (-1), 1) := by decide +kernel
theorem d_M_putParts_11 : decode b_M_putParts 11 = .ok (.if_icmp .lt 64, 3) := by decide +kernel
theorem d_M_putParts_14 : decode b_M_putParts 14 = .ok (.iload 5, 2) := by decide +kernel
theorem d_M_putParts_16 : decode b_M_putParts 16 = .ok (.ifCond .lt 17, 3) := by decide +kernel
theorem d_M_putParts_19 : decode b_M_putParts 19 = .ok (.aload_n 1, 1) := by decide +kernel
theorem d_M_putParts_20 : decode b_M_putParts 20 = .ok (.iload_n 2, 1) := by decide +kernel
theorem d_M_putParts_21 : decode b_M_putParts 21 = .ok (.iload 5, 2) := by decide +kernel
theorem d_M_putParts_23 : decode b_M_putParts 23 = .ok (.iadd, 1) := by decide +kernel
theorem d_M_putParts_24 : decode b_M_putParts 24 = .ok (.baload, 1) := by decide +kernel
theorem d_M_putParts_25 : decode b_M_putParts 25 = .ok (.bipush 47, 2) := by decide +kernel
theorem d_M_putParts_27 : decode b_M_putParts 27 = .ok (.if_icmp .eq 6, 3) := by decide +kernel
theorem d_M_putParts_30 : decode b_M_putParts 30 = .ok (.goto 39, 3) := by decide +kernel
theorem d_M_putParts_33 : decode b_M_putParts 33 = .ok (.aload_n 0, 1) := by decide +kernel
theorem d_M_putParts_34 : decode b_M_putParts 34 = .ok (.getfield 553, 3) := by decide +kernel
theorem d_M_putParts_37 : decode b_M_putParts 37 = .ok (.istore 6, 2) := by decide +kernel
theorem d_M_putParts_39 : decode b_M_putParts 39 = .ok (.aload_n 0, 1) := by decide +kernel
theorem d_M_putParts_40 : decode b_M_putParts 40 = .ok (.aload_n 1, 1) := by decide +kernel
theorem d_M_putParts_41 : decode b_M_putParts 41 = .ok (.iload_n 2, 1) := by decide +kernel
theorem d_M_putParts_42 : decode b_M_putParts 42 = .ok (.iload 5, 2) := by decide +kernel
theorem d_M_putParts_44 : decode b_M_putParts 44 = .ok (.iadd, 1) := by decide +kernel
theorem d_M_putParts_45 : decode b_M_putParts 45 = .ok (.iconst 1, 1) := by decide +kernel
theorem d_M_putParts_46 : decode b_M_putParts 46 = .ok (.iadd, 1) := by decide +kernel
theorem d_M_putParts_47 : decode b_M_putParts 47 = .ok (.iload 4, 2) := by decide +kernel
theorem d_M_putParts_49 : decode b_M_putParts 49 = .ok (.iload 5, 2) := by decide +kernel
theorem d_M_putParts_51 : decode b_M_putParts 51 = .ok (.isub, 1) := by decide +kernel
theorem d_M_putParts_52 : decode b_M_putParts 52 = .ok (.iconst 1, 1) := by decide +kernel
theorem d_M_putParts_53 : decode b_M_putParts 53 = .ok (.isub, 1) := by decide +kernel
theorem d_M_putParts_54 : decode b_M_putParts 54 = .ok (.invokevirtual 574, 3) := by decide +kernel
theorem d_M_putParts_57 : decode b_M_putParts 57 = .ok (.aload_n 0, 1) := by decide +kernel
theorem d_M_putParts_58 : decode b_M_putParts 58 = .ok (.bipush 27, 2) := by decide +kernel
theorem d_M_putParts_60 : decode b_M_putParts 60 = .ok (.iload 6, 2) := by decide +kernel
theorem d_M_putParts_62 : decode b_M_putParts 62 = .ok (.invokevirtual 559, 3) := by decide +kernel
theorem d_M_putParts_65 : decode b_M_putParts 65 = .ok (.iload 5, 2) := by decide +kernel
theorem d_M_putParts_67 : decode b_M_putParts 67 = .ok (.istore 4, 2) := by decide +kernel
theorem d_M_putParts_69 : decode b_M_putParts 69 = .ok (.iinc 5 (-1), 3) := by decide +kernel
theorem d_M_putParts_72 : decode b_M_putParts 72 = .ok (.goto (-64), 3) := by decide +kernel
theorem d_M_putParts_75 : decode b_M_putParts 75 = .ok (.return_, 1) := by decide +kernel
abbrev b_M_toOut : ByteArray := prog_14_method_80_code
def y_M_toOut : MethodName := ⟨R_M, "toOut", "(II)V"⟩
abbrev k_M_toOut : Cond := .code y_M_toOut b_M_toOut 4 none
theorem ki_M_toOut : k_M_toOut ∈ lw_tg := in_t 2660 (by decide +kernel)
theorem ks_M_toOut : Cond.instanceMethod y_M_toOut ∈ lw_tg := in_t 2659 (by decide +kernel)
theorem kx_M_toOut : Cond.selects R_M y_M_toOut y_M_toOut ∈ lw_tg := List.mem_filter.mpr ⟨List.mem_append_left _ (List.mem_of_getElem? (i := 157) (by decide +kernel)), rfl⟩
theorem kl_M_toOut : Cond.methodLink R_M 598 y_M_toOut ∈ lw_tg := in_t 2657 (by decide +kernel)
theorem hd_M_toOut : y_M_toOut.cls = R_M ∧ y_M_toOut.cls ≠ "java/lang/invoke/MethodHandle" ∧ y_M_toOut.cls ≠ "java/lang/invoke/VarHandle" ∧ (parseMethodDescriptor y_M_toOut.desc).map (fun d => d.parameters.length) = some 2 := by decide +kernel
theorem d_M_toOut_0 : decode b_M_toOut 0 = .ok (.aload_n 0, 1) := by decide +kernel
theorem d_M_toOut_1 : decode b_M_toOut 1 = .ok (.iload_n 2, 1) := by decide +kernel
theorem d_M_toOut_2 : decode b_M_toOut 2 = .ok (.iload_n 1, 1) := by decide +kernel
theorem d_M_toOut_3 : decode b_M_toOut 3 = .ok (.isub, 1) := by decide +kernel
theorem d_M_toOut_4 : decode b_M_toOut 4 = .ok (.putfield 348, 3) := by decide +kernel
theorem d_M_toOut_7 : decode b_M_toOut 7 = .ok (.iconst 0, 1) := by decide +kernel
theorem d_M_toOut_8 : decode b_M_toOut 8 = .ok (.istore_n 3, 1) := by decide +kernel
theorem d_M_toOut_9 : decode b_M_toOut 9 = .ok (.iload_n 3, 1) := by decide +kernel
theorem d_M_toOut_10 : decode b_M_toOut 10 = .ok (.aload_n 0, 1) := by decide +kernel
theorem d_M_toOut_11 : decode b_M_toOut 11 = .ok (.getfield 348, 3) := by decide +kernel
theorem d_M_toOut_14 : decode b_M_toOut 14 = .ok (.if_icmp .ge 23, 3) := by decide +kernel
theorem d_M_toOut_17 : decode b_M_toOut 17 = .ok (.aload_n 0, 1) := by decide +kernel
theorem d_M_toOut_18 : decode b_M_toOut 18 = .ok (.getfield 14, 3) := by decide +kernel
theorem d_M_toOut_21 : decode b_M_toOut 21 = .ok (.iload_n 3, 1) := by decide +kernel
theorem d_M_toOut_22 : decode b_M_toOut 22 = .ok (.aload_n 0, 1) := by decide +kernel
theorem d_M_toOut_23 : decode b_M_toOut 23 = .ok (.getfield 10, 3) := by decide +kernel
theorem d_M_toOut_26 : decode b_M_toOut 26 = .ok (.iload_n 1, 1) := by decide +kernel
theorem d_M_toOut_27 : decode b_M_toOut 27 = .ok (.iload_n 3, 1) := by decide +kernel
theorem d_M_toOut_28 : decode b_M_toOut 28 = .ok (.iadd, 1) := by decide +kernel
theorem d_M_toOut_29 : decode b_M_toOut 29 = .ok (.baload, 1) := by decide +kernel
theorem d_M_toOut_30 : decode b_M_toOut 30 = .ok (.bastore, 1) := by decide +kernel
theorem d_M_toOut_31 : decode b_M_toOut 31 = .ok (.iinc 3 1, 3) := by decide +kernel
theorem d_M_toOut_34 : decode b_M_toOut 34 = .ok (.goto (-25), 3) := by decide +kernel
theorem d_M_toOut_37 : decode b_M_toOut 37 = .ok (.return_, 1) := by decide +kernel
abbrev b_M_written : ByteArray := prog_14_method_81_code
def y_M_written : MethodName := ⟨R_M, "written", "()V"⟩
abbrev k_M_written : Cond := .code y_M_written b_M_written 1 none
theorem ki_M_written : k_M_written ∈ lw_tg := in_t 2656 (by decide +kernel)
theorem ks_M_written : Cond.instanceMethod y_M_written ∈ lw_tg := in_t 2655 (by decide +kernel)
theorem kx_M_written : Cond.selects R_M y_M_written y_M_written ∈ lw_tg := List.mem_filter.mpr ⟨List.mem_append_left _ (List.mem_of_getElem? (i := 156) (by decide +kernel)), rfl⟩
theorem kl_M_written : Cond.methodLink R_M 905 y_M_written ∈ lw_tg := in_t 2653 (by decide +kernel)
theorem hd_M_written : y_M_written.cls = R_M ∧ y_M_written.cls ≠ "java/lang/invoke/MethodHandle" ∧ y_M_written.cls ≠ "java/lang/invoke/VarHandle" ∧ (parseMethodDescriptor y_M_written.desc).map (fun d => d.parameters.length) = some 0 := by decide +kernel
theorem d_M_written_0 : decode b_M_written 0 = .ok (.aload_n 0, 1) := by decide +kernel
theorem d_M_written_1 : decode b_M_written 1 = .ok (.aload_n 0, 1) := by decide +kernel
theorem d_M_written_2 : decode b_M_written 2 = .ok (.getfield 553, 3) := by decide +kernel
theorem d_M_written_5 : decode b_M_written 5 = .ok (.ldc 9, 2) := by decide +kernel
theorem d_M_written_7 : decode b_M_written 7 = .ok (.invokevirtual 598, 3) := by decide +kernel
theorem d_M_written_10 : decode b_M_written 10 = .ok (.return_, 1) := by decide +kernel
abbrev b_M_nameRead : ByteArray := prog_14_method_82_code
def y_M_nameRead : MethodName := ⟨R_M, "nameRead", "(Z)Z"⟩
abbrev k_M_nameRead : Cond := .code y_M_nameRead b_M_nameRead 9 (some .boolean)
theorem ki_M_nameRead : k_M_nameRead ∈ lw_tg := in_t 1772 (by decide +kernel)
theorem ks_M_nameRead : Cond.instanceMethod y_M_nameRead ∈ lw_tg := in_t 1771 (by decide +kernel)
theorem kx_M_nameRead : Cond.selects R_M y_M_nameRead y_M_nameRead ∈ lw_tg := List.mem_filter.mpr ⟨List.mem_append_left _ (List.mem_of_getElem? (i := 73) (by decide +kernel)), rfl⟩
theorem kl_M_nameRead : Cond.methodLink R_M 613 y_M_nameRead ∈ lw_tg := in_t 1769 (by decide +kernel)
theorem hd_M_nameRead : y_M_nameRead.cls = R_M ∧ y_M_nameRead.cls ≠ "java/lang/invoke/MethodHandle" ∧ y_M_nameRead.cls ≠ "java/lang/invoke/VarHandle" ∧ (parseMethodDescriptor y_M_nameRead.desc).map (fun d => d.parameters.length) = some 1 := by decide +kernel
theorem d_M_nameRead_0 : decode b_M_nameRead 0 = .ok (.iconst 0, 1) := by decide +kernel
theorem d_M_nameRead_1 : decode b_M_nameRead 1 = .ok (.istore_n 2, 1) := by decide +kernel
theorem d_M_nameRead_2 : decode b_M_nameRead 2 = .ok (.iconst 1, 1) := by decide +kernel
theorem d_M_nameRead_3 : decode b_M_nameRead 3 = .ok (.istore_n 3, 1) := by decide +kernel
theorem d_M_nameRead_4 : decode b_M_nameRead 4 = .ok (.iconst 0, 1) := by decide +kernel
theorem d_M_nameRead_5 : decode b_M_nameRead 5 = .ok (.istore 4, 2) := by decide +kernel
theorem d_M_nameRead_7 : decode b_M_nameRead 7 = .ok (.iconst 1, 1) := by decide +kernel
theorem d_M_nameRead_8 : decode b_M_nameRead 8 = .ok (.istore 5, 2) := by decide +kernel
theorem d_M_nameRead_10 : decode b_M_nameRead 10 = .ok (.iload_n 2, 1) := by decide +kernel
theorem d_M_nameRead_11 : decode b_M_nameRead 11 = .ok (.aload_n 0, 1) := by decide +kernel
theorem d_M_nameRead_12 : decode b_M_nameRead 12 = .ok (.getfield 332, 3) := by decide +kernel
theorem d_M_nameRead_15 : decode b_M_nameRead 15 = .ok (.if_icmp .ge 167, 3) := by decide +kernel
theorem d_M_nameRead_18 : decode b_M_nameRead 18 = .ok (.aload_n 0, 1) := by decide +kernel
theorem d_M_nameRead_19 : decode b_M_nameRead 19 = .ok (.getfield 10, 3) := by decide +kernel
theorem d_M_nameRead_22 : decode b_M_nameRead 22 = .ok (.iload_n 2, 1) := by decide +kernel
theorem d_M_nameRead_23 : decode b_M_nameRead 23 = .ok (.baload, 1) := by decide +kernel
theorem d_M_nameRead_24 : decode b_M_nameRead 24 = .ok (.bipush 58, 2) := by decide +kernel
theorem d_M_nameRead_26 : decode b_M_nameRead 26 = .ok (.if_icmp .eq 156, 3) := by decide +kernel
theorem d_M_nameRead_29 : decode b_M_nameRead 29 = .ok (.iload 5, 2) := by decide +kernel
theorem d_M_nameRead_31 : decode b_M_nameRead 31 = .ok (.ifCond .eq 151, 3) := by decide +kernel
theorem d_M_nameRead_34 : decode b_M_nameRead 34 = .ok (.aload_n 0, 1) := by decide +kernel
theorem d_M_nameRead_35 : decode b_M_nameRead 35 = .ok (.getfield 10, 3) := by decide +kernel
theorem d_M_nameRead_38 : decode b_M_nameRead 38 = .ok (.iload_n 2, 1) := by decide +kernel
theorem d_M_nameRead_39 : decode b_M_nameRead 39 = .ok (.baload, 1) := by decide +kernel
theorem d_M_nameRead_40 : decode b_M_nameRead 40 = .ok (.istore 6, 2) := by decide +kernel
theorem d_M_nameRead_42 : decode b_M_nameRead 42 = .ok (.iload 6, 2) := by decide +kernel
theorem d_M_nameRead_44 : decode b_M_nameRead 44 = .ok (.bipush 97, 2) := by decide +kernel
theorem d_M_nameRead_46 : decode b_M_nameRead 46 = .ok (.if_icmp .lt 14, 3) := by decide +kernel
theorem d_M_nameRead_49 : decode b_M_nameRead 49 = .ok (.iload 6, 2) := by decide +kernel
theorem d_M_nameRead_51 : decode b_M_nameRead 51 = .ok (.bipush 122, 2) := by decide +kernel
theorem d_M_nameRead_53 : decode b_M_nameRead 53 = .ok (.if_icmp .gt 7, 3) := by decide +kernel
theorem d_M_nameRead_56 : decode b_M_nameRead 56 = .ok (.iconst 1, 1) := by decide +kernel
theorem d_M_nameRead_57 : decode b_M_nameRead 57 = .ok (.goto 4, 3) := by decide +kernel
theorem d_M_nameRead_60 : decode b_M_nameRead 60 = .ok (.iconst 0, 1) := by decide +kernel
theorem d_M_nameRead_61 : decode b_M_nameRead 61 = .ok (.istore 7, 2) := by decide +kernel
theorem d_M_nameRead_63 : decode b_M_nameRead 63 = .ok (.iload 6, 2) := by decide +kernel
theorem d_M_nameRead_65 : decode b_M_nameRead 65 = .ok (.bipush 47, 2) := by decide +kernel
theorem d_M_nameRead_67 : decode b_M_nameRead 67 = .ok (.if_icmp .ne 29, 3) := by decide +kernel
theorem d_M_nameRead_70 : decode b_M_nameRead 70 = .ok (.iload 4, 2) := by decide +kernel
theorem d_M_nameRead_72 : decode b_M_nameRead 72 = .ok (.ifCond .le 12, 3) := by decide +kernel
theorem d_M_nameRead_75 : decode b_M_nameRead 75 = .ok (.iload_n 3, 1) := by decide +kernel
theorem d_M_nameRead_76 : decode b_M_nameRead 76 = .ok (.iconst 1, 1) := by decide +kernel
theorem d_M_nameRead_77 : decode b_M_nameRead 77 = .ok (.if_icmp .ne 7, 3) := by decide +kernel
theorem d_M_nameRead_80 : decode b_M_nameRead 80 = .ok (.iconst 1, 1) := by decide +kernel
theorem d_M_nameRead_81 : decode b_M_nameRead 81 = .ok (.goto 4, 3) := by decide +kernel
theorem d_M_nameRead_84 : decode b_M_nameRead 84 = .ok (.iconst 0, 1) := by decide +kernel
theorem d_M_nameRead_85 : decode b_M_nameRead 85 = .ok (.istore 5, 2) := by decide +kernel
theorem d_M_nameRead_87 : decode b_M_nameRead 87 = .ok (.iinc 3 1, 3) := by decide +kernel
theorem d_M_nameRead_90 : decode b_M_nameRead 90 = .ok (.iconst 0, 1) := by decide +kernel
theorem d_M_nameRead_91 : decode b_M_nameRead 91 = .ok (.istore 4, 2) := by decide +kernel
theorem d_M_nameRead_93 : decode b_M_nameRead 93 = .ok (.goto 83, 3) := by decide +kernel
theorem d_M_nameRead_96 : decode b_M_nameRead 96 = .ok (.iload 7, 2) := by decide +kernel
theorem d_M_nameRead_98 : decode b_M_nameRead 98 = .ok (.ifCond .ne 49, 3) := by decide +kernel
theorem d_M_nameRead_101 : decode b_M_nameRead 101 = .ok (.iload_n 2, 1) := by decide +kernel
theorem d_M_nameRead_102 : decode b_M_nameRead 102 = .ok (.ifCond .le 22, 3) := by decide +kernel
theorem d_M_nameRead_105 : decode b_M_nameRead 105 = .ok (.iload 4, 2) := by decide +kernel
theorem d_M_nameRead_107 : decode b_M_nameRead 107 = .ok (.ifCond .le 17, 3) := by decide +kernel
theorem d_M_nameRead_110 : decode b_M_nameRead 110 = .ok (.iload 6, 2) := by decide +kernel
theorem d_M_nameRead_112 : decode b_M_nameRead 112 = .ok (.bipush 48, 2) := by decide +kernel
theorem d_M_nameRead_114 : decode b_M_nameRead 114 = .ok (.if_icmp .lt 10, 3) := by decide +kernel
theorem d_M_nameRead_117 : decode b_M_nameRead 117 = .ok (.iload 6, 2) := by decide +kernel
theorem d_M_nameRead_119 : decode b_M_nameRead 119 = .ok (.bipush 57, 2) := by decide +kernel
theorem d_M_nameRead_121 : decode b_M_nameRead 121 = .ok (.if_icmp .le 26, 3) := by decide +kernel
theorem d_M_nameRead_124 : decode b_M_nameRead 124 = .ok (.iload 4, 2) := by decide +kernel
theorem d_M_nameRead_126 : decode b_M_nameRead 126 = .ok (.ifCond .ne 25, 3) := by decide +kernel
theorem d_M_nameRead_129 : decode b_M_nameRead 129 = .ok (.iload_n 2, 1) := by decide +kernel
theorem d_M_nameRead_130 : decode b_M_nameRead 130 = .ok (.ifCond .le 21, 3) := by decide +kernel
theorem d_M_nameRead_133 : decode b_M_nameRead 133 = .ok (.iload 6, 2) := by decide +kernel
theorem d_M_nameRead_135 : decode b_M_nameRead 135 = .ok (.bipush 48, 2) := by decide +kernel
theorem d_M_nameRead_137 : decode b_M_nameRead 137 = .ok (.if_icmp .lt 14, 3) := by decide +kernel
theorem d_M_nameRead_140 : decode b_M_nameRead 140 = .ok (.iload 6, 2) := by decide +kernel
theorem d_M_nameRead_142 : decode b_M_nameRead 142 = .ok (.bipush 57, 2) := by decide +kernel
theorem d_M_nameRead_144 : decode b_M_nameRead 144 = .ok (.if_icmp .gt 7, 3) := by decide +kernel
theorem d_M_nameRead_147 : decode b_M_nameRead 147 = .ok (.iconst 1, 1) := by decide +kernel
theorem d_M_nameRead_148 : decode b_M_nameRead 148 = .ok (.goto 4, 3) := by decide +kernel
theorem d_M_nameRead_151 : decode b_M_nameRead 151 = .ok (.iconst 0, 1) := by decide +kernel
theorem d_M_nameRead_152 : decode b_M_nameRead 152 = .ok (.istore 5, 2) := by decide +kernel
theorem d_M_nameRead_154 : decode b_M_nameRead 154 = .ok (.iinc 4 1, 3) := by decide +kernel
theorem d_M_nameRead_157 : decode b_M_nameRead 157 = .ok (.iload 5, 2) := by decide +kernel
theorem d_M_nameRead_159 : decode b_M_nameRead 159 = .ok (.ifCond .eq 14, 3) := by decide +kernel
theorem d_M_nameRead_162 : decode b_M_nameRead 162 = .ok (.iload 4, 2) := by decide +kernel
theorem d_M_nameRead_164 : decode b_M_nameRead 164 = .ok (.bipush 16, 2) := by decide +kernel
theorem d_M_nameRead_166 : decode b_M_nameRead 166 = .ok (.if_icmp .gt 7, 3) := by decide +kernel
theorem d_M_nameRead_169 : decode b_M_nameRead 169 = .ok (.iconst 1, 1) := by decide +kernel
theorem d_M_nameRead_170 : decode b_M_nameRead 170 = .ok (.goto 4, 3) := by decide +kernel
theorem d_M_nameRead_173 : decode b_M_nameRead 173 = .ok (.iconst 0, 1) := by decide +kernel
theorem d_M_nameRead_174 : decode b_M_nameRead 174 = .ok (.istore 5, 2) := by decide +kernel
theorem d_M_nameRead_176 : decode b_M_nameRead 176 = .ok (.iinc 2 1, 3) := by decide +kernel
theorem d_M_nameRead_179 : decode b_M_nameRead 179 = .ok (.goto (-169), 3) := by decide +kernel
theorem d_M_nameRead_182 : decode b_M_nameRead 182 = .ok (.iload_n 1, 1) := by decide +kernel
theorem d_M_nameRead_183 : decode b_M_nameRead 183 = .ok (.ifCond .eq 15, 3) := by decide +kernel
theorem d_M_nameRead_186 : decode b_M_nameRead 186 = .ok (.aload_n 0, 1) := by decide +kernel
theorem d_M_nameRead_187 : decode b_M_nameRead 187 = .ok (.iload_n 2, 1) := by decide +kernel
theorem d_M_nameRead_188 : decode b_M_nameRead 188 = .ok (.invokevirtual 601, 3) := by decide +kernel
theorem d_M_nameRead_191 : decode b_M_nameRead 191 = .ok (.ifCond .eq 7, 3) := by decide +kernel
theorem d_M_nameRead_194 : decode b_M_nameRead 194 = .ok (.iconst 1, 1) := by decide +kernel
theorem d_M_nameRead_195 : decode b_M_nameRead 195 = .ok (.goto 4, 3) := by decide +kernel
theorem d_M_nameRead_198 : decode b_M_nameRead 198 = .ok (.iconst 0, 1) := by decide +kernel
theorem d_M_nameRead_199 : decode b_M_nameRead 199 = .ok (.istore 6, 2) := by decide +kernel
theorem d_M_nameRead_201 : decode b_M_nameRead 201 = .ok (.iload 6, 2) := by decide +kernel
theorem d_M_nameRead_203 : decode b_M_nameRead 203 = .ok (.ifCond .ne 15, 3) := by decide +kernel
theorem d_M_nameRead_206 : decode b_M_nameRead 206 = .ok (.iload 5, 2) := by decide +kernel
theorem d_M_nameRead_208 : decode b_M_nameRead 208 = .ok (.ifCond .eq 8, 3) := by decide +kernel
theorem d_M_nameRead_211 : decode b_M_nameRead 211 = .ok (.iload 4, 2) := by decide +kernel
theorem d_M_nameRead_213 : decode b_M_nameRead 213 = .ok (.ifCond .ne 5, 3) := by decide +kernel
theorem d_M_nameRead_216 : decode b_M_nameRead 216 = .ok (.iconst 0, 1) := by decide +kernel
theorem d_M_nameRead_217 : decode b_M_nameRead 217 = .ok (.ireturn, 1) := by decide +kernel
theorem d_M_nameRead_218 : decode b_M_nameRead 218 = .ok (.iload_n 2, 1) := by decide +kernel
theorem d_M_nameRead_219 : decode b_M_nameRead 219 = .ok (.istore 7, 2) := by decide +kernel
theorem d_M_nameRead_221 : decode b_M_nameRead 221 = .ok (.iload 6, 2) := by decide +kernel
theorem d_M_nameRead_223 : decode b_M_nameRead 223 = .ok (.ifCond .eq 7, 3) := by decide +kernel
theorem d_M_nameRead_226 : decode b_M_nameRead 226 = .ok (.bipush 12, 2) := by decide +kernel
theorem d_M_nameRead_228 : decode b_M_nameRead 228 = .ok (.istore 7, 2) := by decide +kernel
theorem d_M_nameRead_230 : decode b_M_nameRead 230 = .ok (.aload_n 0, 1) := by decide +kernel
theorem d_M_nameRead_231 : decode b_M_nameRead 231 = .ok (.iload 7, 2) := by decide +kernel
theorem d_M_nameRead_233 : decode b_M_nameRead 233 = .ok (.putfield 605, 3) := by decide +kernel
theorem d_M_nameRead_236 : decode b_M_nameRead 236 = .ok (.aload_n 0, 1) := by decide +kernel
theorem d_M_nameRead_237 : decode b_M_nameRead 237 = .ok (.iload 7, 2) := by decide +kernel
theorem d_M_nameRead_239 : decode b_M_nameRead 239 = .ok (.putfield 608, 3) := by decide +kernel
theorem d_M_nameRead_242 : decode b_M_nameRead 242 = .ok (.iconst 0, 1) := by decide +kernel
theorem d_M_nameRead_243 : decode b_M_nameRead 243 = .ok (.istore 8, 2) := by decide +kernel
theorem d_M_nameRead_245 : decode b_M_nameRead 245 = .ok (.iload 8, 2) := by decide +kernel
theorem d_M_nameRead_247 : decode b_M_nameRead 247 = .ok (.iload 7, 2) := by decide +kernel
theorem d_M_nameRead_249 : decode b_M_nameRead 249 = .ok (.if_icmp .ge 23, 3) := by decide +kernel
theorem d_M_nameRead_252 : decode b_M_nameRead 252 = .ok (.aload_n 0, 1) := by decide +kernel
theorem d_M_nameRead_253 : decode b_M_nameRead 253 = .ok (.getfield 128, 3) := by decide +kernel
theorem d_M_nameRead_256 : decode b_M_nameRead 256 = .ok (.iload 8, 2) := by decide +kernel
theorem d_M_nameRead_258 : decode b_M_nameRead 258 = .ok (.aload_n 0, 1) := by decide +kernel
theorem d_M_nameRead_259 : decode b_M_nameRead 259 = .ok (.getfield 10, 3) := by decide +kernel
theorem d_M_nameRead_262 : decode b_M_nameRead 262 = .ok (.iload 8, 2) := by decide +kernel
theorem d_M_nameRead_264 : decode b_M_nameRead 264 = .ok (.baload, 1) := by decide +kernel
theorem d_M_nameRead_265 : decode b_M_nameRead 265 = .ok (.bastore, 1) := by decide +kernel
theorem d_M_nameRead_266 : decode b_M_nameRead 266 = .ok (.iinc 8 1, 3) := by decide +kernel
theorem d_M_nameRead_269 : decode b_M_nameRead 269 = .ok (.goto (-24), 3) := by decide +kernel
theorem d_M_nameRead_272 : decode b_M_nameRead 272 = .ok (.iconst 1, 1) := by decide +kernel
theorem d_M_nameRead_273 : decode b_M_nameRead 273 = .ok (.ireturn, 1) := by decide +kernel
abbrev b_M_isHouse : ByteArray := prog_14_method_83_code
def y_M_isHouse : MethodName := ⟨R_M, "isHouse", "(I)Z"⟩
abbrev k_M_isHouse : Cond := .code y_M_isHouse b_M_isHouse 4 (some .boolean)
theorem ki_M_isHouse : k_M_isHouse ∈ lw_tg := in_t 1776 (by decide +kernel)
theorem ks_M_isHouse : Cond.instanceMethod y_M_isHouse ∈ lw_tg := in_t 1775 (by decide +kernel)
theorem kx_M_isHouse : Cond.selects R_M y_M_isHouse y_M_isHouse ∈ lw_tg := List.mem_filter.mpr ⟨List.mem_append_left _ (List.mem_of_getElem? (i := 74) (by decide +kernel)), rfl⟩
theorem kl_M_isHouse : Cond.methodLink R_M 601 y_M_isHouse ∈ lw_tg := in_t 1773 (by decide +kernel)
theorem hd_M_isHouse : y_M_isHouse.cls = R_M ∧ y_M_isHouse.cls ≠ "java/lang/invoke/MethodHandle" ∧ y_M_isHouse.cls ≠ "java/lang/invoke/VarHandle" ∧ (parseMethodDescriptor y_M_isHouse.desc).map (fun d => d.parameters.length) = some 1 := by decide +kernel
theorem d_M_isHouse_0 : decode b_M_isHouse 0 = .ok (.ldc_w 611, 3) := by decide +kernel
theorem d_M_isHouse_3 : decode b_M_isHouse 3 = .ok (.astore_n 2, 1) := by decide +kernel
theorem d_M_isHouse_4 : decode b_M_isHouse 4 = .ok (.aload_n 0, 1) := by decide +kernel
theorem d_M_isHouse_5 : decode b_M_isHouse 5 = .ok (.getfield 332, 3) := by decide +kernel
theorem d_M_isHouse_8 : decode b_M_isHouse 8 = .ok (.bipush 12, 2) := by decide +kernel
theorem d_M_isHouse_10 : decode b_M_isHouse 10 = .ok (.if_icmp .ge 5, 3) := by decide +kernel
theorem d_M_isHouse_13 : decode b_M_isHouse 13 = .ok (.iconst 0, 1) := by decide +kernel
theorem d_M_isHouse_14 : decode b_M_isHouse 14 = .ok (.ireturn, 1) := by decide +kernel
theorem d_M_isHouse_15 : decode b_M_isHouse 15 = .ok (.iconst 0, 1) := by decide +kernel
theorem d_M_isHouse_16 : decode b_M_isHouse 16 = .ok (.istore_n 3, 1) := by decide +kernel
theorem d_M_isHouse_17 : decode b_M_isHouse 17 = .ok (.iload_n 3, 1) := by decide +kernel
theorem d_M_isHouse_18 : decode b_M_isHouse 18 = .ok (.bipush 12, 2) := by decide +kernel
theorem d_M_isHouse_20 : decode b_M_isHouse 20 = .ok (.if_icmp .ge 25, 3) := by decide +kernel
theorem d_M_isHouse_23 : decode b_M_isHouse 23 = .ok (.aload_n 0, 1) := by decide +kernel
theorem d_M_isHouse_24 : decode b_M_isHouse 24 = .ok (.getfield 10, 3) := by decide +kernel
theorem d_M_isHouse_27 : decode b_M_isHouse 27 = .ok (.iload_n 3, 1) := by decide +kernel
theorem d_M_isHouse_28 : decode b_M_isHouse 28 = .ok (.baload, 1) := by decide +kernel
theorem d_M_isHouse_29 : decode b_M_isHouse 29 = .ok (.aload_n 2, 1) := by decide +kernel
theorem d_M_isHouse_30 : decode b_M_isHouse 30 = .ok (.iload_n 3, 1) := by decide +kernel
theorem d_M_isHouse_31 : decode b_M_isHouse 31 = .ok (.invokevirtual 344, 3) := by decide +kernel
theorem d_M_isHouse_34 : decode b_M_isHouse 34 = .ok (.if_icmp .eq 5, 3) := by decide +kernel
theorem d_M_isHouse_37 : decode b_M_isHouse 37 = .ok (.iconst 0, 1) := by decide +kernel
theorem d_M_isHouse_38 : decode b_M_isHouse 38 = .ok (.ireturn, 1) := by decide +kernel
theorem d_M_isHouse_39 : decode b_M_isHouse 39 = .ok (.iinc 3 1, 3) := by decide +kernel
theorem d_M_isHouse_42 : decode b_M_isHouse 42 = .ok (.goto (-25), 3) := by decide +kernel
theorem d_M_isHouse_45 : decode b_M_isHouse 45 = .ok (.aload_n 0, 1) := by decide +kernel
theorem d_M_isHouse_46 : decode b_M_isHouse 46 = .ok (.getfield 332, 3) := by decide +kernel
theorem d_M_isHouse_49 : decode b_M_isHouse 49 = .ok (.bipush 12, 2) := by decide +kernel
theorem d_M_isHouse_51 : decode b_M_isHouse 51 = .ok (.if_icmp .eq 15, 3) := by decide +kernel
theorem d_M_isHouse_54 : decode b_M_isHouse 54 = .ok (.aload_n 0, 1) := by decide +kernel
theorem d_M_isHouse_55 : decode b_M_isHouse 55 = .ok (.getfield 10, 3) := by decide +kernel
theorem d_M_isHouse_58 : decode b_M_isHouse 58 = .ok (.bipush 12, 2) := by decide +kernel
theorem d_M_isHouse_60 : decode b_M_isHouse 60 = .ok (.baload, 1) := by decide +kernel
theorem d_M_isHouse_61 : decode b_M_isHouse 61 = .ok (.bipush 58, 2) := by decide +kernel
theorem d_M_isHouse_63 : decode b_M_isHouse 63 = .ok (.if_icmp .ne 7, 3) := by decide +kernel
theorem d_M_isHouse_66 : decode b_M_isHouse 66 = .ok (.iconst 1, 1) := by decide +kernel
theorem d_M_isHouse_67 : decode b_M_isHouse 67 = .ok (.goto 4, 3) := by decide +kernel
theorem d_M_isHouse_70 : decode b_M_isHouse 70 = .ok (.iconst 0, 1) := by decide +kernel
theorem d_M_isHouse_71 : decode b_M_isHouse 71 = .ok (.ireturn, 1) := by decide +kernel
abbrev b_M_bothRead : ByteArray := prog_14_method_84_code
def y_M_bothRead : MethodName := ⟨R_M, "bothRead", "(Z)Z"⟩
abbrev k_M_bothRead : Cond := .code y_M_bothRead b_M_bothRead 2 (some .boolean)
theorem ki_M_bothRead : k_M_bothRead ∈ lw_tg := in_t 1768 (by decide +kernel)
theorem ks_M_bothRead : Cond.instanceMethod y_M_bothRead ∈ lw_tg := in_t 1767 (by decide +kernel)
theorem kx_M_bothRead : Cond.selects R_M y_M_bothRead y_M_bothRead ∈ lw_tg := List.mem_filter.mpr ⟨List.mem_append_left _ (List.mem_of_getElem? (i := 72) (by decide +kernel)), rfl⟩
theorem kl_M_bothRead : Cond.methodLink R_M 633 y_M_bothRead ∈ lw_tg := in_t 1765 (by decide +kernel)
theorem hd_M_bothRead : y_M_bothRead.cls = R_M ∧ y_M_bothRead.cls ≠ "java/lang/invoke/MethodHandle" ∧ y_M_bothRead.cls ≠ "java/lang/invoke/VarHandle" ∧ (parseMethodDescriptor y_M_bothRead.desc).map (fun d => d.parameters.length) = some 1 := by decide +kernel
theorem d_M_bothRead_0 : decode b_M_bothRead 0 = .ok (.aload_n 0, 1) := by decide +kernel
theorem d_M_bothRead_1 : decode b_M_bothRead 1 = .ok (.iload_n 1, 1) := by decide +kernel
theorem d_M_bothRead_2 : decode b_M_bothRead 2 = .ok (.invokevirtual 613, 3) := by decide +kernel
theorem d_M_bothRead_5 : decode b_M_bothRead 5 = .ok (.ifCond .eq 28, 3) := by decide +kernel
theorem d_M_bothRead_8 : decode b_M_bothRead 8 = .ok (.aload_n 0, 1) := by decide +kernel
theorem d_M_bothRead_9 : decode b_M_bothRead 9 = .ok (.getfield 605, 3) := by decide +kernel
theorem d_M_bothRead_12 : decode b_M_bothRead 12 = .ok (.aload_n 0, 1) := by decide +kernel
theorem d_M_bothRead_13 : decode b_M_bothRead 13 = .ok (.getfield 332, 3) := by decide +kernel
theorem d_M_bothRead_16 : decode b_M_bothRead 16 = .ok (.if_icmp .ge 17, 3) := by decide +kernel
theorem d_M_bothRead_19 : decode b_M_bothRead 19 = .ok (.aload_n 0, 1) := by decide +kernel
theorem d_M_bothRead_20 : decode b_M_bothRead 20 = .ok (.getfield 10, 3) := by decide +kernel
theorem d_M_bothRead_23 : decode b_M_bothRead 23 = .ok (.aload_n 0, 1) := by decide +kernel
theorem d_M_bothRead_24 : decode b_M_bothRead 24 = .ok (.getfield 605, 3) := by decide +kernel
theorem d_M_bothRead_27 : decode b_M_bothRead 27 = .ok (.baload, 1) := by decide +kernel
theorem d_M_bothRead_28 : decode b_M_bothRead 28 = .ok (.bipush 58, 2) := by decide +kernel
theorem d_M_bothRead_30 : decode b_M_bothRead 30 = .ok (.if_icmp .eq 5, 3) := by decide +kernel
theorem d_M_bothRead_33 : decode b_M_bothRead 33 = .ok (.iconst 0, 1) := by decide +kernel
theorem d_M_bothRead_34 : decode b_M_bothRead 34 = .ok (.ireturn, 1) := by decide +kernel
theorem d_M_bothRead_35 : decode b_M_bothRead 35 = .ok (.aload_n 0, 1) := by decide +kernel
theorem d_M_bothRead_36 : decode b_M_bothRead 36 = .ok (.aload_n 0, 1) := by decide +kernel
theorem d_M_bothRead_37 : decode b_M_bothRead 37 = .ok (.getfield 332, 3) := by decide +kernel
theorem d_M_bothRead_40 : decode b_M_bothRead 40 = .ok (.aload_n 0, 1) := by decide +kernel
theorem d_M_bothRead_41 : decode b_M_bothRead 41 = .ok (.getfield 605, 3) := by decide +kernel
theorem d_M_bothRead_44 : decode b_M_bothRead 44 = .ok (.isub, 1) := by decide +kernel
theorem d_M_bothRead_45 : decode b_M_bothRead 45 = .ok (.iconst 1, 1) := by decide +kernel
theorem d_M_bothRead_46 : decode b_M_bothRead 46 = .ok (.isub, 1) := by decide +kernel
theorem d_M_bothRead_47 : decode b_M_bothRead 47 = .ok (.putfield 418, 3) := by decide +kernel
theorem d_M_bothRead_50 : decode b_M_bothRead 50 = .ok (.aload_n 0, 1) := by decide +kernel
theorem d_M_bothRead_51 : decode b_M_bothRead 51 = .ok (.aload_n 0, 1) := by decide +kernel
theorem d_M_bothRead_52 : decode b_M_bothRead 52 = .ok (.getfield 605, 3) := by decide +kernel
theorem d_M_bothRead_55 : decode b_M_bothRead 55 = .ok (.iconst 1, 1) := by decide +kernel
theorem d_M_bothRead_56 : decode b_M_bothRead 56 = .ok (.iadd, 1) := by decide +kernel
theorem d_M_bothRead_57 : decode b_M_bothRead 57 = .ok (.aload_n 0, 1) := by decide +kernel
theorem d_M_bothRead_58 : decode b_M_bothRead 58 = .ok (.getfield 332, 3) := by decide +kernel
theorem d_M_bothRead_61 : decode b_M_bothRead 61 = .ok (.invokevirtual 617, 3) := by decide +kernel
theorem d_M_bothRead_64 : decode b_M_bothRead 64 = .ok (.ireturn, 1) := by decide +kernel
