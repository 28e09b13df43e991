abbrev b_M_passwordRead : ByteArray := prog_14_method_85_code
def y_M_passwordRead : MethodName := ⟨R_M, "passwordRead", "(II)Z"⟩
abbrev k_M_passwordRead : Cond := .code y_M_passwordRead b_M_passwordRead 4 (some .boolean)
theorem ki_M_passwordRead : k_M_passwordRead ∈ lw_tg := in_t 1781 (by decide +kernel)
theorem ks_M_passwordRead : Cond.instanceMethod y_M_passwordRead ∈ lw_tg := in_t 1780 (by decide +kernel)
theorem kx_M_passwordRead : Cond.selects R_M y_M_passwordRead y_M_passwordRead ∈ lw_tg := List.mem_filter.mpr ⟨List.mem_append_left _ (List.mem_of_getElem? (i := 75) (by decide +kernel)), rfl⟩
theorem kl_M_passwordRead : Cond.methodLink R_M 617 y_M_passwordRead ∈ lw_tg := in_t 1778 (by decide +kernel)
theorem hd_M_passwordRead : y_M_passwordRead.cls = R_M ∧ y_M_passwordRead.cls ≠ "java/lang/invoke/MethodHandle" ∧ y_M_passwordRead.cls ≠ "java/lang/invoke/VarHandle" ∧ (parseMethodDescriptor y_M_passwordRead.desc).map (fun d => d.parameters.length) = some 2 := by decide +kernel
theorem d_M_passwordRead_0 : decode b_M_passwordRead 0 = .ok (.aload_n 0, 1) := by decide +kernel
theorem d_M_passwordRead_1 : decode b_M_passwordRead 1 = .ok (.iload_n 2, 1) := by decide +kernel
theorem d_M_passwordRead_2 : decode b_M_passwordRead 2 = .ok (.iload_n 1, 1) := by decide +kernel
theorem d_M_passwordRead_3 : decode b_M_passwordRead 3 = .ok (.isub, 1) := by decide +kernel
theorem d_M_passwordRead_4 : decode b_M_passwordRead 4 = .ok (.putfield 418, 3) := by decide +kernel
theorem d_M_passwordRead_7 : decode b_M_passwordRead 7 = .ok (.aload_n 0, 1) := by decide +kernel
theorem d_M_passwordRead_8 : decode b_M_passwordRead 8 = .ok (.getfield 418, 3) := by decide +kernel
theorem d_M_passwordRead_11 : decode b_M_passwordRead 11 = .ok (.bipush 20, 2) := by decide +kernel
theorem d_M_passwordRead_13 : decode b_M_passwordRead 13 = .ok (.if_icmp .le 5, 3) := by decide +kernel
theorem d_M_passwordRead_16 : decode b_M_passwordRead 16 = .ok (.iconst 0, 1) := by decide +kernel
theorem d_M_passwordRead_17 : decode b_M_passwordRead 17 = .ok (.ireturn, 1) := by decide +kernel
theorem d_M_passwordRead_18 : decode b_M_passwordRead 18 = .ok (.iload_n 1, 1) := by decide +kernel
theorem d_M_passwordRead_19 : decode b_M_passwordRead 19 = .ok (.istore_n 3, 1) := by decide +kernel
theorem d_M_passwordRead_20 : decode b_M_passwordRead 20 = .ok (.iload_n 3, 1) := by decide +kernel
theorem d_M_passwordRead_21 : decode b_M_passwordRead 21 = .ok (.iload_n 2, 1) := by decide +kernel
theorem d_M_passwordRead_22 : decode b_M_passwordRead 22 = .ok (.if_icmp .ge 47, 3) := by decide +kernel
theorem d_M_passwordRead_25 : decode b_M_passwordRead 25 = .ok (.aload_n 0, 1) := by decide +kernel
theorem d_M_passwordRead_26 : decode b_M_passwordRead 26 = .ok (.getfield 10, 3) := by decide +kernel
theorem d_M_passwordRead_29 : decode b_M_passwordRead 29 = .ok (.iload_n 3, 1) := by decide +kernel
theorem d_M_passwordRead_30 : decode b_M_passwordRead 30 = .ok (.baload, 1) := by decide +kernel
theorem d_M_passwordRead_31 : decode b_M_passwordRead 31 = .ok (.bipush 32, 2) := by decide +kernel
theorem d_M_passwordRead_33 : decode b_M_passwordRead 33 = .ok (.if_icmp .lt 14, 3) := by decide +kernel
theorem d_M_passwordRead_36 : decode b_M_passwordRead 36 = .ok (.aload_n 0, 1) := by decide +kernel
theorem d_M_passwordRead_37 : decode b_M_passwordRead 37 = .ok (.getfield 10, 3) := by decide +kernel
theorem d_M_passwordRead_40 : decode b_M_passwordRead 40 = .ok (.iload_n 3, 1) := by decide +kernel
theorem d_M_passwordRead_41 : decode b_M_passwordRead 41 = .ok (.baload, 1) := by decide +kernel
theorem d_M_passwordRead_42 : decode b_M_passwordRead 42 = .ok (.bipush 126, 2) := by decide +kernel
theorem d_M_passwordRead_44 : decode b_M_passwordRead 44 = .ok (.if_icmp .le 5, 3) := by decide +kernel
theorem d_M_passwordRead_47 : decode b_M_passwordRead 47 = .ok (.iconst 0, 1) := by decide +kernel
theorem d_M_passwordRead_48 : decode b_M_passwordRead 48 = .ok (.ireturn, 1) := by decide +kernel
theorem d_M_passwordRead_49 : decode b_M_passwordRead 49 = .ok (.aload_n 0, 1) := by decide +kernel
theorem d_M_passwordRead_50 : decode b_M_passwordRead 50 = .ok (.getfield 74, 3) := by decide +kernel
theorem d_M_passwordRead_53 : decode b_M_passwordRead 53 = .ok (.iload_n 3, 1) := by decide +kernel
theorem d_M_passwordRead_54 : decode b_M_passwordRead 54 = .ok (.iload_n 1, 1) := by decide +kernel
theorem d_M_passwordRead_55 : decode b_M_passwordRead 55 = .ok (.isub, 1) := by decide +kernel
theorem d_M_passwordRead_56 : decode b_M_passwordRead 56 = .ok (.aload_n 0, 1) := by decide +kernel
theorem d_M_passwordRead_57 : decode b_M_passwordRead 57 = .ok (.getfield 10, 3) := by decide +kernel
theorem d_M_passwordRead_60 : decode b_M_passwordRead 60 = .ok (.iload_n 3, 1) := by decide +kernel
theorem d_M_passwordRead_61 : decode b_M_passwordRead 61 = .ok (.baload, 1) := by decide +kernel
theorem d_M_passwordRead_62 : decode b_M_passwordRead 62 = .ok (.bastore, 1) := by decide +kernel
theorem d_M_passwordRead_63 : decode b_M_passwordRead 63 = .ok (.iinc 3 1, 3) := by decide +kernel
theorem d_M_passwordRead_66 : decode b_M_passwordRead 66 = .ok (.goto (-46), 3) := by decide +kernel
theorem d_M_passwordRead_69 : decode b_M_passwordRead 69 = .ok (.iconst 1, 1) := by decide +kernel
theorem d_M_passwordRead_70 : decode b_M_passwordRead 70 = .ok (.ireturn, 1) := by decide +kernel
abbrev b_M_saltOf : ByteArray := prog_14_method_86_code
def y_M_saltOf : MethodName := ⟨R_M, "saltOf", "([BII)V"⟩
abbrev k_M_saltOf : Cond := .code y_M_saltOf b_M_saltOf 6 none
theorem ki_M_saltOf : k_M_saltOf ∈ lw_tg := in_t 1795 (by decide +kernel)
theorem ks_M_saltOf : Cond.instanceMethod y_M_saltOf ∈ lw_tg := in_t 1794 (by decide +kernel)
theorem kx_M_saltOf : Cond.selects R_M y_M_saltOf y_M_saltOf ∈ lw_tg := List.mem_filter.mpr ⟨List.mem_append_left _ (List.mem_of_getElem? (i := 78) (by decide +kernel)), rfl⟩
theorem kl_M_saltOf : Cond.methodLink R_M 623 y_M_saltOf ∈ lw_tg := in_t 1792 (by decide +kernel)
theorem hd_M_saltOf : y_M_saltOf.cls = R_M ∧ y_M_saltOf.cls ≠ "java/lang/invoke/MethodHandle" ∧ y_M_saltOf.cls ≠ "java/lang/invoke/VarHandle" ∧ (parseMethodDescriptor y_M_saltOf.desc).map (fun d => d.parameters.length) = some 3 := by decide +kernel
theorem d_M_saltOf_0 : decode b_M_saltOf 0 = .ok (.ldc_w 621, 3) := by decide +kernel
theorem d_M_saltOf_3 : decode b_M_saltOf 3 = .ok (.astore 4, 2) := by decide +kernel
theorem d_M_saltOf_5 : decode b_M_saltOf 5 = .ok (.aload_n 0, 1) := by decide +kernel
theorem d_M_saltOf_6 : decode b_M_saltOf 6 = .ok (.iconst 0, 1) := by decide +kernel
theorem d_M_saltOf_7 : decode b_M_saltOf 7 = .ok (.putfield 426, 3) := by decide +kernel
theorem d_M_saltOf_10 : decode b_M_saltOf 10 = .ok (.iconst 0, 1) := by decide +kernel
theorem d_M_saltOf_11 : decode b_M_saltOf 11 = .ok (.istore 5, 2) := by decide +kernel
theorem d_M_saltOf_13 : decode b_M_saltOf 13 = .ok (.iload 5, 2) := by decide +kernel
theorem d_M_saltOf_15 : decode b_M_saltOf 15 = .ok (.iconst 5, 1) := by decide +kernel
theorem d_M_saltOf_16 : decode b_M_saltOf 16 = .ok (.if_icmp .ge 24, 3) := by decide +kernel
theorem d_M_saltOf_19 : decode b_M_saltOf 19 = .ok (.aload_n 0, 1) := by decide +kernel
theorem d_M_saltOf_20 : decode b_M_saltOf 20 = .ok (.getfield 71, 3) := by decide +kernel
theorem d_M_saltOf_23 : decode b_M_saltOf 23 = .ok (.iload 5, 2) := by decide +kernel
theorem d_M_saltOf_25 : decode b_M_saltOf 25 = .ok (.aload 4, 2) := by decide +kernel
theorem d_M_saltOf_27 : decode b_M_saltOf 27 = .ok (.iload 5, 2) := by decide +kernel
theorem d_M_saltOf_29 : decode b_M_saltOf 29 = .ok (.invokevirtual 344, 3) := by decide +kernel
theorem d_M_saltOf_32 : decode b_M_saltOf 32 = .ok (.i2b, 1) := by decide +kernel
theorem d_M_saltOf_33 : decode b_M_saltOf 33 = .ok (.bastore, 1) := by decide +kernel
theorem d_M_saltOf_34 : decode b_M_saltOf 34 = .ok (.iinc 5 1, 3) := by decide +kernel
theorem d_M_saltOf_37 : decode b_M_saltOf 37 = .ok (.goto (-24), 3) := by decide +kernel
theorem d_M_saltOf_40 : decode b_M_saltOf 40 = .ok (.aload_n 0, 1) := by decide +kernel
theorem d_M_saltOf_41 : decode b_M_saltOf 41 = .ok (.iconst 5, 1) := by decide +kernel
theorem d_M_saltOf_42 : decode b_M_saltOf 42 = .ok (.putfield 426, 3) := by decide +kernel
theorem d_M_saltOf_45 : decode b_M_saltOf 45 = .ok (.iconst 0, 1) := by decide +kernel
theorem d_M_saltOf_46 : decode b_M_saltOf 46 = .ok (.istore 5, 2) := by decide +kernel
theorem d_M_saltOf_48 : decode b_M_saltOf 48 = .ok (.iload 5, 2) := by decide +kernel
theorem d_M_saltOf_50 : decode b_M_saltOf 50 = .ok (.iload_n 3, 1) := by decide +kernel
theorem d_M_saltOf_51 : decode b_M_saltOf 51 = .ok (.if_icmp .ge 48, 3) := by decide +kernel
theorem d_M_saltOf_54 : decode b_M_saltOf 54 = .ok (.aload_n 1, 1) := by decide +kernel
theorem d_M_saltOf_55 : decode b_M_saltOf 55 = .ok (.iload_n 2, 1) := by decide +kernel
theorem d_M_saltOf_56 : decode b_M_saltOf 56 = .ok (.iload 5, 2) := by decide +kernel
theorem d_M_saltOf_58 : decode b_M_saltOf 58 = .ok (.iadd, 1) := by decide +kernel
theorem d_M_saltOf_59 : decode b_M_saltOf 59 = .ok (.baload, 1) := by decide +kernel
theorem d_M_saltOf_60 : decode b_M_saltOf 60 = .ok (.bipush 47, 2) := by decide +kernel
theorem d_M_saltOf_62 : decode b_M_saltOf 62 = .ok (.if_icmp .ne 6, 3) := by decide +kernel
theorem d_M_saltOf_65 : decode b_M_saltOf 65 = .ok (.goto 28, 3) := by decide +kernel
theorem d_M_saltOf_68 : decode b_M_saltOf 68 = .ok (.aload_n 0, 1) := by decide +kernel
theorem d_M_saltOf_69 : decode b_M_saltOf 69 = .ok (.getfield 71, 3) := by decide +kernel
theorem d_M_saltOf_72 : decode b_M_saltOf 72 = .ok (.aload_n 0, 1) := by decide +kernel
theorem d_M_saltOf_73 : decode b_M_saltOf 73 = .ok (.getfield 426, 3) := by decide +kernel
theorem d_M_saltOf_76 : decode b_M_saltOf 76 = .ok (.aload_n 1, 1) := by decide +kernel
theorem d_M_saltOf_77 : decode b_M_saltOf 77 = .ok (.iload_n 2, 1) := by decide +kernel
theorem d_M_saltOf_78 : decode b_M_saltOf 78 = .ok (.iload 5, 2) := by decide +kernel
theorem d_M_saltOf_80 : decode b_M_saltOf 80 = .ok (.iadd, 1) := by decide +kernel
theorem d_M_saltOf_81 : decode b_M_saltOf 81 = .ok (.baload, 1) := by decide +kernel
theorem d_M_saltOf_82 : decode b_M_saltOf 82 = .ok (.bastore, 1) := by decide +kernel
theorem d_M_saltOf_83 : decode b_M_saltOf 83 = .ok (.aload_n 0, 1) := by decide +kernel
theorem d_M_saltOf_84 : decode b_M_saltOf 84 = .ok (.dup, 1) := by decide +kernel
theorem d_M_saltOf_85 : decode b_M_saltOf 85 = .ok (.getfield 426, 3) := by decide +kernel
theorem d_M_saltOf_88 : decode b_M_saltOf 88 = .ok (.iconst 1, 1) := by decide +kernel
theorem d_M_saltOf_89 : decode b_M_saltOf 89 = .ok (.iadd, 1) := by decide +kernel
theorem d_M_saltOf_90 : decode b_M_saltOf 90 = .ok (.putfield 426, 3) := by decide +kernel
theorem d_M_saltOf_93 : decode b_M_saltOf 93 = .ok (.iinc 5 1, 3) := by decide +kernel
theorem d_M_saltOf_96 : decode b_M_saltOf 96 = .ok (.goto (-48), 3) := by decide +kernel
theorem d_M_saltOf_99 : decode b_M_saltOf 99 = .ok (.return_, 1) := by decide +kernel
abbrev b_M_setKeys : ByteArray := prog_14_method_87_code
def y_M_setKeys : MethodName := ⟨R_M, "setKeys", "(II)V"⟩
abbrev k_M_setKeys : Cond := .code y_M_setKeys b_M_setKeys 5 none
theorem ki_M_setKeys : k_M_setKeys ∈ lw_tg := in_t 1791 (by decide +kernel)
theorem ks_M_setKeys : Cond.instanceMethod y_M_setKeys ∈ lw_tg := in_t 1790 (by decide +kernel)
theorem kx_M_setKeys : Cond.selects R_M y_M_setKeys y_M_setKeys ∈ lw_tg := List.mem_filter.mpr ⟨List.mem_append_left _ (List.mem_of_getElem? (i := 77) (by decide +kernel)), rfl⟩
theorem kl_M_setKeys : Cond.methodLink R_M 641 y_M_setKeys ∈ lw_tg := in_t 1788 (by decide +kernel)
theorem hd_M_setKeys : y_M_setKeys.cls = R_M ∧ y_M_setKeys.cls ≠ "java/lang/invoke/MethodHandle" ∧ y_M_setKeys.cls ≠ "java/lang/invoke/VarHandle" ∧ (parseMethodDescriptor y_M_setKeys.desc).map (fun d => d.parameters.length) = some 2 := by decide +kernel
theorem d_M_setKeys_0 : decode b_M_setKeys 0 = .ok (.aload_n 0, 1) := by decide +kernel
theorem d_M_setKeys_1 : decode b_M_setKeys 1 = .ok (.getfield 107, 3) := by decide +kernel
theorem d_M_setKeys_4 : decode b_M_setKeys 4 = .ok (.iload_n 1, 1) := by decide +kernel
theorem d_M_setKeys_5 : decode b_M_setKeys 5 = .ok (.dup2, 1) := by decide +kernel
theorem d_M_setKeys_6 : decode b_M_setKeys 6 = .ok (.iaload, 1) := by decide +kernel
theorem d_M_setKeys_7 : decode b_M_setKeys 7 = .ok (.iconst 1, 1) := by decide +kernel
theorem d_M_setKeys_8 : decode b_M_setKeys 8 = .ok (.iadd, 1) := by decide +kernel
theorem d_M_setKeys_9 : decode b_M_setKeys 9 = .ok (.iastore, 1) := by decide +kernel
theorem d_M_setKeys_10 : decode b_M_setKeys 10 = .ok (.aload_n 0, 1) := by decide +kernel
theorem d_M_setKeys_11 : decode b_M_setKeys 11 = .ok (.getfield 110, 3) := by decide +kernel
theorem d_M_setKeys_14 : decode b_M_setKeys 14 = .ok (.iload_n 1, 1) := by decide +kernel
theorem d_M_setKeys_15 : decode b_M_setKeys 15 = .ok (.iload_n 2, 1) := by decide +kernel
theorem d_M_setKeys_16 : decode b_M_setKeys 16 = .ok (.iastore, 1) := by decide +kernel
theorem d_M_setKeys_17 : decode b_M_setKeys 17 = .ok (.aload_n 0, 1) := by decide +kernel
theorem d_M_setKeys_18 : decode b_M_setKeys 18 = .ok (.aload_n 0, 1) := by decide +kernel
theorem d_M_setKeys_19 : decode b_M_setKeys 19 = .ok (.getfield 101, 3) := by decide +kernel
theorem d_M_setKeys_22 : decode b_M_setKeys 22 = .ok (.bipush 40, 2) := by decide +kernel
theorem d_M_setKeys_24 : decode b_M_setKeys 24 = .ok (.iload_n 1, 1) := by decide +kernel
theorem d_M_setKeys_25 : decode b_M_setKeys 25 = .ok (.imul, 1) := by decide +kernel
theorem d_M_setKeys_26 : decode b_M_setKeys 26 = .ok (.aload_n 0, 1) := by decide +kernel
theorem d_M_setKeys_27 : decode b_M_setKeys 27 = .ok (.getfield 104, 3) := by decide +kernel
theorem d_M_setKeys_30 : decode b_M_setKeys 30 = .ok (.iload_n 1, 1) := by decide +kernel
theorem d_M_setKeys_31 : decode b_M_setKeys 31 = .ok (.iaload, 1) := by decide +kernel
theorem d_M_setKeys_32 : decode b_M_setKeys 32 = .ok (.invokevirtual 623, 3) := by decide +kernel
theorem d_M_setKeys_35 : decode b_M_setKeys 35 = .ok (.iconst 0, 1) := by decide +kernel
theorem d_M_setKeys_36 : decode b_M_setKeys 36 = .ok (.istore_n 3, 1) := by decide +kernel
theorem d_M_setKeys_37 : decode b_M_setKeys 37 = .ok (.iload_n 3, 1) := by decide +kernel
theorem d_M_setKeys_38 : decode b_M_setKeys 38 = .ok (.iconst 2, 1) := by decide +kernel
theorem d_M_setKeys_39 : decode b_M_setKeys 39 = .ok (.if_icmp .ge 94, 3) := by decide +kernel
theorem d_M_setKeys_42 : decode b_M_setKeys 42 = .ok (.aload_n 0, 1) := by decide +kernel
theorem d_M_setKeys_43 : decode b_M_setKeys 43 = .ok (.iload_n 3, 1) := by decide +kernel
theorem d_M_setKeys_44 : decode b_M_setKeys 44 = .ok (.ifCond .ne 8, 3) := by decide +kernel
theorem d_M_setKeys_47 : decode b_M_setKeys 47 = .ok (.bipush 16, 2) := by decide +kernel
theorem d_M_setKeys_49 : decode b_M_setKeys 49 = .ok (.goto 5, 3) := by decide +kernel
theorem d_M_setKeys_52 : decode b_M_setKeys 52 = .ok (.bipush 32, 2) := by decide +kernel
theorem d_M_setKeys_54 : decode b_M_setKeys 54 = .ok (.iload_n 2, 1) := by decide +kernel
theorem d_M_setKeys_55 : decode b_M_setKeys 55 = .ok (.aload_n 0, 1) := by decide +kernel
theorem d_M_setKeys_56 : decode b_M_setKeys 56 = .ok (.getfield 131, 3) := by decide +kernel
theorem d_M_setKeys_59 : decode b_M_setKeys 59 = .ok (.invokevirtual 626, 3) := by decide +kernel
theorem d_M_setKeys_62 : decode b_M_setKeys 62 = .ok (.iconst 0, 1) := by decide +kernel
theorem d_M_setKeys_63 : decode b_M_setKeys 63 = .ok (.istore 4, 2) := by decide +kernel
theorem d_M_setKeys_65 : decode b_M_setKeys 65 = .ok (.iload 4, 2) := by decide +kernel
theorem d_M_setKeys_67 : decode b_M_setKeys 67 = .ok (.bipush 32, 2) := by decide +kernel
theorem d_M_setKeys_69 : decode b_M_setKeys 69 = .ok (.if_icmp .ge 58, 3) := by decide +kernel
theorem d_M_setKeys_72 : decode b_M_setKeys 72 = .ok (.aload_n 0, 1) := by decide +kernel
theorem d_M_setKeys_73 : decode b_M_setKeys 73 = .ok (.getfield 125, 3) := by decide +kernel
theorem d_M_setKeys_76 : decode b_M_setKeys 76 = .ok (.bipush 32, 2) := by decide +kernel
theorem d_M_setKeys_78 : decode b_M_setKeys 78 = .ok (.iconst 4, 1) := by decide +kernel
theorem d_M_setKeys_79 : decode b_M_setKeys 79 = .ok (.iload_n 1, 1) := by decide +kernel
theorem d_M_setKeys_80 : decode b_M_setKeys 80 = .ok (.imul, 1) := by decide +kernel
theorem d_M_setKeys_81 : decode b_M_setKeys 81 = .ok (.iconst 2, 1) := by decide +kernel
theorem d_M_setKeys_82 : decode b_M_setKeys 82 = .ok (.aload_n 0, 1) := by decide +kernel
theorem d_M_setKeys_83 : decode b_M_setKeys 83 = .ok (.getfield 107, 3) := by decide +kernel
theorem d_M_setKeys_86 : decode b_M_setKeys 86 = .ok (.iload_n 1, 1) := by decide +kernel
theorem d_M_setKeys_87 : decode b_M_setKeys 87 = .ok (.iaload, 1) := by decide +kernel
theorem d_M_setKeys_88 : decode b_M_setKeys 88 = .ok (.iconst 2, 1) := by decide +kernel
theorem d_M_setKeys_89 : decode b_M_setKeys 89 = .ok (.irem, 1) := by decide +kernel
theorem d_M_setKeys_90 : decode b_M_setKeys 90 = .ok (.imul, 1) := by decide +kernel
theorem d_M_setKeys_91 : decode b_M_setKeys 91 = .ok (.iadd, 1) := by decide +kernel
theorem d_M_setKeys_92 : decode b_M_setKeys 92 = .ok (.iload_n 3, 1) := by decide +kernel
theorem d_M_setKeys_93 : decode b_M_setKeys 93 = .ok (.iadd, 1) := by decide +kernel
theorem d_M_setKeys_94 : decode b_M_setKeys 94 = .ok (.imul, 1) := by decide +kernel
theorem d_M_setKeys_95 : decode b_M_setKeys 95 = .ok (.iload 4, 2) := by decide +kernel
theorem d_M_setKeys_97 : decode b_M_setKeys 97 = .ok (.iadd, 1) := by decide +kernel
theorem d_M_setKeys_98 : decode b_M_setKeys 98 = .ok (.iload_n 3, 1) := by decide +kernel
theorem d_M_setKeys_99 : decode b_M_setKeys 99 = .ok (.ifCond .ne 14, 3) := by decide +kernel
theorem d_M_setKeys_102 : decode b_M_setKeys 102 = .ok (.iload 4, 2) := by decide +kernel
theorem d_M_setKeys_104 : decode b_M_setKeys 104 = .ok (.bipush 15, 2) := by decide +kernel
theorem d_M_setKeys_106 : decode b_M_setKeys 106 = .ok (.if_icmp .le 7, 3) := by decide +kernel
theorem d_M_setKeys_109 : decode b_M_setKeys 109 = .ok (.iconst 0, 1) := by decide +kernel
theorem d_M_setKeys_110 : decode b_M_setKeys 110 = .ok (.goto 10, 3) := by decide +kernel
theorem d_M_setKeys_113 : decode b_M_setKeys 113 = .ok (.aload_n 0, 1) := by decide +kernel
theorem d_M_setKeys_114 : decode b_M_setKeys 114 = .ok (.getfield 131, 3) := by decide +kernel
theorem d_M_setKeys_117 : decode b_M_setKeys 117 = .ok (.iload 4, 2) := by decide +kernel
theorem d_M_setKeys_119 : decode b_M_setKeys 119 = .ok (.baload, 1) := by decide +kernel
theorem d_M_setKeys_120 : decode b_M_setKeys 120 = .ok (.bastore, 1) := by decide +kernel
theorem d_M_setKeys_121 : decode b_M_setKeys 121 = .ok (.iinc 4 1, 3) := by decide +kernel
theorem d_M_setKeys_124 : decode b_M_setKeys 124 = .ok (.goto (-59), 3) := by decide +kernel
theorem d_M_setKeys_127 : decode b_M_setKeys 127 = .ok (.iinc 3 1, 3) := by decide +kernel
theorem d_M_setKeys_130 : decode b_M_setKeys 130 = .ok (.goto (-93), 3) := by decide +kernel
theorem d_M_setKeys_133 : decode b_M_setKeys 133 = .ok (.return_, 1) := by decide +kernel
abbrev b_M_findName : ByteArray := prog_14_method_88_code
def y_M_findName : MethodName := ⟨R_M, "findName", "()I"⟩
abbrev k_M_findName : Cond := .code y_M_findName b_M_findName 4 (some .int)
theorem ki_M_findName : k_M_findName ∈ lw_tg := in_t 1785 (by decide +kernel)
theorem ks_M_findName : Cond.instanceMethod y_M_findName ∈ lw_tg := in_t 1784 (by decide +kernel)
theorem kx_M_findName : Cond.selects R_M y_M_findName y_M_findName ∈ lw_tg := List.mem_filter.mpr ⟨List.mem_append_left _ (List.mem_of_getElem? (i := 76) (by decide +kernel)), rfl⟩
theorem kl_M_findName : Cond.methodLink R_M 636 y_M_findName ∈ lw_tg := in_t 1782 (by decide +kernel)
theorem hd_M_findName : y_M_findName.cls = R_M ∧ y_M_findName.cls ≠ "java/lang/invoke/MethodHandle" ∧ y_M_findName.cls ≠ "java/lang/invoke/VarHandle" ∧ (parseMethodDescriptor y_M_findName.desc).map (fun d => d.parameters.length) = some 0 := by decide +kernel
theorem d_M_findName_0 : decode b_M_findName 0 = .ok (.iconst 0, 1) := by decide +kernel
theorem d_M_findName_1 : decode b_M_findName 1 = .ok (.istore_n 1, 1) := by decide +kernel
theorem d_M_findName_2 : decode b_M_findName 2 = .ok (.iload_n 1, 1) := by decide +kernel
theorem d_M_findName_3 : decode b_M_findName 3 = .ok (.aload_n 0, 1) := by decide +kernel
theorem d_M_findName_4 : decode b_M_findName 4 = .ok (.getfield 630, 3) := by decide +kernel
theorem d_M_findName_7 : decode b_M_findName 7 = .ok (.if_icmp .ge 80, 3) := by decide +kernel
theorem d_M_findName_10 : decode b_M_findName 10 = .ok (.aload_n 0, 1) := by decide +kernel
theorem d_M_findName_11 : decode b_M_findName 11 = .ok (.getfield 104, 3) := by decide +kernel
theorem d_M_findName_14 : decode b_M_findName 14 = .ok (.iload_n 1, 1) := by decide +kernel
theorem d_M_findName_15 : decode b_M_findName 15 = .ok (.iaload, 1) := by decide +kernel
theorem d_M_findName_16 : decode b_M_findName 16 = .ok (.aload_n 0, 1) := by decide +kernel
theorem d_M_findName_17 : decode b_M_findName 17 = .ok (.getfield 608, 3) := by decide +kernel
theorem d_M_findName_20 : decode b_M_findName 20 = .ok (.if_icmp .ne 7, 3) := by decide +kernel
theorem d_M_findName_23 : decode b_M_findName 23 = .ok (.iconst 1, 1) := by decide +kernel
theorem d_M_findName_24 : decode b_M_findName 24 = .ok (.goto 4, 3) := by decide +kernel
theorem d_M_findName_27 : decode b_M_findName 27 = .ok (.iconst 0, 1) := by decide +kernel
theorem d_M_findName_28 : decode b_M_findName 28 = .ok (.istore_n 2, 1) := by decide +kernel
theorem d_M_findName_29 : decode b_M_findName 29 = .ok (.iconst 0, 1) := by decide +kernel
theorem d_M_findName_30 : decode b_M_findName 30 = .ok (.istore_n 3, 1) := by decide +kernel
theorem d_M_findName_31 : decode b_M_findName 31 = .ok (.iload_n 3, 1) := by decide +kernel
theorem d_M_findName_32 : decode b_M_findName 32 = .ok (.aload_n 0, 1) := by decide +kernel
theorem d_M_findName_33 : decode b_M_findName 33 = .ok (.getfield 608, 3) := by decide +kernel
theorem d_M_findName_36 : decode b_M_findName 36 = .ok (.if_icmp .ge 39, 3) := by decide +kernel
theorem d_M_findName_39 : decode b_M_findName 39 = .ok (.iload_n 2, 1) := by decide +kernel
theorem d_M_findName_40 : decode b_M_findName 40 = .ok (.ifCond .eq 35, 3) := by decide +kernel
theorem d_M_findName_43 : decode b_M_findName 43 = .ok (.aload_n 0, 1) := by decide +kernel
theorem d_M_findName_44 : decode b_M_findName 44 = .ok (.getfield 101, 3) := by decide +kernel
theorem d_M_findName_47 : decode b_M_findName 47 = .ok (.bipush 40, 2) := by decide +kernel
theorem d_M_findName_49 : decode b_M_findName 49 = .ok (.iload_n 1, 1) := by decide +kernel
theorem d_M_findName_50 : decode b_M_findName 50 = .ok (.imul, 1) := by decide +kernel
theorem d_M_findName_51 : decode b_M_findName 51 = .ok (.iload_n 3, 1) := by decide +kernel
theorem d_M_findName_52 : decode b_M_findName 52 = .ok (.iadd, 1) := by decide +kernel
theorem d_M_findName_53 : decode b_M_findName 53 = .ok (.baload, 1) := by decide +kernel
theorem d_M_findName_54 : decode b_M_findName 54 = .ok (.aload_n 0, 1) := by decide +kernel
theorem d_M_findName_55 : decode b_M_findName 55 = .ok (.getfield 128, 3) := by decide +kernel
theorem d_M_findName_58 : decode b_M_findName 58 = .ok (.iload_n 3, 1) := by decide +kernel
theorem d_M_findName_59 : decode b_M_findName 59 = .ok (.baload, 1) := by decide +kernel
theorem d_M_findName_60 : decode b_M_findName 60 = .ok (.if_icmp .ne 7, 3) := by decide +kernel
theorem d_M_findName_63 : decode b_M_findName 63 = .ok (.iconst 1, 1) := by decide +kernel
theorem d_M_findName_64 : decode b_M_findName 64 = .ok (.goto 4, 3) := by decide +kernel
theorem d_M_findName_67 : decode b_M_findName 67 = .ok (.iconst 0, 1) := by decide +kernel
theorem d_M_findName_68 : decode b_M_findName 68 = .ok (.istore_n 2, 1) := by decide +kernel
theorem d_M_findName_69 : decode b_M_findName 69 = .ok (.iinc 3 1, 3) := by decide +kernel
theorem d_M_findName_72 : decode b_M_findName 72 = .ok (.goto (-41), 3) := by decide +kernel
theorem d_M_findName_75 : decode b_M_findName 75 = .ok (.iload_n 2, 1) := by decide +kernel
theorem d_M_findName_76 : decode b_M_findName 76 = .ok (.ifCond .eq 5, 3) := by decide +kernel
theorem d_M_findName_79 : decode b_M_findName 79 = .ok (.iload_n 1, 1) := by decide +kernel
theorem d_M_findName_80 : decode b_M_findName 80 = .ok (.ireturn, 1) := by decide +kernel
theorem d_M_findName_81 : decode b_M_findName 81 = .ok (.iinc 1 1, 3) := by decide +kernel
theorem d_M_findName_84 : decode b_M_findName 84 = .ok (.goto (-82), 3) := by decide +kernel
theorem d_M_findName_87 : decode b_M_findName 87 = .ok (.iconst (-1), 1) := by decide +kernel
theorem d_M_findName_88 : decode b_M_findName 88 = .ok (.ireturn, 1) := by decide +kernel
abbrev b_M_add : ByteArray := prog_14_method_89_code
def y_M_add : MethodName := ⟨R_M, "add", "(IZ)I"⟩
abbrev k_M_add : Cond := .code y_M_add b_M_add 5 (some .int)
theorem ki_M_add : k_M_add ∈ lw_tg := in_t 1764 (by decide +kernel)
theorem ks_M_add : Cond.instanceMethod y_M_add ∈ lw_tg := in_t 1763 (by decide +kernel)
theorem kx_M_add : Cond.selects R_M y_M_add y_M_add ∈ lw_tg := List.mem_filter.mpr ⟨List.mem_append_left _ (List.mem_of_getElem? (i := 71) (by decide +kernel)), rfl⟩
theorem kl_M_add : Cond.methodLink R_M 335 y_M_add ∈ lw_tg := in_t 1761 (by decide +kernel)
theorem hd_M_add : y_M_add.cls = R_M ∧ y_M_add.cls ≠ "java/lang/invoke/MethodHandle" ∧ y_M_add.cls ≠ "java/lang/invoke/VarHandle" ∧ (parseMethodDescriptor y_M_add.desc).map (fun d => d.parameters.length) = some 2 := by decide +kernel
theorem d_M_add_0 : decode b_M_add 0 = .ok (.aload_n 0, 1) := by decide +kernel
theorem d_M_add_1 : decode b_M_add 1 = .ok (.iload_n 2, 1) := by decide +kernel
theorem d_M_add_2 : decode b_M_add 2 = .ok (.invokevirtual 633, 3) := by decide +kernel
theorem d_M_add_5 : decode b_M_add 5 = .ok (.ifCond .eq 31, 3) := by decide +kernel
theorem d_M_add_8 : decode b_M_add 8 = .ok (.iload_n 1, 1) := by decide +kernel
theorem d_M_add_9 : decode b_M_add 9 = .ok (.iconst 1, 1) := by decide +kernel
theorem d_M_add_10 : decode b_M_add 10 = .ok (.if_icmp .lt 26, 3) := by decide +kernel
theorem d_M_add_13 : decode b_M_add 13 = .ok (.iload_n 1, 1) := by decide +kernel
theorem d_M_add_14 : decode b_M_add 14 = .ok (.sipush 200, 3) := by decide +kernel
theorem d_M_add_17 : decode b_M_add 17 = .ok (.if_icmp .gt 19, 3) := by decide +kernel
theorem d_M_add_20 : decode b_M_add 20 = .ok (.aload_n 0, 1) := by decide +kernel
theorem d_M_add_21 : decode b_M_add 21 = .ok (.getfield 630, 3) := by decide +kernel
theorem d_M_add_24 : decode b_M_add 24 = .ok (.bipush 12, 2) := by decide +kernel
theorem d_M_add_26 : decode b_M_add 26 = .ok (.if_icmp .eq 10, 3) := by decide +kernel
theorem d_M_add_29 : decode b_M_add 29 = .ok (.aload_n 0, 1) := by decide +kernel
theorem d_M_add_30 : decode b_M_add 30 = .ok (.invokevirtual 636, 3) := by decide +kernel
theorem d_M_add_33 : decode b_M_add 33 = .ok (.ifCond .lt 5, 3) := by decide +kernel
theorem d_M_add_36 : decode b_M_add 36 = .ok (.iconst (-1), 1) := by decide +kernel
theorem d_M_add_37 : decode b_M_add 37 = .ok (.ireturn, 1) := by decide +kernel
theorem d_M_add_38 : decode b_M_add 38 = .ok (.aload_n 0, 1) := by decide +kernel
theorem d_M_add_39 : decode b_M_add 39 = .ok (.getfield 630, 3) := by decide +kernel
theorem d_M_add_42 : decode b_M_add 42 = .ok (.istore_n 3, 1) := by decide +kernel
theorem d_M_add_43 : decode b_M_add 43 = .ok (.aload_n 0, 1) := by decide +kernel
theorem d_M_add_44 : decode b_M_add 44 = .ok (.dup, 1) := by decide +kernel
theorem d_M_add_45 : decode b_M_add 45 = .ok (.getfield 630, 3) := by decide +kernel
theorem d_M_add_48 : decode b_M_add 48 = .ok (.iconst 1, 1) := by decide +kernel
theorem d_M_add_49 : decode b_M_add 49 = .ok (.iadd, 1) := by decide +kernel
theorem d_M_add_50 : decode b_M_add 50 = .ok (.putfield 630, 3) := by decide +kernel
theorem d_M_add_53 : decode b_M_add 53 = .ok (.aload_n 0, 1) := by decide +kernel
theorem d_M_add_54 : decode b_M_add 54 = .ok (.getfield 104, 3) := by decide +kernel
theorem d_M_add_57 : decode b_M_add 57 = .ok (.iload_n 3, 1) := by decide +kernel
theorem d_M_add_58 : decode b_M_add 58 = .ok (.aload_n 0, 1) := by decide +kernel
theorem d_M_add_59 : decode b_M_add 59 = .ok (.getfield 608, 3) := by decide +kernel
theorem d_M_add_62 : decode b_M_add 62 = .ok (.iastore, 1) := by decide +kernel
theorem d_M_add_63 : decode b_M_add 63 = .ok (.iconst 0, 1) := by decide +kernel
theorem d_M_add_64 : decode b_M_add 64 = .ok (.istore 4, 2) := by decide +kernel
theorem d_M_add_66 : decode b_M_add 66 = .ok (.iload 4, 2) := by decide +kernel
theorem d_M_add_68 : decode b_M_add 68 = .ok (.aload_n 0, 1) := by decide +kernel
theorem d_M_add_69 : decode b_M_add 69 = .ok (.getfield 608, 3) := by decide +kernel
theorem d_M_add_72 : decode b_M_add 72 = .ok (.if_icmp .ge 28, 3) := by decide +kernel
theorem d_M_add_75 : decode b_M_add 75 = .ok (.aload_n 0, 1) := by decide +kernel
theorem d_M_add_76 : decode b_M_add 76 = .ok (.getfield 101, 3) := by decide +kernel
theorem d_M_add_79 : decode b_M_add 79 = .ok (.bipush 40, 2) := by decide +kernel
theorem d_M_add_81 : decode b_M_add 81 = .ok (.iload_n 3, 1) := by decide +kernel
theorem d_M_add_82 : decode b_M_add 82 = .ok (.imul, 1) := by decide +kernel
theorem d_M_add_83 : decode b_M_add 83 = .ok (.iload 4, 2) := by decide +kernel
theorem d_M_add_85 : decode b_M_add 85 = .ok (.iadd, 1) := by decide +kernel
theorem d_M_add_86 : decode b_M_add 86 = .ok (.aload_n 0, 1) := by decide +kernel
theorem d_M_add_87 : decode b_M_add 87 = .ok (.getfield 128, 3) := by decide +kernel
theorem d_M_add_90 : decode b_M_add 90 = .ok (.iload 4, 2) := by decide +kernel
theorem d_M_add_92 : decode b_M_add 92 = .ok (.baload, 1) := by decide +kernel
theorem d_M_add_93 : decode b_M_add 93 = .ok (.bastore, 1) := by decide +kernel
theorem d_M_add_94 : decode b_M_add 94 = .ok (.iinc 4 1, 3) := by decide +kernel
theorem d_M_add_97 : decode b_M_add 97 = .ok (.goto (-31), 3) := by decide +kernel
theorem d_M_add_100 : decode b_M_add 100 = .ok (.aload_n 0, 1) := by decide +kernel
theorem d_M_add_101 : decode b_M_add 101 = .ok (.getfield 107, 3) := by decide +kernel
theorem d_M_add_104 : decode b_M_add 104 = .ok (.iload_n 3, 1) := by decide +kernel
theorem d_M_add_105 : decode b_M_add 105 = .ok (.iconst 0, 1) := by decide +kernel
theorem d_M_add_106 : decode b_M_add 106 = .ok (.iastore, 1) := by decide +kernel
theorem d_M_add_107 : decode b_M_add 107 = .ok (.aload_n 0, 1) := by decide +kernel
theorem d_M_add_108 : decode b_M_add 108 = .ok (.getfield 113, 3) := by decide +kernel
theorem d_M_add_111 : decode b_M_add 111 = .ok (.iload_n 3, 1) := by decide +kernel
theorem d_M_add_112 : decode b_M_add 112 = .ok (.ldc_w 639, 3) := by decide +kernel
theorem d_M_add_115 : decode b_M_add 115 = .ok (.iastore, 1) := by decide +kernel
theorem d_M_add_116 : decode b_M_add 116 = .ok (.aload_n 0, 1) := by decide +kernel
theorem d_M_add_117 : decode b_M_add 117 = .ok (.getfield 116, 3) := by decide +kernel
theorem d_M_add_120 : decode b_M_add 120 = .ok (.iload_n 3, 1) := by decide +kernel
theorem d_M_add_121 : decode b_M_add 121 = .ok (.ldc_w 640, 3) := by decide +kernel
theorem d_M_add_124 : decode b_M_add 124 = .ok (.iastore, 1) := by decide +kernel
theorem d_M_add_125 : decode b_M_add 125 = .ok (.aload_n 0, 1) := by decide +kernel
theorem d_M_add_126 : decode b_M_add 126 = .ok (.getfield 119, 3) := by decide +kernel
theorem d_M_add_129 : decode b_M_add 129 = .ok (.iload_n 3, 1) := by decide +kernel
theorem d_M_add_130 : decode b_M_add 130 = .ok (.bipush 15, 2) := by decide +kernel
theorem d_M_add_132 : decode b_M_add 132 = .ok (.iastore, 1) := by decide +kernel
theorem d_M_add_133 : decode b_M_add 133 = .ok (.aload_n 0, 1) := by decide +kernel
theorem d_M_add_134 : decode b_M_add 134 = .ok (.getfield 122, 3) := by decide +kernel
theorem d_M_add_137 : decode b_M_add 137 = .ok (.iload_n 3, 1) := by decide +kernel
theorem d_M_add_138 : decode b_M_add 138 = .ok (.iconst 0, 1) := by decide +kernel
theorem d_M_add_139 : decode b_M_add 139 = .ok (.iastore, 1) := by decide +kernel
theorem d_M_add_140 : decode b_M_add 140 = .ok (.aload_n 0, 1) := by decide +kernel
theorem d_M_add_141 : decode b_M_add 141 = .ok (.iload_n 3, 1) := by decide +kernel
theorem d_M_add_142 : decode b_M_add 142 = .ok (.iload_n 1, 1) := by decide +kernel
theorem d_M_add_143 : decode b_M_add 143 = .ok (.invokevirtual 641, 3) := by decide +kernel
theorem d_M_add_146 : decode b_M_add 146 = .ok (.iload_n 3, 1) := by decide +kernel
theorem d_M_add_147 : decode b_M_add 147 = .ok (.ireturn, 1) := by decide +kernel
abbrev b_M_principal : ByteArray := prog_14_method_90_code
def y_M_principal : MethodName := ⟨R_M, "principal", "(I)I"⟩
abbrev k_M_principal : Cond := .code y_M_principal b_M_principal 3 (some .int)
theorem ki_M_principal : k_M_principal ∈ lw_tg := in_t 2337 (by decide +kernel)
theorem ks_M_principal : Cond.instanceMethod y_M_principal ∈ lw_tg := in_t 2335 (by decide +kernel)
theorem kx_M_principal : Cond.selects R_M y_M_principal y_M_principal ∈ lw_tg := in_t 2336 (by decide +kernel)
theorem hd_M_principal : y_M_principal.cls = R_M ∧ y_M_principal.cls ≠ "java/lang/invoke/MethodHandle" ∧ y_M_principal.cls ≠ "java/lang/invoke/VarHandle" ∧ (parseMethodDescriptor y_M_principal.desc).map (fun d => d.parameters.length) = some 1 := by decide +kernel
theorem d_M_principal_0 : decode b_M_principal 0 = .ok (.aload_n 0, 1) := by decide +kernel
theorem d_M_principal_1 : decode b_M_principal 1 = .ok (.iload_n 1, 1) := by decide +kernel
theorem d_M_principal_2 : decode b_M_principal 2 = .ok (.iconst 0, 1) := by decide +kernel
theorem d_M_principal_3 : decode b_M_principal 3 = .ok (.invokevirtual 335, 3) := by decide +kernel
theorem d_M_principal_6 : decode b_M_principal 6 = .ok (.istore_n 2, 1) := by decide +kernel
theorem d_M_principal_7 : decode b_M_principal 7 = .ok (.aload_n 0, 1) := by decide +kernel
theorem d_M_principal_8 : decode b_M_principal 8 = .ok (.iconst 0, 1) := by decide +kernel
theorem d_M_principal_9 : decode b_M_principal 9 = .ok (.putfield 332, 3) := by decide +kernel
theorem d_M_principal_12 : decode b_M_principal 12 = .ok (.iload_n 2, 1) := by decide +kernel
theorem d_M_principal_13 : decode b_M_principal 13 = .ok (.ireturn, 1) := by decide +kernel
abbrev b_M_change : ByteArray := prog_14_method_91_code
def y_M_change : MethodName := ⟨R_M, "change", "(II)I"⟩
abbrev k_M_change : Cond := .code y_M_change b_M_change 4 (some .int)
theorem ki_M_change : k_M_change ∈ lw_tg := in_t 2341 (by decide +kernel)
theorem ks_M_change : Cond.instanceMethod y_M_change ∈ lw_tg := in_t 2339 (by decide +kernel)
theorem kx_M_change : Cond.selects R_M y_M_change y_M_change ∈ lw_tg := in_t 2340 (by decide +kernel)
theorem hd_M_change : y_M_change.cls = R_M ∧ y_M_change.cls ≠ "java/lang/invoke/MethodHandle" ∧ y_M_change.cls ≠ "java/lang/invoke/VarHandle" ∧ (parseMethodDescriptor y_M_change.desc).map (fun d => d.parameters.length) = some 2 := by decide +kernel
theorem d_M_change_0 : decode b_M_change 0 = .ok (.iload_n 1, 1) := by decide +kernel
theorem d_M_change_1 : decode b_M_change 1 = .ok (.ifCond .lt 39, 3) := by decide +kernel
theorem d_M_change_4 : decode b_M_change 4 = .ok (.iload_n 1, 1) := by decide +kernel
theorem d_M_change_5 : decode b_M_change 5 = .ok (.aload_n 0, 1) := by decide +kernel
theorem d_M_change_6 : decode b_M_change 6 = .ok (.getfield 630, 3) := by decide +kernel
theorem d_M_change_9 : decode b_M_change 9 = .ok (.if_icmp .ge 31, 3) := by decide +kernel
theorem d_M_change_12 : decode b_M_change 12 = .ok (.iload_n 2, 1) := by decide +kernel
theorem d_M_change_13 : decode b_M_change 13 = .ok (.iconst 1, 1) := by decide +kernel
theorem d_M_change_14 : decode b_M_change 14 = .ok (.if_icmp .lt 26, 3) := by decide +kernel
theorem d_M_change_17 : decode b_M_change 17 = .ok (.iload_n 2, 1) := by decide +kernel
theorem d_M_change_18 : decode b_M_change 18 = .ok (.sipush 200, 3) := by decide +kernel
theorem d_M_change_21 : decode b_M_change 21 = .ok (.if_icmp .gt 19, 3) := by decide +kernel
theorem d_M_change_24 : decode b_M_change 24 = .ok (.aload_n 0, 1) := by decide +kernel
theorem d_M_change_25 : decode b_M_change 25 = .ok (.iconst 0, 1) := by decide +kernel
theorem d_M_change_26 : decode b_M_change 26 = .ok (.aload_n 0, 1) := by decide +kernel
theorem d_M_change_27 : decode b_M_change 27 = .ok (.getfield 332, 3) := by decide +kernel
theorem d_M_change_30 : decode b_M_change 30 = .ok (.invokevirtual 617, 3) := by decide +kernel
theorem d_M_change_33 : decode b_M_change 33 = .ok (.ifCond .eq 7, 3) := by decide +kernel
theorem d_M_change_36 : decode b_M_change 36 = .ok (.iconst 1, 1) := by decide +kernel
theorem d_M_change_37 : decode b_M_change 37 = .ok (.goto 4, 3) := by decide +kernel
theorem d_M_change_40 : decode b_M_change 40 = .ok (.iconst 0, 1) := by decide +kernel
theorem d_M_change_41 : decode b_M_change 41 = .ok (.istore_n 3, 1) := by decide +kernel
theorem d_M_change_42 : decode b_M_change 42 = .ok (.aload_n 0, 1) := by decide +kernel
theorem d_M_change_43 : decode b_M_change 43 = .ok (.iconst 0, 1) := by decide +kernel
theorem d_M_change_44 : decode b_M_change 44 = .ok (.putfield 332, 3) := by decide +kernel
theorem d_M_change_47 : decode b_M_change 47 = .ok (.iload_n 3, 1) := by decide +kernel
theorem d_M_change_48 : decode b_M_change 48 = .ok (.ifCond .ne 5, 3) := by decide +kernel
theorem d_M_change_51 : decode b_M_change 51 = .ok (.iconst (-1), 1) := by decide +kernel
theorem d_M_change_52 : decode b_M_change 52 = .ok (.ireturn, 1) := by decide +kernel
theorem d_M_change_53 : decode b_M_change 53 = .ok (.aload_n 0, 1) := by decide +kernel
theorem d_M_change_54 : decode b_M_change 54 = .ok (.iload_n 1, 1) := by decide +kernel
theorem d_M_change_55 : decode b_M_change 55 = .ok (.iload_n 2, 1) := by decide +kernel
theorem d_M_change_56 : decode b_M_change 56 = .ok (.invokevirtual 641, 3) := by decide +kernel
theorem d_M_change_59 : decode b_M_change 59 = .ok (.aload_n 0, 1) := by decide +kernel
theorem d_M_change_60 : decode b_M_change 60 = .ok (.getfield 107, 3) := by decide +kernel
theorem d_M_change_63 : decode b_M_change 63 = .ok (.iload_n 1, 1) := by decide +kernel
theorem d_M_change_64 : decode b_M_change 64 = .ok (.iaload, 1) := by decide +kernel
theorem d_M_change_65 : decode b_M_change 65 = .ok (.ireturn, 1) := by decide +kernel
abbrev b_M_policy : ByteArray := prog_14_method_92_code
def y_M_policy : MethodName := ⟨R_M, "policy", "(III)Z"⟩
abbrev k_M_policy : Cond := .code y_M_policy b_M_policy 4 (some .boolean)
theorem ki_M_policy : k_M_policy ∈ lw_tg := in_t 2345 (by decide +kernel)
theorem ks_M_policy : Cond.instanceMethod y_M_policy ∈ lw_tg := in_t 2343 (by decide +kernel)
theorem kx_M_policy : Cond.selects R_M y_M_policy y_M_policy ∈ lw_tg := in_t 2344 (by decide +kernel)
theorem hd_M_policy : y_M_policy.cls = R_M ∧ y_M_policy.cls ≠ "java/lang/invoke/MethodHandle" ∧ y_M_policy.cls ≠ "java/lang/invoke/VarHandle" ∧ (parseMethodDescriptor y_M_policy.desc).map (fun d => d.parameters.length) = some 3 := by decide +kernel
theorem d_M_policy_0 : decode b_M_policy 0 = .ok (.iload_n 1, 1) := by decide +kernel
theorem d_M_policy_1 : decode b_M_policy 1 = .ok (.ifCond .lt 34, 3) := by decide +kernel
theorem d_M_policy_4 : decode b_M_policy 4 = .ok (.iload_n 1, 1) := by decide +kernel
theorem d_M_policy_5 : decode b_M_policy 5 = .ok (.aload_n 0, 1) := by decide +kernel
theorem d_M_policy_6 : decode b_M_policy 6 = .ok (.getfield 630, 3) := by decide +kernel
theorem d_M_policy_9 : decode b_M_policy 9 = .ok (.if_icmp .ge 26, 3) := by decide +kernel
theorem d_M_policy_12 : decode b_M_policy 12 = .ok (.iload_n 2, 1) := by decide +kernel
theorem d_M_policy_13 : decode b_M_policy 13 = .ok (.ifCond .lt 22, 3) := by decide +kernel
theorem d_M_policy_16 : decode b_M_policy 16 = .ok (.iload_n 2, 1) := by decide +kernel
theorem d_M_policy_17 : decode b_M_policy 17 = .ok (.iconst 3, 1) := by decide +kernel
theorem d_M_policy_18 : decode b_M_policy 18 = .ok (.if_icmp .gt 17, 3) := by decide +kernel
theorem d_M_policy_21 : decode b_M_policy 21 = .ok (.iload_n 3, 1) := by decide +kernel
theorem d_M_policy_22 : decode b_M_policy 22 = .ok (.iload_n 2, 1) := by decide +kernel
theorem d_M_policy_23 : decode b_M_policy 23 = .ok (.iconst 2, 1) := by decide +kernel
theorem d_M_policy_24 : decode b_M_policy 24 = .ok (.if_icmp .ge 7, 3) := by decide +kernel
theorem d_M_policy_27 : decode b_M_policy 27 = .ok (.iconst 1, 1) := by decide +kernel
theorem d_M_policy_28 : decode b_M_policy 28 = .ok (.goto 4, 3) := by decide +kernel
theorem d_M_policy_31 : decode b_M_policy 31 = .ok (.iconst 0, 1) := by decide +kernel
theorem d_M_policy_32 : decode b_M_policy 32 = .ok (.if_icmp .ge 5, 3) := by decide +kernel
theorem d_M_policy_35 : decode b_M_policy 35 = .ok (.iconst 0, 1) := by decide +kernel
theorem d_M_policy_36 : decode b_M_policy 36 = .ok (.ireturn, 1) := by decide +kernel
theorem d_M_policy_37 : decode b_M_policy 37 = .ok (.iload_n 3, 1) := by decide +kernel
theorem d_M_policy_38 : decode b_M_policy 38 = .ok (.iload_n 2, 1) := by decide +kernel
theorem d_M_policy_39 : decode b_M_policy 39 = .ok (.ifCond .ne 9, 3) := by decide +kernel
theorem d_M_policy_42 : decode b_M_policy 42 = .ok (.ldc_w 644, 3) := by decide +kernel
theorem d_M_policy_45 : decode b_M_policy 45 = .ok (.goto 27, 3) := by decide +kernel
theorem d_M_policy_48 : decode b_M_policy 48 = .ok (.iload_n 2, 1) := by decide +kernel
theorem d_M_policy_49 : decode b_M_policy 49 = .ok (.iconst 1, 1) := by decide +kernel
theorem d_M_policy_50 : decode b_M_policy 50 = .ok (.if_icmp .ne 9, 3) := by decide +kernel
theorem d_M_policy_53 : decode b_M_policy 53 = .ok (.ldc_w 645, 3) := by decide +kernel
theorem d_M_policy_56 : decode b_M_policy 56 = .ok (.goto 16, 3) := by decide +kernel
theorem d_M_policy_59 : decode b_M_policy 59 = .ok (.iload_n 2, 1) := by decide +kernel
theorem d_M_policy_60 : decode b_M_policy 60 = .ok (.iconst 2, 1) := by decide +kernel
theorem d_M_policy_61 : decode b_M_policy 61 = .ok (.if_icmp .ne 8, 3) := by decide +kernel
theorem d_M_policy_64 : decode b_M_policy 64 = .ok (.bipush 63, 2) := by decide +kernel
theorem d_M_policy_66 : decode b_M_policy 66 = .ok (.goto 6, 3) := by decide +kernel
theorem d_M_policy_69 : decode b_M_policy 69 = .ok (.ldc_w 351, 3) := by decide +kernel
theorem d_M_policy_72 : decode b_M_policy 72 = .ok (.if_icmp .le 5, 3) := by decide +kernel
theorem d_M_policy_75 : decode b_M_policy 75 = .ok (.iconst 0, 1) := by decide +kernel
theorem d_M_policy_76 : decode b_M_policy 76 = .ok (.ireturn, 1) := by decide +kernel
theorem d_M_policy_77 : decode b_M_policy 77 = .ok (.iload_n 2, 1) := by decide +kernel
theorem d_M_policy_78 : decode b_M_policy 78 = .ok (.ifCond .ne 13, 3) := by decide +kernel
theorem d_M_policy_81 : decode b_M_policy 81 = .ok (.aload_n 0, 1) := by decide +kernel
theorem d_M_policy_82 : decode b_M_policy 82 = .ok (.getfield 113, 3) := by decide +kernel
theorem d_M_policy_85 : decode b_M_policy 85 = .ok (.iload_n 1, 1) := by decide +kernel
theorem d_M_policy_86 : decode b_M_policy 86 = .ok (.iload_n 3, 1) := by decide +kernel
theorem d_M_policy_87 : decode b_M_policy 87 = .ok (.iastore, 1) := by decide +kernel
theorem d_M_policy_88 : decode b_M_policy 88 = .ok (.goto 40, 3) := by decide +kernel
theorem d_M_policy_91 : decode b_M_policy 91 = .ok (.iload_n 2, 1) := by decide +kernel
theorem d_M_policy_92 : decode b_M_policy 92 = .ok (.iconst 1, 1) := by decide +kernel
theorem d_M_policy_93 : decode b_M_policy 93 = .ok (.if_icmp .ne 13, 3) := by decide +kernel
theorem d_M_policy_96 : decode b_M_policy 96 = .ok (.aload_n 0, 1) := by decide +kernel
theorem d_M_policy_97 : decode b_M_policy 97 = .ok (.getfield 116, 3) := by decide +kernel
theorem d_M_policy_100 : decode b_M_policy 100 = .ok (.iload_n 1, 1) := by decide +kernel
theorem d_M_policy_101 : decode b_M_policy 101 = .ok (.iload_n 3, 1) := by decide +kernel
theorem d_M_policy_102 : decode b_M_policy 102 = .ok (.iastore, 1) := by decide +kernel
theorem d_M_policy_103 : decode b_M_policy 103 = .ok (.goto 25, 3) := by decide +kernel
theorem d_M_policy_106 : decode b_M_policy 106 = .ok (.iload_n 2, 1) := by decide +kernel
theorem d_M_policy_107 : decode b_M_policy 107 = .ok (.iconst 2, 1) := by decide +kernel
theorem d_M_policy_108 : decode b_M_policy 108 = .ok (.if_icmp .ne 13, 3) := by decide +kernel
theorem d_M_policy_111 : decode b_M_policy 111 = .ok (.aload_n 0, 1) := by decide +kernel
theorem d_M_policy_112 : decode b_M_policy 112 = .ok (.getfield 119, 3) := by decide +kernel
theorem d_M_policy_115 : decode b_M_policy 115 = .ok (.iload_n 1, 1) := by decide +kernel
theorem d_M_policy_116 : decode b_M_policy 116 = .ok (.iload_n 3, 1) := by decide +kernel
theorem d_M_policy_117 : decode b_M_policy 117 = .ok (.iastore, 1) := by decide +kernel
theorem d_M_policy_118 : decode b_M_policy 118 = .ok (.goto 10, 3) := by decide +kernel
theorem d_M_policy_121 : decode b_M_policy 121 = .ok (.aload_n 0, 1) := by decide +kernel
theorem d_M_policy_122 : decode b_M_policy 122 = .ok (.getfield 122, 3) := by decide +kernel
theorem d_M_policy_125 : decode b_M_policy 125 = .ok (.iload_n 1, 1) := by decide +kernel
theorem d_M_policy_126 : decode b_M_policy 126 = .ok (.iload_n 3, 1) := by decide +kernel
theorem d_M_policy_127 : decode b_M_policy 127 = .ok (.iastore, 1) := by decide +kernel
theorem d_M_policy_128 : decode b_M_policy 128 = .ok (.iconst 1, 1) := by decide +kernel
theorem d_M_policy_129 : decode b_M_policy 129 = .ok (.ireturn, 1) := by decide +kernel
abbrev b_M_room : ByteArray := prog_14_method_93_code
def y_M_room : MethodName := ⟨R_M, "room", "(I)Z"⟩
abbrev k_M_room : Cond := .code y_M_room b_M_room 2 (some .boolean)
theorem ki_M_room : k_M_room ∈ lw_tg := in_t 2351 (by decide +kernel)
theorem ks_M_room : Cond.instanceMethod y_M_room ∈ lw_tg := in_t 2349 (by decide +kernel)
theorem kx_M_room : Cond.selects R_M y_M_room y_M_room ∈ lw_tg := in_t 2350 (by decide +kernel)
theorem hd_M_room : y_M_room.cls = R_M ∧ y_M_room.cls ≠ "java/lang/invoke/MethodHandle" ∧ y_M_room.cls ≠ "java/lang/invoke/VarHandle" ∧ (parseMethodDescriptor y_M_room.desc).map (fun d => d.parameters.length) = some 1 := by decide +kernel
theorem d_M_room_0 : decode b_M_room 0 = .ok (.iload_n 1, 1) := by decide +kernel
theorem d_M_room_1 : decode b_M_room 1 = .ok (.iconst 1, 1) := by decide +kernel
theorem d_M_room_2 : decode b_M_room 2 = .ok (.if_icmp .lt 9, 3) := by decide +kernel
theorem d_M_room_5 : decode b_M_room 5 = .ok (.iload_n 1, 1) := by decide +kernel
theorem d_M_room_6 : decode b_M_room 6 = .ok (.bipush 32, 2) := by decide +kernel
theorem d_M_room_8 : decode b_M_room 8 = .ok (.if_icmp .le 5, 3) := by decide +kernel
theorem d_M_room_11 : decode b_M_room 11 = .ok (.iconst 0, 1) := by decide +kernel
theorem d_M_room_12 : decode b_M_room 12 = .ok (.ireturn, 1) := by decide +kernel
theorem d_M_room_13 : decode b_M_room 13 = .ok (.aload_n 0, 1) := by decide +kernel
theorem d_M_room_14 : decode b_M_room 14 = .ok (.iload_n 1, 1) := by decide +kernel
theorem d_M_room_15 : decode b_M_room 15 = .ok (.putfield 134, 3) := by decide +kernel
theorem d_M_room_18 : decode b_M_room 18 = .ok (.iconst 1, 1) := by decide +kernel
theorem d_M_room_19 : decode b_M_room 19 = .ok (.ireturn, 1) := by decide +kernel
abbrev b_M_says : ByteArray := prog_14_method_94_code
def y_M_says : MethodName := ⟨R_M, "says", "(II)Z"⟩
abbrev k_M_says : Cond := .code y_M_says b_M_says 3 (some .boolean)
theorem ki_M_says : k_M_says ∈ lw_tg := in_t 2460 (by decide +kernel)
theorem ks_M_says : Cond.instanceMethod y_M_says ∈ lw_tg := in_t 2459 (by decide +kernel)
theorem kx_M_says : Cond.selects R_M y_M_says y_M_says ∈ lw_tg := List.mem_filter.mpr ⟨List.mem_append_left _ (List.mem_of_getElem? (i := 111) (by decide +kernel)), rfl⟩
theorem kl_M_says : Cond.methodLink R_M 716 y_M_says ∈ lw_tg := in_t 2457 (by decide +kernel)
theorem hd_M_says : y_M_says.cls = R_M ∧ y_M_says.cls ≠ "java/lang/invoke/MethodHandle" ∧ y_M_says.cls ≠ "java/lang/invoke/VarHandle" ∧ (parseMethodDescriptor y_M_says.desc).map (fun d => d.parameters.length) = some 2 := by decide +kernel
theorem d_M_says_0 : decode b_M_says 0 = .ok (.aload_n 0, 1) := by decide +kernel
theorem d_M_says_1 : decode b_M_says 1 = .ok (.getfield 119, 3) := by decide +kernel
theorem d_M_says_4 : decode b_M_says 4 = .ok (.iload_n 1, 1) := by decide +kernel
theorem d_M_says_5 : decode b_M_says 5 = .ok (.iaload, 1) := by decide +kernel
theorem d_M_says_6 : decode b_M_says 6 = .ok (.iload_n 2, 1) := by decide +kernel
theorem d_M_says_7 : decode b_M_says 7 = .ok (.iand, 1) := by decide +kernel
theorem d_M_says_8 : decode b_M_says 8 = .ok (.iload_n 2, 1) := by decide +kernel
theorem d_M_says_9 : decode b_M_says 9 = .ok (.if_icmp .ne 7, 3) := by decide +kernel
theorem d_M_says_12 : decode b_M_says 12 = .ok (.iconst 1, 1) := by decide +kernel
theorem d_M_says_13 : decode b_M_says 13 = .ok (.goto 4, 3) := by decide +kernel
theorem d_M_says_16 : decode b_M_says 16 = .ok (.iconst 0, 1) := by decide +kernel
theorem d_M_says_17 : decode b_M_says 17 = .ok (.ireturn, 1) := by decide +kernel
abbrev b_M_isExpired : ByteArray := prog_14_method_95_code
def y_M_isExpired : MethodName := ⟨R_M, "isExpired", "(I)Z"⟩
abbrev k_M_isExpired : Cond := .code y_M_isExpired b_M_isExpired 2 (some .boolean)
theorem ki_M_isExpired : k_M_isExpired ∈ lw_tg := in_t 2464 (by decide +kernel)
theorem ks_M_isExpired : Cond.instanceMethod y_M_isExpired ∈ lw_tg := in_t 2463 (by decide +kernel)
theorem kx_M_isExpired : Cond.selects R_M y_M_isExpired y_M_isExpired ∈ lw_tg := List.mem_filter.mpr ⟨List.mem_append_left _ (List.mem_of_getElem? (i := 112) (by decide +kernel)), rfl⟩
theorem kl_M_isExpired : Cond.methodLink R_M 719 y_M_isExpired ∈ lw_tg := in_t 2461 (by decide +kernel)
theorem hd_M_isExpired : y_M_isExpired.cls = R_M ∧ y_M_isExpired.cls ≠ "java/lang/invoke/MethodHandle" ∧ y_M_isExpired.cls ≠ "java/lang/invoke/VarHandle" ∧ (parseMethodDescriptor y_M_isExpired.desc).map (fun d => d.parameters.length) = some 1 := by decide +kernel
theorem d_M_isExpired_0 : decode b_M_isExpired 0 = .ok (.aload_n 0, 1) := by decide +kernel
theorem d_M_isExpired_1 : decode b_M_isExpired 1 = .ok (.getfield 122, 3) := by decide +kernel
theorem d_M_isExpired_4 : decode b_M_isExpired 4 = .ok (.iload_n 1, 1) := by decide +kernel
theorem d_M_isExpired_5 : decode b_M_isExpired 5 = .ok (.iaload, 1) := by decide +kernel
theorem d_M_isExpired_6 : decode b_M_isExpired 6 = .ok (.ifCond .le 20, 3) := by decide +kernel
theorem d_M_isExpired_9 : decode b_M_isExpired 9 = .ok (.aload_n 0, 1) := by decide +kernel
theorem d_M_isExpired_10 : decode b_M_isExpired 10 = .ok (.getfield 18, 3) := by decide +kernel
theorem d_M_isExpired_13 : decode b_M_isExpired 13 = .ok (.aload_n 0, 1) := by decide +kernel
theorem d_M_isExpired_14 : decode b_M_isExpired 14 = .ok (.getfield 122, 3) := by decide +kernel
theorem d_M_isExpired_17 : decode b_M_isExpired 17 = .ok (.iload_n 1, 1) := by decide +kernel
theorem d_M_isExpired_18 : decode b_M_isExpired 18 = .ok (.iaload, 1) := by decide +kernel
theorem d_M_isExpired_19 : decode b_M_isExpired 19 = .ok (.if_icmp .lt 7, 3) := by decide +kernel
theorem d_M_isExpired_22 : decode b_M_isExpired 22 = .ok (.iconst 1, 1) := by decide +kernel
theorem d_M_isExpired_23 : decode b_M_isExpired 23 = .ok (.goto 4, 3) := by decide +kernel
theorem d_M_isExpired_26 : decode b_M_isExpired 26 = .ok (.iconst 0, 1) := by decide +kernel
theorem d_M_isExpired_27 : decode b_M_isExpired 27 = .ok (.ireturn, 1) := by decide +kernel
abbrev b_M_keyOf : ByteArray := prog_14_method_96_code
def y_M_keyOf : MethodName := ⟨R_M, "keyOf", "(III[B)V"⟩
abbrev k_M_keyOf : Cond := .code y_M_keyOf b_M_keyOf 6 none
theorem ki_M_keyOf : k_M_keyOf ∈ lw_tg := in_t 2510 (by decide +kernel)
theorem ks_M_keyOf : Cond.instanceMethod y_M_keyOf ∈ lw_tg := in_t 2509 (by decide +kernel)
theorem kx_M_keyOf : Cond.selects R_M y_M_keyOf y_M_keyOf ∈ lw_tg := List.mem_filter.mpr ⟨List.mem_append_left _ (List.mem_of_getElem? (i := 122) (by decide +kernel)), rfl⟩
theorem kl_M_keyOf : Cond.methodLink R_M 761 y_M_keyOf ∈ lw_tg := in_t 2507 (by decide +kernel)
theorem hd_M_keyOf : y_M_keyOf.cls = R_M ∧ y_M_keyOf.cls ≠ "java/lang/invoke/MethodHandle" ∧ y_M_keyOf.cls ≠ "java/lang/invoke/VarHandle" ∧ (parseMethodDescriptor y_M_keyOf.desc).map (fun d => d.parameters.length) = some 4 := by decide +kernel
theorem d_M_keyOf_0 : decode b_M_keyOf 0 = .ok (.iconst 0, 1) := by decide +kernel
theorem d_M_keyOf_1 : decode b_M_keyOf 1 = .ok (.istore 5, 2) := by decide +kernel
theorem d_M_keyOf_3 : decode b_M_keyOf 3 = .ok (.iload 5, 2) := by decide +kernel
theorem d_M_keyOf_5 : decode b_M_keyOf 5 = .ok (.bipush 32, 2) := by decide +kernel
theorem d_M_keyOf_7 : decode b_M_keyOf 7 = .ok (.if_icmp .ge 39, 3) := by decide +kernel
theorem d_M_keyOf_10 : decode b_M_keyOf 10 = .ok (.aload 4, 2) := by decide +kernel
theorem d_M_keyOf_12 : decode b_M_keyOf 12 = .ok (.iload 5, 2) := by decide +kernel
theorem d_M_keyOf_14 : decode b_M_keyOf 14 = .ok (.aload_n 0, 1) := by decide +kernel
theorem d_M_keyOf_15 : decode b_M_keyOf 15 = .ok (.getfield 125, 3) := by decide +kernel
theorem d_M_keyOf_18 : decode b_M_keyOf 18 = .ok (.bipush 32, 2) := by decide +kernel
theorem d_M_keyOf_20 : decode b_M_keyOf 20 = .ok (.iconst 4, 1) := by decide +kernel
theorem d_M_keyOf_21 : decode b_M_keyOf 21 = .ok (.iload_n 1, 1) := by decide +kernel
theorem d_M_keyOf_22 : decode b_M_keyOf 22 = .ok (.imul, 1) := by decide +kernel
theorem d_M_keyOf_23 : decode b_M_keyOf 23 = .ok (.iconst 2, 1) := by decide +kernel
theorem d_M_keyOf_24 : decode b_M_keyOf 24 = .ok (.iload_n 2, 1) := by decide +kernel
theorem d_M_keyOf_25 : decode b_M_keyOf 25 = .ok (.iconst 2, 1) := by decide +kernel
theorem d_M_keyOf_26 : decode b_M_keyOf 26 = .ok (.irem, 1) := by decide +kernel
theorem d_M_keyOf_27 : decode b_M_keyOf 27 = .ok (.imul, 1) := by decide +kernel
theorem d_M_keyOf_28 : decode b_M_keyOf 28 = .ok (.iadd, 1) := by decide +kernel
theorem d_M_keyOf_29 : decode b_M_keyOf 29 = .ok (.iload_n 3, 1) := by decide +kernel
theorem d_M_keyOf_30 : decode b_M_keyOf 30 = .ok (.iadd, 1) := by decide +kernel
theorem d_M_keyOf_31 : decode b_M_keyOf 31 = .ok (.bipush 17, 2) := by decide +kernel
theorem d_M_keyOf_33 : decode b_M_keyOf 33 = .ok (.isub, 1) := by decide +kernel
theorem d_M_keyOf_34 : decode b_M_keyOf 34 = .ok (.imul, 1) := by decide +kernel
theorem d_M_keyOf_35 : decode b_M_keyOf 35 = .ok (.iload 5, 2) := by decide +kernel
theorem d_M_keyOf_37 : decode b_M_keyOf 37 = .ok (.iadd, 1) := by decide +kernel
theorem d_M_keyOf_38 : decode b_M_keyOf 38 = .ok (.baload, 1) := by decide +kernel
theorem d_M_keyOf_39 : decode b_M_keyOf 39 = .ok (.bastore, 1) := by decide +kernel
theorem d_M_keyOf_40 : decode b_M_keyOf 40 = .ok (.iinc 5 1, 3) := by decide +kernel
theorem d_M_keyOf_43 : decode b_M_keyOf 43 = .ok (.goto (-40), 3) := by decide +kernel
theorem d_M_keyOf_46 : decode b_M_keyOf 46 = .ok (.return_, 1) := by decide +kernel
abbrev b_M_principalAt : ByteArray := prog_14_method_97_code
def y_M_principalAt : MethodName := ⟨R_M, "principalAt", "(II)I"⟩
abbrev k_M_principalAt : Cond := .code y_M_principalAt b_M_principalAt 9 (some .int)
theorem ki_M_principalAt : k_M_principalAt ∈ lw_tg := in_t 2452 (by decide +kernel)
theorem ks_M_principalAt : Cond.instanceMethod y_M_principalAt ∈ lw_tg := in_t 2451 (by decide +kernel)
theorem kx_M_principalAt : Cond.selects R_M y_M_principalAt y_M_principalAt ∈ lw_tg := List.mem_filter.mpr ⟨List.mem_append_left _ (List.mem_of_getElem? (i := 109) (by decide +kernel)), rfl⟩
theorem kl_M_principalAt : Cond.methodLink R_M 710 y_M_principalAt ∈ lw_tg := in_t 2449 (by decide +kernel)
theorem hd_M_principalAt : y_M_principalAt.cls = R_M ∧ y_M_principalAt.cls ≠ "java/lang/invoke/MethodHandle" ∧ y_M_principalAt.cls ≠ "java/lang/invoke/VarHandle" ∧ (parseMethodDescriptor y_M_principalAt.desc).map (fun d => d.parameters.length) = some 2 := by decide +kernel
theorem d_M_principalAt_0 : decode b_M_principalAt 0 = .ok (.iload_n 1, 1) := by decide +kernel
theorem d_M_principalAt_1 : decode b_M_principalAt 1 = .ok (.ifCond .ge 5, 3) := by decide +kernel
theorem d_M_principalAt_4 : decode b_M_principalAt 4 = .ok (.iconst (-1), 1) := by decide +kernel
theorem d_M_principalAt_5 : decode b_M_principalAt 5 = .ok (.ireturn, 1) := by decide +kernel
theorem d_M_principalAt_6 : decode b_M_principalAt 6 = .ok (.aload_n 0, 1) := by decide +kernel
theorem d_M_principalAt_7 : decode b_M_principalAt 7 = .ok (.iload_n 1, 1) := by decide +kernel
theorem d_M_principalAt_8 : decode b_M_principalAt 8 = .ok (.iload_n 2, 1) := by decide +kernel
theorem d_M_principalAt_9 : decode b_M_principalAt 9 = .ok (.invokevirtual 546, 3) := by decide +kernel
theorem d_M_principalAt_12 : decode b_M_principalAt 12 = .ok (.istore_n 3, 1) := by decide +kernel
theorem d_M_principalAt_13 : decode b_M_principalAt 13 = .ok (.aload_n 0, 1) := by decide +kernel
theorem d_M_principalAt_14 : decode b_M_principalAt 14 = .ok (.bipush 11, 2) := by decide +kernel
theorem d_M_principalAt_16 : decode b_M_principalAt 16 = .ok (.iconst 1, 1) := by decide +kernel
theorem d_M_principalAt_17 : decode b_M_principalAt 17 = .ok (.invokevirtual 539, 3) := by decide +kernel
theorem d_M_principalAt_20 : decode b_M_principalAt 20 = .ok (.istore 4, 2) := by decide +kernel
theorem d_M_principalAt_22 : decode b_M_principalAt 22 = .ok (.aload_n 0, 1) := by decide +kernel
theorem d_M_principalAt_23 : decode b_M_principalAt 23 = .ok (.iload_n 3, 1) := by decide +kernel
theorem d_M_principalAt_24 : decode b_M_principalAt 24 = .ok (.iload 4, 2) := by decide +kernel
theorem d_M_principalAt_26 : decode b_M_principalAt 26 = .ok (.bipush 48, 2) := by decide +kernel
theorem d_M_principalAt_28 : decode b_M_principalAt 28 = .ok (.invokevirtual 476, 3) := by decide +kernel
theorem d_M_principalAt_31 : decode b_M_principalAt 31 = .ok (.pop, 1) := by decide +kernel
theorem d_M_principalAt_32 : decode b_M_principalAt 32 = .ok (.aload_n 0, 1) := by decide +kernel
theorem d_M_principalAt_33 : decode b_M_principalAt 33 = .ok (.getfield 473, 3) := by decide +kernel
theorem d_M_principalAt_36 : decode b_M_principalAt 36 = .ok (.istore 5, 2) := by decide +kernel
theorem d_M_principalAt_38 : decode b_M_principalAt 38 = .ok (.aload_n 0, 1) := by decide +kernel
theorem d_M_principalAt_39 : decode b_M_principalAt 39 = .ok (.getfield 470, 3) := by decide +kernel
theorem d_M_principalAt_42 : decode b_M_principalAt 42 = .ok (.istore 6, 2) := by decide +kernel
theorem d_M_principalAt_44 : decode b_M_principalAt 44 = .ok (.aload_n 0, 1) := by decide +kernel
theorem d_M_principalAt_45 : decode b_M_principalAt 45 = .ok (.iconst 0, 1) := by decide +kernel
theorem d_M_principalAt_46 : decode b_M_principalAt 46 = .ok (.putfield 608, 3) := by decide +kernel
theorem d_M_principalAt_49 : decode b_M_principalAt 49 = .ok (.iload 6, 2) := by decide +kernel
theorem d_M_principalAt_51 : decode b_M_principalAt 51 = .ok (.iload 5, 2) := by decide +kernel
theorem d_M_principalAt_53 : decode b_M_principalAt 53 = .ok (.if_icmp .ge 7, 3) := by decide +kernel
theorem d_M_principalAt_56 : decode b_M_principalAt 56 = .ok (.iconst 1, 1) := by decide +kernel
theorem d_M_principalAt_57 : decode b_M_principalAt 57 = .ok (.goto 4, 3) := by decide +kernel
theorem d_M_principalAt_60 : decode b_M_principalAt 60 = .ok (.iconst 0, 1) := by decide +kernel
theorem d_M_principalAt_61 : decode b_M_principalAt 61 = .ok (.istore 7, 2) := by decide +kernel
theorem d_M_principalAt_63 : decode b_M_principalAt 63 = .ok (.iload 6, 2) := by decide +kernel
theorem d_M_principalAt_65 : decode b_M_principalAt 65 = .ok (.iload 5, 2) := by decide +kernel
theorem d_M_principalAt_67 : decode b_M_principalAt 67 = .ok (.if_icmp .ge 178, 3) := by decide +kernel
theorem d_M_principalAt_70 : decode b_M_principalAt 70 = .ok (.iload 7, 2) := by decide +kernel
theorem d_M_principalAt_72 : decode b_M_principalAt 72 = .ok (.ifCond .eq 173, 3) := by decide +kernel
theorem d_M_principalAt_75 : decode b_M_principalAt 75 = .ok (.aload_n 0, 1) := by decide +kernel
theorem d_M_principalAt_76 : decode b_M_principalAt 76 = .ok (.iload 6, 2) := by decide +kernel
theorem d_M_principalAt_78 : decode b_M_principalAt 78 = .ok (.iload 5, 2) := by decide +kernel
theorem d_M_principalAt_80 : decode b_M_principalAt 80 = .ok (.bipush 27, 2) := by decide +kernel
theorem d_M_principalAt_82 : decode b_M_principalAt 82 = .ok (.invokevirtual 476, 3) := by decide +kernel
theorem d_M_principalAt_85 : decode b_M_principalAt 85 = .ok (.pop, 1) := by decide +kernel
theorem d_M_principalAt_86 : decode b_M_principalAt 86 = .ok (.aload_n 0, 1) := by decide +kernel
theorem d_M_principalAt_87 : decode b_M_principalAt 87 = .ok (.getfield 608, 3) := by decide +kernel
theorem d_M_principalAt_90 : decode b_M_principalAt 90 = .ok (.ifCond .le 24, 3) := by decide +kernel
theorem d_M_principalAt_93 : decode b_M_principalAt 93 = .ok (.aload_n 0, 1) := by decide +kernel
theorem d_M_principalAt_94 : decode b_M_principalAt 94 = .ok (.getfield 128, 3) := by decide +kernel
theorem d_M_principalAt_97 : decode b_M_principalAt 97 = .ok (.aload_n 0, 1) := by decide +kernel
theorem d_M_principalAt_98 : decode b_M_principalAt 98 = .ok (.getfield 608, 3) := by decide +kernel
theorem d_M_principalAt_101 : decode b_M_principalAt 101 = .ok (.bipush 47, 2) := by decide +kernel
theorem d_M_principalAt_103 : decode b_M_principalAt 103 = .ok (.bastore, 1) := by decide +kernel
theorem d_M_principalAt_104 : decode b_M_principalAt 104 = .ok (.aload_n 0, 1) := by decide +kernel
theorem d_M_principalAt_105 : decode b_M_principalAt 105 = .ok (.dup, 1) := by decide +kernel
theorem d_M_principalAt_106 : decode b_M_principalAt 106 = .ok (.getfield 608, 3) := by decide +kernel
theorem d_M_principalAt_109 : decode b_M_principalAt 109 = .ok (.iconst 1, 1) := by decide +kernel
theorem d_M_principalAt_110 : decode b_M_principalAt 110 = .ok (.iadd, 1) := by decide +kernel
theorem d_M_principalAt_111 : decode b_M_principalAt 111 = .ok (.putfield 608, 3) := by decide +kernel
theorem d_M_principalAt_114 : decode b_M_principalAt 114 = .ok (.aload_n 0, 1) := by decide +kernel
theorem d_M_principalAt_115 : decode b_M_principalAt 115 = .ok (.getfield 473, 3) := by decide +kernel
theorem d_M_principalAt_118 : decode b_M_principalAt 118 = .ok (.aload_n 0, 1) := by decide +kernel
theorem d_M_principalAt_119 : decode b_M_principalAt 119 = .ok (.getfield 470, 3) := by decide +kernel
theorem d_M_principalAt_122 : decode b_M_principalAt 122 = .ok (.if_icmp .le 40, 3) := by decide +kernel
theorem d_M_principalAt_125 : decode b_M_principalAt 125 = .ok (.aload_n 0, 1) := by decide +kernel
theorem d_M_principalAt_126 : decode b_M_principalAt 126 = .ok (.getfield 473, 3) := by decide +kernel
theorem d_M_principalAt_129 : decode b_M_principalAt 129 = .ok (.aload_n 0, 1) := by decide +kernel
theorem d_M_principalAt_130 : decode b_M_principalAt 130 = .ok (.getfield 470, 3) := by decide +kernel
theorem d_M_principalAt_133 : decode b_M_principalAt 133 = .ok (.isub, 1) := by decide +kernel
theorem d_M_principalAt_134 : decode b_M_principalAt 134 = .ok (.bipush 16, 2) := by decide +kernel
theorem d_M_principalAt_136 : decode b_M_principalAt 136 = .ok (.if_icmp .gt 26, 3) := by decide +kernel
theorem d_M_principalAt_139 : decode b_M_principalAt 139 = .ok (.aload_n 0, 1) := by decide +kernel
theorem d_M_principalAt_140 : decode b_M_principalAt 140 = .ok (.getfield 608, 3) := by decide +kernel
theorem d_M_principalAt_143 : decode b_M_principalAt 143 = .ok (.aload_n 0, 1) := by decide +kernel
theorem d_M_principalAt_144 : decode b_M_principalAt 144 = .ok (.getfield 473, 3) := by decide +kernel
theorem d_M_principalAt_147 : decode b_M_principalAt 147 = .ok (.iadd, 1) := by decide +kernel
theorem d_M_principalAt_148 : decode b_M_principalAt 148 = .ok (.aload_n 0, 1) := by decide +kernel
theorem d_M_principalAt_149 : decode b_M_principalAt 149 = .ok (.getfield 470, 3) := by decide +kernel
theorem d_M_principalAt_152 : decode b_M_principalAt 152 = .ok (.isub, 1) := by decide +kernel
theorem d_M_principalAt_153 : decode b_M_principalAt 153 = .ok (.bipush 33, 2) := by decide +kernel
theorem d_M_principalAt_155 : decode b_M_principalAt 155 = .ok (.if_icmp .gt 7, 3) := by decide +kernel
theorem d_M_principalAt_158 : decode b_M_principalAt 158 = .ok (.iconst 1, 1) := by decide +kernel
theorem d_M_principalAt_159 : decode b_M_principalAt 159 = .ok (.goto 4, 3) := by decide +kernel
theorem d_M_principalAt_162 : decode b_M_principalAt 162 = .ok (.iconst 0, 1) := by decide +kernel
theorem d_M_principalAt_163 : decode b_M_principalAt 163 = .ok (.istore 7, 2) := by decide +kernel
theorem d_M_principalAt_165 : decode b_M_principalAt 165 = .ok (.aload_n 0, 1) := by decide +kernel
theorem d_M_principalAt_166 : decode b_M_principalAt 166 = .ok (.getfield 470, 3) := by decide +kernel
theorem d_M_principalAt_169 : decode b_M_principalAt 169 = .ok (.istore 8, 2) := by decide +kernel
theorem d_M_principalAt_171 : decode b_M_principalAt 171 = .ok (.iload 8, 2) := by decide +kernel
theorem d_M_principalAt_173 : decode b_M_principalAt 173 = .ok (.aload_n 0, 1) := by decide +kernel
theorem d_M_principalAt_174 : decode b_M_principalAt 174 = .ok (.getfield 473, 3) := by decide +kernel
theorem d_M_principalAt_177 : decode b_M_principalAt 177 = .ok (.if_icmp .ge 59, 3) := by decide +kernel
theorem d_M_principalAt_180 : decode b_M_principalAt 180 = .ok (.iload 7, 2) := by decide +kernel
theorem d_M_principalAt_182 : decode b_M_principalAt 182 = .ok (.ifCond .eq 54, 3) := by decide +kernel
theorem d_M_principalAt_185 : decode b_M_principalAt 185 = .ok (.aload_n 0, 1) := by decide +kernel
theorem d_M_principalAt_186 : decode b_M_principalAt 186 = .ok (.getfield 128, 3) := by decide +kernel
theorem d_M_principalAt_189 : decode b_M_principalAt 189 = .ok (.aload_n 0, 1) := by decide +kernel
theorem d_M_principalAt_190 : decode b_M_principalAt 190 = .ok (.getfield 608, 3) := by decide +kernel
theorem d_M_principalAt_193 : decode b_M_principalAt 193 = .ok (.aload_n 0, 1) := by decide +kernel
theorem d_M_principalAt_194 : decode b_M_principalAt 194 = .ok (.getfield 10, 3) := by decide +kernel
theorem d_M_principalAt_197 : decode b_M_principalAt 197 = .ok (.iload 8, 2) := by decide +kernel
theorem d_M_principalAt_199 : decode b_M_principalAt 199 = .ok (.baload, 1) := by decide +kernel
theorem d_M_principalAt_200 : decode b_M_principalAt 200 = .ok (.bastore, 1) := by decide +kernel
theorem d_M_principalAt_201 : decode b_M_principalAt 201 = .ok (.aload_n 0, 1) := by decide +kernel
theorem d_M_principalAt_202 : decode b_M_principalAt 202 = .ok (.dup, 1) := by decide +kernel
theorem d_M_principalAt_203 : decode b_M_principalAt 203 = .ok (.getfield 608, 3) := by decide +kernel
theorem d_M_principalAt_206 : decode b_M_principalAt 206 = .ok (.iconst 1, 1) := by decide +kernel
theorem d_M_principalAt_207 : decode b_M_principalAt 207 = .ok (.iadd, 1) := by decide +kernel
theorem d_M_principalAt_208 : decode b_M_principalAt 208 = .ok (.putfield 608, 3) := by decide +kernel
theorem d_M_principalAt_211 : decode b_M_principalAt 211 = .ok (.aload_n 0, 1) := by decide +kernel
theorem d_M_principalAt_212 : decode b_M_principalAt 212 = .ok (.getfield 10, 3) := by decide +kernel
theorem d_M_principalAt_215 : decode b_M_principalAt 215 = .ok (.iload 8, 2) := by decide +kernel
theorem d_M_principalAt_217 : decode b_M_principalAt 217 = .ok (.baload, 1) := by decide +kernel
theorem d_M_principalAt_218 : decode b_M_principalAt 218 = .ok (.bipush 47, 2) := by decide +kernel
theorem d_M_principalAt_220 : decode b_M_principalAt 220 = .ok (.if_icmp .eq 7, 3) := by decide +kernel
theorem d_M_principalAt_223 : decode b_M_principalAt 223 = .ok (.iconst 1, 1) := by decide +kernel
theorem d_M_principalAt_224 : decode b_M_principalAt 224 = .ok (.goto 4, 3) := by decide +kernel
theorem d_M_principalAt_227 : decode b_M_principalAt 227 = .ok (.iconst 0, 1) := by decide +kernel
theorem d_M_principalAt_228 : decode b_M_principalAt 228 = .ok (.istore 7, 2) := by decide +kernel
theorem d_M_principalAt_230 : decode b_M_principalAt 230 = .ok (.iinc 8 1, 3) := by decide +kernel
theorem d_M_principalAt_233 : decode b_M_principalAt 233 = .ok (.goto (-62), 3) := by decide +kernel
theorem d_M_principalAt_236 : decode b_M_principalAt 236 = .ok (.aload_n 0, 1) := by decide +kernel
theorem d_M_principalAt_237 : decode b_M_principalAt 237 = .ok (.getfield 473, 3) := by decide +kernel
theorem d_M_principalAt_240 : decode b_M_principalAt 240 = .ok (.istore 6, 2) := by decide +kernel
theorem d_M_principalAt_242 : decode b_M_principalAt 242 = .ok (.goto (-179), 3) := by decide +kernel
theorem d_M_principalAt_245 : decode b_M_principalAt 245 = .ok (.iload 7, 2) := by decide +kernel
theorem d_M_principalAt_247 : decode b_M_principalAt 247 = .ok (.ifCond .eq 10, 3) := by decide +kernel
theorem d_M_principalAt_250 : decode b_M_principalAt 250 = .ok (.aload_n 0, 1) := by decide +kernel
theorem d_M_principalAt_251 : decode b_M_principalAt 251 = .ok (.invokevirtual 636, 3) := by decide +kernel
theorem d_M_principalAt_254 : decode b_M_principalAt 254 = .ok (.goto 4, 3) := by decide +kernel
theorem d_M_principalAt_257 : decode b_M_principalAt 257 = .ok (.iconst (-1), 1) := by decide +kernel
theorem d_M_principalAt_258 : decode b_M_principalAt 258 = .ok (.ireturn, 1) := by decide +kernel
abbrev b_M_seen : ByteArray := prog_14_method_98_code
def y_M_seen : MethodName := ⟨R_M, "seen", "(IIIJI)I"⟩
abbrev k_M_seen : Cond := .code y_M_seen b_M_seen 14 (some .int)
theorem ki_M_seen : k_M_seen ∈ lw_tg := List.mem_filter.mpr ⟨List.mem_append_right _ (List.mem_append_right _ (List.mem_append_right _ (List.mem_append_right _ (List.mem_append_right _ (List.mem_append_right _ (List.mem_append_right _ (List.mem_append_right _ (List.mem_append_right _ (List.mem_append_right _ (List.mem_append_right _ (List.mem_append_right _ (List.mem_append_left _ (List.mem_of_getElem? (i := 56) rfl))))))))))))), rfl⟩
theorem ks_M_seen : Cond.instanceMethod y_M_seen ∈ lw_tg := in_t 2695 (by decide +kernel)
theorem kx_M_seen : Cond.selects R_M y_M_seen y_M_seen ∈ lw_tg := List.mem_filter.mpr ⟨List.mem_append_left _ (List.mem_of_getElem? (i := 165) (by decide +kernel)), rfl⟩
theorem kl_M_seen : Cond.methodLink R_M 793 y_M_seen ∈ lw_tg := in_t 2693 (by decide +kernel)
theorem hd_M_seen : y_M_seen.cls = R_M ∧ y_M_seen.cls ≠ "java/lang/invoke/MethodHandle" ∧ y_M_seen.cls ≠ "java/lang/invoke/VarHandle" ∧ (parseMethodDescriptor y_M_seen.desc).map (fun d => d.parameters.length) = some 5 := by decide +kernel
theorem d_M_seen_0 : decode b_M_seen 0 = .ok (.aload_n 0, 1) := by decide +kernel
theorem d_M_seen_1 : decode b_M_seen 1 = .ok (.iload_n 2, 1) := by decide +kernel
theorem d_M_seen_2 : decode b_M_seen 2 = .ok (.iload_n 3, 1) := by decide +kernel
theorem d_M_seen_3 : decode b_M_seen 3 = .ok (.invokevirtual 546, 3) := by decide +kernel
theorem d_M_seen_6 : decode b_M_seen 6 = .ok (.istore 7, 2) := by decide +kernel
theorem d_M_seen_8 : decode b_M_seen 8 = .ok (.aload_n 0, 1) := by decide +kernel
theorem d_M_seen_9 : decode b_M_seen 9 = .ok (.bipush 11, 2) := by decide +kernel
theorem d_M_seen_11 : decode b_M_seen 11 = .ok (.iconst 1, 1) := by decide +kernel
theorem d_M_seen_12 : decode b_M_seen 12 = .ok (.invokevirtual 539, 3) := by decide +kernel
theorem d_M_seen_15 : decode b_M_seen 15 = .ok (.istore 8, 2) := by decide +kernel
theorem d_M_seen_17 : decode b_M_seen 17 = .ok (.iconst 0, 1) := by decide +kernel
theorem d_M_seen_18 : decode b_M_seen 18 = .ok (.istore 9, 2) := by decide +kernel
theorem d_M_seen_20 : decode b_M_seen 20 = .ok (.iconst 0, 1) := by decide +kernel
theorem d_M_seen_21 : decode b_M_seen 21 = .ok (.istore 10, 2) := by decide +kernel
theorem d_M_seen_23 : decode b_M_seen 23 = .ok (.iload 10, 2) := by decide +kernel
theorem d_M_seen_25 : decode b_M_seen 25 = .ok (.aload_n 0, 1) := by decide +kernel
theorem d_M_seen_26 : decode b_M_seen 26 = .ok (.getfield 155, 3) := by decide +kernel
theorem d_M_seen_29 : decode b_M_seen 29 = .ok (.iload_n 1, 1) := by decide +kernel
theorem d_M_seen_30 : decode b_M_seen 30 = .ok (.iaload, 1) := by decide +kernel
theorem d_M_seen_31 : decode b_M_seen 31 = .ok (.if_icmp .ge 137, 3) := by decide +kernel
theorem d_M_seen_34 : decode b_M_seen 34 = .ok (.bipush 32, 2) := by decide +kernel
theorem d_M_seen_36 : decode b_M_seen 36 = .ok (.iload_n 1, 1) := by decide +kernel
theorem d_M_seen_37 : decode b_M_seen 37 = .ok (.imul, 1) := by decide +kernel
theorem d_M_seen_38 : decode b_M_seen 38 = .ok (.iload 10, 2) := by decide +kernel
theorem d_M_seen_40 : decode b_M_seen 40 = .ok (.iadd, 1) := by decide +kernel
theorem d_M_seen_41 : decode b_M_seen 41 = .ok (.istore 11, 2) := by decide +kernel
theorem d_M_seen_43 : decode b_M_seen 43 = .ok (.aload_n 0, 1) := by decide +kernel
theorem d_M_seen_44 : decode b_M_seen 44 = .ok (.getfield 158, 3) := by decide +kernel
theorem d_M_seen_47 : decode b_M_seen 47 = .ok (.iload 11, 2) := by decide +kernel
theorem d_M_seen_49 : decode b_M_seen 49 = .ok (.laload, 1) := by decide +kernel
theorem d_M_seen_50 : decode b_M_seen 50 = .ok (.aload_n 0, 1) := by decide +kernel
theorem d_M_seen_51 : decode b_M_seen 51 = .ok (.getfield 18, 3) := by decide +kernel
theorem d_M_seen_54 : decode b_M_seen 54 = .ok (.i2l, 1) := by decide +kernel
theorem d_M_seen_55 : decode b_M_seen 55 = .ok (.ldc2_w 646, 3) := by decide +kernel
theorem d_M_seen_58 : decode b_M_seen 58 = .ok (.lsub, 1) := by decide +kernel
theorem d_M_seen_59 : decode b_M_seen 59 = .ok (.lcmp, 1) := by decide +kernel
theorem d_M_seen_60 : decode b_M_seen 60 = .ok (.ifCond .ge 6, 3) := by decide +kernel
theorem d_M_seen_63 : decode b_M_seen 63 = .ok (.goto 99, 3) := by decide +kernel
theorem d_M_seen_66 : decode b_M_seen 66 = .ok (.bipush 32, 2) := by decide +kernel
theorem d_M_seen_68 : decode b_M_seen 68 = .ok (.iload_n 1, 1) := by decide +kernel
theorem d_M_seen_69 : decode b_M_seen 69 = .ok (.imul, 1) := by decide +kernel
theorem d_M_seen_70 : decode b_M_seen 70 = .ok (.iload 9, 2) := by decide +kernel
theorem d_M_seen_72 : decode b_M_seen 72 = .ok (.iadd, 1) := by decide +kernel
theorem d_M_seen_73 : decode b_M_seen 73 = .ok (.istore 12, 2) := by decide +kernel
theorem d_M_seen_75 : decode b_M_seen 75 = .ok (.iconst 0, 1) := by decide +kernel
theorem d_M_seen_76 : decode b_M_seen 76 = .ok (.istore 13, 2) := by decide +kernel
theorem d_M_seen_78 : decode b_M_seen 78 = .ok (.iload 13, 2) := by decide +kernel
theorem d_M_seen_80 : decode b_M_seen 80 = .ok (.bipush 44, 2) := by decide +kernel
theorem d_M_seen_82 : decode b_M_seen 82 = .ok (.if_icmp .ge 35, 3) := by decide +kernel
theorem d_M_seen_85 : decode b_M_seen 85 = .ok (.aload_n 0, 1) := by decide +kernel
theorem d_M_seen_86 : decode b_M_seen 86 = .ok (.getfield 146, 3) := by decide +kernel
theorem d_M_seen_89 : decode b_M_seen 89 = .ok (.bipush 44, 2) := by decide +kernel
theorem d_M_seen_91 : decode b_M_seen 91 = .ok (.iload 12, 2) := by decide +kernel
theorem d_M_seen_93 : decode b_M_seen 93 = .ok (.imul, 1) := by decide +kernel
theorem d_M_seen_94 : decode b_M_seen 94 = .ok (.iload 13, 2) := by decide +kernel
theorem d_M_seen_96 : decode b_M_seen 96 = .ok (.iadd, 1) := by decide +kernel
theorem d_M_seen_97 : decode b_M_seen 97 = .ok (.aload_n 0, 1) := by decide +kernel
theorem d_M_seen_98 : decode b_M_seen 98 = .ok (.getfield 146, 3) := by decide +kernel
theorem d_M_seen_101 : decode b_M_seen 101 = .ok (.bipush 44, 2) := by decide +kernel
theorem d_M_seen_103 : decode b_M_seen 103 = .ok (.iload 11, 2) := by decide +kernel
theorem d_M_seen_105 : decode b_M_seen 105 = .ok (.imul, 1) := by decide +kernel
theorem d_M_seen_106 : decode b_M_seen 106 = .ok (.iload 13, 2) := by decide +kernel
theorem d_M_seen_108 : decode b_M_seen 108 = .ok (.iadd, 1) := by decide +kernel
theorem d_M_seen_109 : decode b_M_seen 109 = .ok (.baload, 1) := by decide +kernel
theorem d_M_seen_110 : decode b_M_seen 110 = .ok (.bastore, 1) := by decide +kernel
theorem d_M_seen_111 : decode b_M_seen 111 = .ok (.iinc 13 1, 3) := by decide +kernel
theorem d_M_seen_114 : decode b_M_seen 114 = .ok (.goto (-36), 3) := by decide +kernel
theorem d_M_seen_117 : decode b_M_seen 117 = .ok (.aload_n 0, 1) := by decide +kernel
theorem d_M_seen_118 : decode b_M_seen 118 = .ok (.getfield 149, 3) := by decide +kernel
theorem d_M_seen_121 : decode b_M_seen 121 = .ok (.iload 12, 2) := by decide +kernel
theorem d_M_seen_123 : decode b_M_seen 123 = .ok (.aload_n 0, 1) := by decide +kernel
theorem d_M_seen_124 : decode b_M_seen 124 = .ok (.getfield 149, 3) := by decide +kernel
theorem d_M_seen_127 : decode b_M_seen 127 = .ok (.iload 11, 2) := by decide +kernel
theorem d_M_seen_129 : decode b_M_seen 129 = .ok (.iaload, 1) := by decide +kernel
theorem d_M_seen_130 : decode b_M_seen 130 = .ok (.iastore, 1) := by decide +kernel
theorem d_M_seen_131 : decode b_M_seen 131 = .ok (.aload_n 0, 1) := by decide +kernel
theorem d_M_seen_132 : decode b_M_seen 132 = .ok (.getfield 158, 3) := by decide +kernel
theorem d_M_seen_135 : decode b_M_seen 135 = .ok (.iload 12, 2) := by decide +kernel
theorem d_M_seen_137 : decode b_M_seen 137 = .ok (.aload_n 0, 1) := by decide +kernel
theorem d_M_seen_138 : decode b_M_seen 138 = .ok (.getfield 158, 3) := by decide +kernel
theorem d_M_seen_141 : decode b_M_seen 141 = .ok (.iload 11, 2) := by decide +kernel
theorem d_M_seen_143 : decode b_M_seen 143 = .ok (.laload, 1) := by decide +kernel
theorem d_M_seen_144 : decode b_M_seen 144 = .ok (.lastore, 1) := by decide +kernel
theorem d_M_seen_145 : decode b_M_seen 145 = .ok (.aload_n 0, 1) := by decide +kernel
theorem d_M_seen_146 : decode b_M_seen 146 = .ok (.getfield 152, 3) := by decide +kernel
theorem d_M_seen_149 : decode b_M_seen 149 = .ok (.iload 12, 2) := by decide +kernel
theorem d_M_seen_151 : decode b_M_seen 151 = .ok (.aload_n 0, 1) := by decide +kernel
theorem d_M_seen_152 : decode b_M_seen 152 = .ok (.getfield 152, 3) := by decide +kernel
theorem d_M_seen_155 : decode b_M_seen 155 = .ok (.iload 11, 2) := by decide +kernel
theorem d_M_seen_157 : decode b_M_seen 157 = .ok (.iaload, 1) := by decide +kernel
theorem d_M_seen_158 : decode b_M_seen 158 = .ok (.iastore, 1) := by decide +kernel
theorem d_M_seen_159 : decode b_M_seen 159 = .ok (.iinc 9 1, 3) := by decide +kernel
theorem d_M_seen_162 : decode b_M_seen 162 = .ok (.iinc 10 1, 3) := by decide +kernel
theorem d_M_seen_165 : decode b_M_seen 165 = .ok (.goto (-142), 3) := by decide +kernel
theorem d_M_seen_168 : decode b_M_seen 168 = .ok (.aload_n 0, 1) := by decide +kernel
theorem d_M_seen_169 : decode b_M_seen 169 = .ok (.getfield 155, 3) := by decide +kernel
theorem d_M_seen_172 : decode b_M_seen 172 = .ok (.iload_n 1, 1) := by decide +kernel
theorem d_M_seen_173 : decode b_M_seen 173 = .ok (.iload 9, 2) := by decide +kernel
theorem d_M_seen_175 : decode b_M_seen 175 = .ok (.iastore, 1) := by decide +kernel
theorem d_M_seen_176 : decode b_M_seen 176 = .ok (.iconst 0, 1) := by decide +kernel
theorem d_M_seen_177 : decode b_M_seen 177 = .ok (.istore 10, 2) := by decide +kernel
theorem d_M_seen_179 : decode b_M_seen 179 = .ok (.iload 10, 2) := by decide +kernel
theorem d_M_seen_181 : decode b_M_seen 181 = .ok (.iload 9, 2) := by decide +kernel
theorem d_M_seen_183 : decode b_M_seen 183 = .ok (.if_icmp .ge 130, 3) := by decide +kernel
theorem d_M_seen_186 : decode b_M_seen 186 = .ok (.bipush 32, 2) := by decide +kernel
theorem d_M_seen_188 : decode b_M_seen 188 = .ok (.iload_n 1, 1) := by decide +kernel
theorem d_M_seen_189 : decode b_M_seen 189 = .ok (.imul, 1) := by decide +kernel
theorem d_M_seen_190 : decode b_M_seen 190 = .ok (.iload 10, 2) := by decide +kernel
theorem d_M_seen_192 : decode b_M_seen 192 = .ok (.iadd, 1) := by decide +kernel
theorem d_M_seen_193 : decode b_M_seen 193 = .ok (.istore 11, 2) := by decide +kernel
theorem d_M_seen_195 : decode b_M_seen 195 = .ok (.aload_n 0, 1) := by decide +kernel
theorem d_M_seen_196 : decode b_M_seen 196 = .ok (.getfield 158, 3) := by decide +kernel
theorem d_M_seen_199 : decode b_M_seen 199 = .ok (.iload 11, 2) := by decide +kernel
theorem d_M_seen_201 : decode b_M_seen 201 = .ok (.laload, 1) := by decide +kernel
theorem d_M_seen_202 : decode b_M_seen 202 = .ok (.lload 4, 2) := by decide +kernel
theorem d_M_seen_204 : decode b_M_seen 204 = .ok (.lcmp, 1) := by decide +kernel
theorem d_M_seen_205 : decode b_M_seen 205 = .ok (.ifCond .ne 34, 3) := by decide +kernel
theorem d_M_seen_208 : decode b_M_seen 208 = .ok (.aload_n 0, 1) := by decide +kernel
theorem d_M_seen_209 : decode b_M_seen 209 = .ok (.getfield 152, 3) := by decide +kernel
theorem d_M_seen_212 : decode b_M_seen 212 = .ok (.iload 11, 2) := by decide +kernel
theorem d_M_seen_214 : decode b_M_seen 214 = .ok (.iaload, 1) := by decide +kernel
theorem d_M_seen_215 : decode b_M_seen 215 = .ok (.iload 6, 2) := by decide +kernel
theorem d_M_seen_217 : decode b_M_seen 217 = .ok (.if_icmp .ne 22, 3) := by decide +kernel
theorem d_M_seen_220 : decode b_M_seen 220 = .ok (.aload_n 0, 1) := by decide +kernel
theorem d_M_seen_221 : decode b_M_seen 221 = .ok (.getfield 149, 3) := by decide +kernel
theorem d_M_seen_224 : decode b_M_seen 224 = .ok (.iload 11, 2) := by decide +kernel
theorem d_M_seen_226 : decode b_M_seen 226 = .ok (.iaload, 1) := by decide +kernel
theorem d_M_seen_227 : decode b_M_seen 227 = .ok (.iload 8, 2) := by decide +kernel
theorem d_M_seen_229 : decode b_M_seen 229 = .ok (.iload 7, 2) := by decide +kernel
theorem d_M_seen_231 : decode b_M_seen 231 = .ok (.isub, 1) := by decide +kernel
theorem d_M_seen_232 : decode b_M_seen 232 = .ok (.if_icmp .ne 7, 3) := by decide +kernel
theorem d_M_seen_235 : decode b_M_seen 235 = .ok (.iconst 1, 1) := by decide +kernel
theorem d_M_seen_236 : decode b_M_seen 236 = .ok (.goto 4, 3) := by decide +kernel
theorem d_M_seen_239 : decode b_M_seen 239 = .ok (.iconst 0, 1) := by decide +kernel
theorem d_M_seen_240 : decode b_M_seen 240 = .ok (.istore 12, 2) := by decide +kernel
theorem d_M_seen_242 : decode b_M_seen 242 = .ok (.iconst 0, 1) := by decide +kernel
theorem d_M_seen_243 : decode b_M_seen 243 = .ok (.istore 13, 2) := by decide +kernel
theorem d_M_seen_245 : decode b_M_seen 245 = .ok (.iload 13, 2) := by decide +kernel
theorem d_M_seen_247 : decode b_M_seen 247 = .ok (.iload 8, 2) := by decide +kernel
theorem d_M_seen_249 : decode b_M_seen 249 = .ok (.iload 7, 2) := by decide +kernel
theorem d_M_seen_251 : decode b_M_seen 251 = .ok (.isub, 1) := by decide +kernel
theorem d_M_seen_252 : decode b_M_seen 252 = .ok (.if_icmp .ge 47, 3) := by decide +kernel
theorem d_M_seen_255 : decode b_M_seen 255 = .ok (.iload 12, 2) := by decide +kernel
theorem d_M_seen_257 : decode b_M_seen 257 = .ok (.ifCond .eq 42, 3) := by decide +kernel
theorem d_M_seen_260 : decode b_M_seen 260 = .ok (.aload_n 0, 1) := by decide +kernel
theorem d_M_seen_261 : decode b_M_seen 261 = .ok (.getfield 146, 3) := by decide +kernel
theorem d_M_seen_264 : decode b_M_seen 264 = .ok (.bipush 44, 2) := by decide +kernel
theorem d_M_seen_266 : decode b_M_seen 266 = .ok (.iload 11, 2) := by decide +kernel
theorem d_M_seen_268 : decode b_M_seen 268 = .ok (.imul, 1) := by decide +kernel
theorem d_M_seen_269 : decode b_M_seen 269 = .ok (.iload 13, 2) := by decide +kernel
theorem d_M_seen_271 : decode b_M_seen 271 = .ok (.iadd, 1) := by decide +kernel
theorem d_M_seen_272 : decode b_M_seen 272 = .ok (.baload, 1) := by decide +kernel
theorem d_M_seen_273 : decode b_M_seen 273 = .ok (.aload_n 0, 1) := by decide +kernel
theorem d_M_seen_274 : decode b_M_seen 274 = .ok (.getfield 10, 3) := by decide +kernel
theorem d_M_seen_277 : decode b_M_seen 277 = .ok (.iload 7, 2) := by decide +kernel
theorem d_M_seen_279 : decode b_M_seen 279 = .ok (.iload 13, 2) := by decide +kernel
theorem d_M_seen_281 : decode b_M_seen 281 = .ok (.iadd, 1) := by decide +kernel
theorem d_M_seen_282 : decode b_M_seen 282 = .ok (.baload, 1) := by decide +kernel
theorem d_M_seen_283 : decode b_M_seen 283 = .ok (.if_icmp .ne 7, 3) := by decide +kernel
theorem d_M_seen_286 : decode b_M_seen 286 = .ok (.iconst 1, 1) := by decide +kernel
theorem d_M_seen_287 : decode b_M_seen 287 = .ok (.goto 4, 3) := by decide +kernel
theorem d_M_seen_290 : decode b_M_seen 290 = .ok (.iconst 0, 1) := by decide +kernel
theorem d_M_seen_291 : decode b_M_seen 291 = .ok (.istore 12, 2) := by decide +kernel
theorem d_M_seen_293 : decode b_M_seen 293 = .ok (.iinc 13 1, 3) := by decide +kernel
theorem d_M_seen_296 : decode b_M_seen 296 = .ok (.goto (-51), 3) := by decide +kernel
theorem d_M_seen_299 : decode b_M_seen 299 = .ok (.iload 12, 2) := by decide +kernel
theorem d_M_seen_301 : decode b_M_seen 301 = .ok (.ifCond .eq 6, 3) := by decide +kernel
theorem d_M_seen_304 : decode b_M_seen 304 = .ok (.bipush 34, 2) := by decide +kernel
theorem d_M_seen_306 : decode b_M_seen 306 = .ok (.ireturn, 1) := by decide +kernel
theorem d_M_seen_307 : decode b_M_seen 307 = .ok (.iinc 10 1, 3) := by decide +kernel
theorem d_M_seen_310 : decode b_M_seen 310 = .ok (.goto (-131), 3) := by decide +kernel
theorem d_M_seen_313 : decode b_M_seen 313 = .ok (.iload 9, 2) := by decide +kernel
theorem d_M_seen_315 : decode b_M_seen 315 = .ok (.aload_n 0, 1) := by decide +kernel
theorem d_M_seen_316 : decode b_M_seen 316 = .ok (.getfield 134, 3) := by decide +kernel
theorem d_M_seen_319 : decode b_M_seen 319 = .ok (.if_icmp .lt 6, 3) := by decide +kernel
theorem d_M_seen_322 : decode b_M_seen 322 = .ok (.bipush 29, 2) := by decide +kernel
theorem d_M_seen_324 : decode b_M_seen 324 = .ok (.ireturn, 1) := by decide +kernel
theorem d_M_seen_325 : decode b_M_seen 325 = .ok (.bipush 32, 2) := by decide +kernel
theorem d_M_seen_327 : decode b_M_seen 327 = .ok (.iload_n 1, 1) := by decide +kernel
theorem d_M_seen_328 : decode b_M_seen 328 = .ok (.imul, 1) := by decide +kernel
theorem d_M_seen_329 : decode b_M_seen 329 = .ok (.iload 9, 2) := by decide +kernel
theorem d_M_seen_331 : decode b_M_seen 331 = .ok (.iadd, 1) := by decide +kernel
theorem d_M_seen_332 : decode b_M_seen 332 = .ok (.istore 10, 2) := by decide +kernel
theorem d_M_seen_334 : decode b_M_seen 334 = .ok (.aload_n 0, 1) := by decide +kernel
theorem d_M_seen_335 : decode b_M_seen 335 = .ok (.getfield 155, 3) := by decide +kernel
theorem d_M_seen_338 : decode b_M_seen 338 = .ok (.iload_n 1, 1) := by decide +kernel
theorem d_M_seen_339 : decode b_M_seen 339 = .ok (.dup2, 1) := by decide +kernel
theorem d_M_seen_340 : decode b_M_seen 340 = .ok (.iaload, 1) := by decide +kernel
theorem d_M_seen_341 : decode b_M_seen 341 = .ok (.iconst 1, 1) := by decide +kernel
theorem d_M_seen_342 : decode b_M_seen 342 = .ok (.iadd, 1) := by decide +kernel
theorem d_M_seen_343 : decode b_M_seen 343 = .ok (.iastore, 1) := by decide +kernel
theorem d_M_seen_344 : decode b_M_seen 344 = .ok (.aload_n 0, 1) := by decide +kernel
theorem d_M_seen_345 : decode b_M_seen 345 = .ok (.getfield 149, 3) := by decide +kernel
theorem d_M_seen_348 : decode b_M_seen 348 = .ok (.iload 10, 2) := by decide +kernel
theorem d_M_seen_350 : decode b_M_seen 350 = .ok (.iload 8, 2) := by decide +kernel
theorem d_M_seen_352 : decode b_M_seen 352 = .ok (.iload 7, 2) := by decide +kernel
theorem d_M_seen_354 : decode b_M_seen 354 = .ok (.isub, 1) := by decide +kernel
theorem d_M_seen_355 : decode b_M_seen 355 = .ok (.iastore, 1) := by decide +kernel
theorem d_M_seen_356 : decode b_M_seen 356 = .ok (.aload_n 0, 1) := by decide +kernel
theorem d_M_seen_357 : decode b_M_seen 357 = .ok (.getfield 158, 3) := by decide +kernel
theorem d_M_seen_360 : decode b_M_seen 360 = .ok (.iload 10, 2) := by decide +kernel
theorem d_M_seen_362 : decode b_M_seen 362 = .ok (.lload 4, 2) := by decide +kernel
theorem d_M_seen_364 : decode b_M_seen 364 = .ok (.lastore, 1) := by decide +kernel
theorem d_M_seen_365 : decode b_M_seen 365 = .ok (.aload_n 0, 1) := by decide +kernel
theorem d_M_seen_366 : decode b_M_seen 366 = .ok (.getfield 152, 3) := by decide +kernel
theorem d_M_seen_369 : decode b_M_seen 369 = .ok (.iload 10, 2) := by decide +kernel
theorem d_M_seen_371 : decode b_M_seen 371 = .ok (.iload 6, 2) := by decide +kernel
theorem d_M_seen_373 : decode b_M_seen 373 = .ok (.iastore, 1) := by decide +kernel
theorem d_M_seen_374 : decode b_M_seen 374 = .ok (.iconst 0, 1) := by decide +kernel
theorem d_M_seen_375 : decode b_M_seen 375 = .ok (.istore 11, 2) := by decide +kernel
theorem d_M_seen_377 : decode b_M_seen 377 = .ok (.iload 11, 2) := by decide +kernel
theorem d_M_seen_379 : decode b_M_seen 379 = .ok (.iload 8, 2) := by decide +kernel
theorem d_M_seen_381 : decode b_M_seen 381 = .ok (.iload 7, 2) := by decide +kernel
theorem d_M_seen_383 : decode b_M_seen 383 = .ok (.isub, 1) := by decide +kernel
theorem d_M_seen_384 : decode b_M_seen 384 = .ok (.if_icmp .ge 32, 3) := by decide +kernel
theorem d_M_seen_387 : decode b_M_seen 387 = .ok (.aload_n 0, 1) := by decide +kernel
theorem d_M_seen_388 : decode b_M_seen 388 = .ok (.getfield 146, 3) := by decide +kernel
theorem d_M_seen_391 : decode b_M_seen 391 = .ok (.bipush 44, 2) := by decide +kernel
theorem d_M_seen_393 : decode b_M_seen 393 = .ok (.iload 10, 2) := by decide +kernel
theorem d_M_seen_395 : decode b_M_seen 395 = .ok (.imul, 1) := by decide +kernel
theorem d_M_seen_396 : decode b_M_seen 396 = .ok (.iload 11, 2) := by decide +kernel
theorem d_M_seen_398 : decode b_M_seen 398 = .ok (.iadd, 1) := by decide +kernel
theorem d_M_seen_399 : decode b_M_seen 399 = .ok (.aload_n 0, 1) := by decide +kernel
theorem d_M_seen_400 : decode b_M_seen 400 = .ok (.getfield 10, 3) := by decide +kernel
theorem d_M_seen_403 : decode b_M_seen 403 = .ok (.iload 7, 2) := by decide +kernel
theorem d_M_seen_405 : decode b_M_seen 405 = .ok (.iload 11, 2) := by decide +kernel
theorem d_M_seen_407 : decode b_M_seen 407 = .ok (.iadd, 1) := by decide +kernel
theorem d_M_seen_408 : decode b_M_seen 408 = .ok (.baload, 1) := by decide +kernel
theorem d_M_seen_409 : decode b_M_seen 409 = .ok (.bastore, 1) := by decide +kernel
theorem d_M_seen_410 : decode b_M_seen 410 = .ok (.iinc 11 1, 3) := by decide +kernel
theorem d_M_seen_413 : decode b_M_seen 413 = .ok (.goto (-36), 3) := by decide +kernel
theorem d_M_seen_416 : decode b_M_seen 416 = .ok (.iconst 0, 1) := by decide +kernel
theorem d_M_seen_417 : decode b_M_seen 417 = .ok (.ireturn, 1) := by decide +kernel
abbrev b_M_kdc : ByteArray := prog_14_method_99_code
def y_M_kdc : MethodName := ⟨R_M, "kdc", "()I"⟩
abbrev k_M_kdc : Cond := .code y_M_kdc b_M_kdc 3 (some .int)
theorem ki_M_kdc : k_M_kdc ∈ lw_tg := in_t 2355 (by decide +kernel)
theorem ks_M_kdc : Cond.instanceMethod y_M_kdc ∈ lw_tg := in_t 2353 (by decide +kernel)
theorem kx_M_kdc : Cond.selects R_M y_M_kdc y_M_kdc ∈ lw_tg := in_t 2354 (by decide +kernel)
theorem hd_M_kdc : y_M_kdc.cls = R_M ∧ y_M_kdc.cls ≠ "java/lang/invoke/MethodHandle" ∧ y_M_kdc.cls ≠ "java/lang/invoke/VarHandle" ∧ (parseMethodDescriptor y_M_kdc.desc).map (fun d => d.parameters.length) = some 0 := by decide +kernel
theorem d_M_kdc_0 : decode b_M_kdc 0 = .ok (.aload_n 0, 1) := by decide +kernel
theorem d_M_kdc_1 : decode b_M_kdc 1 = .ok (.getfield 332, 3) := by decide +kernel
theorem d_M_kdc_4 : decode b_M_kdc 4 = .ok (.istore_n 1, 1) := by decide +kernel
theorem d_M_kdc_5 : decode b_M_kdc 5 = .ok (.aload_n 0, 1) := by decide +kernel
theorem d_M_kdc_6 : decode b_M_kdc 6 = .ok (.iconst 0, 1) := by decide +kernel
theorem d_M_kdc_7 : decode b_M_kdc 7 = .ok (.putfield 332, 3) := by decide +kernel
theorem d_M_kdc_10 : decode b_M_kdc 10 = .ok (.aload_n 0, 1) := by decide +kernel
theorem d_M_kdc_11 : decode b_M_kdc 11 = .ok (.iconst 0, 1) := by decide +kernel
theorem d_M_kdc_12 : decode b_M_kdc 12 = .ok (.putfield 648, 3) := by decide +kernel
theorem d_M_kdc_15 : decode b_M_kdc 15 = .ok (.aload_n 0, 1) := by decide +kernel
theorem d_M_kdc_16 : decode b_M_kdc 16 = .ok (.iconst 0, 1) := by decide +kernel
theorem d_M_kdc_17 : decode b_M_kdc 17 = .ok (.putfield 651, 3) := by decide +kernel
theorem d_M_kdc_20 : decode b_M_kdc 20 = .ok (.aload_n 0, 1) := by decide +kernel
theorem d_M_kdc_21 : decode b_M_kdc 21 = .ok (.iload_n 1, 1) := by decide +kernel
theorem d_M_kdc_22 : decode b_M_kdc 22 = .ok (.invokevirtual 654, 3) := by decide +kernel
theorem d_M_kdc_25 : decode b_M_kdc 25 = .ok (.istore_n 2, 1) := by decide +kernel
theorem d_M_kdc_26 : decode b_M_kdc 26 = .ok (.iload_n 2, 1) := by decide +kernel
theorem d_M_kdc_27 : decode b_M_kdc 27 = .ok (.ifCond .eq 8, 3) := by decide +kernel
theorem d_M_kdc_30 : decode b_M_kdc 30 = .ok (.aload_n 0, 1) := by decide +kernel
theorem d_M_kdc_31 : decode b_M_kdc 31 = .ok (.iload_n 2, 1) := by decide +kernel
theorem d_M_kdc_32 : decode b_M_kdc 32 = .ok (.invokevirtual 657, 3) := by decide +kernel
theorem d_M_kdc_35 : decode b_M_kdc 35 = .ok (.iload_n 2, 1) := by decide +kernel
theorem d_M_kdc_36 : decode b_M_kdc 36 = .ok (.ireturn, 1) := by decide +kernel
abbrev b_M_asked : ByteArray := prog_14_method_100_code
def y_M_asked : MethodName := ⟨R_M, "asked", "(I)I"⟩
abbrev k_M_asked : Cond := .code y_M_asked b_M_asked 4 (some .int)
theorem ki_M_asked : k_M_asked ∈ lw_tg := in_t 2359 (by decide +kernel)
theorem ks_M_asked : Cond.instanceMethod y_M_asked ∈ lw_tg := in_t 2358 (by decide +kernel)
theorem kx_M_asked : Cond.selects R_M y_M_asked y_M_asked ∈ lw_tg := List.mem_filter.mpr ⟨List.mem_append_left _ (List.mem_of_getElem? (i := 93) (by decide +kernel)), rfl⟩
theorem kl_M_asked : Cond.methodLink R_M 654 y_M_asked ∈ lw_tg := in_t 2356 (by decide +kernel)
theorem hd_M_asked : y_M_asked.cls = R_M ∧ y_M_asked.cls ≠ "java/lang/invoke/MethodHandle" ∧ y_M_asked.cls ≠ "java/lang/invoke/VarHandle" ∧ (parseMethodDescriptor y_M_asked.desc).map (fun d => d.parameters.length) = some 1 := by decide +kernel
theorem d_M_asked_0 : decode b_M_asked 0 = .ok (.iload_n 1, 1) := by decide +kernel
theorem d_M_asked_1 : decode b_M_asked 1 = .ok (.ifCond .ne 7, 3) := by decide +kernel
theorem d_M_asked_4 : decode b_M_asked 4 = .ok (.iconst 0, 1) := by decide +kernel
theorem d_M_asked_5 : decode b_M_asked 5 = .ok (.goto 13, 3) := by decide +kernel
theorem d_M_asked_8 : decode b_M_asked 8 = .ok (.aload_n 0, 1) := by decide +kernel
theorem d_M_asked_9 : decode b_M_asked 9 = .ok (.getfield 10, 3) := by decide +kernel
theorem d_M_asked_12 : decode b_M_asked 12 = .ok (.iconst 0, 1) := by decide +kernel
theorem d_M_asked_13 : decode b_M_asked 13 = .ok (.baload, 1) := by decide +kernel
theorem d_M_asked_14 : decode b_M_asked 14 = .ok (.sipush 255, 3) := by decide +kernel
theorem d_M_asked_17 : decode b_M_asked 17 = .ok (.iand, 1) := by decide +kernel
theorem d_M_asked_18 : decode b_M_asked 18 = .ok (.istore_n 2, 1) := by decide +kernel
theorem d_M_asked_19 : decode b_M_asked 19 = .ok (.aload_n 0, 1) := by decide +kernel
theorem d_M_asked_20 : decode b_M_asked 20 = .ok (.iload_n 2, 1) := by decide +kernel
theorem d_M_asked_21 : decode b_M_asked 21 = .ok (.bipush 106, 2) := by decide +kernel
theorem d_M_asked_23 : decode b_M_asked 23 = .ok (.if_icmp .ne 7, 3) := by decide +kernel
theorem d_M_asked_26 : decode b_M_asked 26 = .ok (.iconst 1, 1) := by decide +kernel
theorem d_M_asked_27 : decode b_M_asked 27 = .ok (.goto 4, 3) := by decide +kernel
theorem d_M_asked_30 : decode b_M_asked 30 = .ok (.iconst 0, 1) := by decide +kernel
theorem d_M_asked_31 : decode b_M_asked 31 = .ok (.putfield 660, 3) := by decide +kernel
theorem d_M_asked_34 : decode b_M_asked 34 = .ok (.aload_n 0, 1) := by decide +kernel
theorem d_M_asked_35 : decode b_M_asked 35 = .ok (.getfield 660, 3) := by decide +kernel
theorem d_M_asked_38 : decode b_M_asked 38 = .ok (.ifCond .eq 18, 3) := by decide +kernel
theorem d_M_asked_41 : decode b_M_asked 41 = .ok (.aload_n 0, 1) := by decide +kernel
theorem d_M_asked_42 : decode b_M_asked 42 = .ok (.bipush 10, 2) := by decide +kernel
theorem d_M_asked_44 : decode b_M_asked 44 = .ok (.ldc_w 663, 3) := by decide +kernel
theorem d_M_asked_47 : decode b_M_asked 47 = .ok (.iconst 0, 1) := by decide +kernel
theorem d_M_asked_48 : decode b_M_asked 48 = .ok (.iload_n 1, 1) := by decide +kernel
theorem d_M_asked_49 : decode b_M_asked 49 = .ok (.iconst 0, 1) := by decide +kernel
theorem d_M_asked_50 : decode b_M_asked 50 = .ok (.invokevirtual 522, 3) := by decide +kernel
theorem d_M_asked_53 : decode b_M_asked 53 = .ok (.goto 29, 3) := by decide +kernel
theorem d_M_asked_56 : decode b_M_asked 56 = .ok (.iload_n 2, 1) := by decide +kernel
theorem d_M_asked_57 : decode b_M_asked 57 = .ok (.bipush 108, 2) := by decide +kernel
theorem d_M_asked_59 : decode b_M_asked 59 = .ok (.if_icmp .ne 22, 3) := by decide +kernel
theorem d_M_asked_62 : decode b_M_asked 62 = .ok (.aload_n 0, 1) := by decide +kernel
theorem d_M_asked_63 : decode b_M_asked 63 = .ok (.bipush 12, 2) := by decide +kernel
theorem d_M_asked_65 : decode b_M_asked 65 = .ok (.ldc_w 663, 3) := by decide +kernel
theorem d_M_asked_68 : decode b_M_asked 68 = .ok (.iconst 0, 1) := by decide +kernel
theorem d_M_asked_69 : decode b_M_asked 69 = .ok (.iload_n 1, 1) := by decide +kernel
theorem d_M_asked_70 : decode b_M_asked 70 = .ok (.iconst 0, 1) := by decide +kernel
theorem d_M_asked_71 : decode b_M_asked 71 = .ok (.invokevirtual 522, 3) := by decide +kernel
theorem d_M_asked_74 : decode b_M_asked 74 = .ok (.ifCond .eq 7, 3) := by decide +kernel
theorem d_M_asked_77 : decode b_M_asked 77 = .ok (.iconst 1, 1) := by decide +kernel
theorem d_M_asked_78 : decode b_M_asked 78 = .ok (.goto 4, 3) := by decide +kernel
theorem d_M_asked_81 : decode b_M_asked 81 = .ok (.iconst 0, 1) := by decide +kernel
theorem d_M_asked_82 : decode b_M_asked 82 = .ok (.istore_n 3, 1) := by decide +kernel
theorem d_M_asked_83 : decode b_M_asked 83 = .ok (.iload_n 3, 1) := by decide +kernel
theorem d_M_asked_84 : decode b_M_asked 84 = .ok (.ifCond .ne 6, 3) := by decide +kernel
theorem d_M_asked_87 : decode b_M_asked 87 = .ok (.bipush 60, 2) := by decide +kernel
theorem d_M_asked_89 : decode b_M_asked 89 = .ok (.ireturn, 1) := by decide +kernel
theorem d_M_asked_90 : decode b_M_asked 90 = .ok (.aload_n 0, 1) := by decide +kernel
theorem d_M_asked_91 : decode b_M_asked 91 = .ok (.iconst 1, 1) := by decide +kernel
theorem d_M_asked_92 : decode b_M_asked 92 = .ok (.putfield 648, 3) := by decide +kernel
theorem d_M_asked_95 : decode b_M_asked 95 = .ok (.aload_n 0, 1) := by decide +kernel
theorem d_M_asked_96 : decode b_M_asked 96 = .ok (.ldc_w 534, 3) := by decide +kernel
theorem d_M_asked_99 : decode b_M_asked 99 = .ok (.aload_n 0, 1) := by decide +kernel
theorem d_M_asked_100 : decode b_M_asked 100 = .ok (.iconst 0, 1) := by decide +kernel
theorem d_M_asked_101 : decode b_M_asked 101 = .ok (.iconst 4, 1) := by decide +kernel
theorem d_M_asked_102 : decode b_M_asked 102 = .ok (.invokevirtual 536, 3) := by decide +kernel
theorem d_M_asked_105 : decode b_M_asked 105 = .ok (.aload_n 0, 1) := by decide +kernel
theorem d_M_asked_106 : decode b_M_asked 106 = .ok (.iconst 0, 1) := by decide +kernel
theorem d_M_asked_107 : decode b_M_asked 107 = .ok (.iconst 4, 1) := by decide +kernel
theorem d_M_asked_108 : decode b_M_asked 108 = .ok (.invokevirtual 539, 3) := by decide +kernel
theorem d_M_asked_111 : decode b_M_asked 111 = .ok (.iconst 1, 1) := by decide +kernel
theorem d_M_asked_112 : decode b_M_asked 112 = .ok (.invokevirtual 487, 3) := by decide +kernel
theorem d_M_asked_115 : decode b_M_asked 115 = .ok (.pop, 1) := by decide +kernel
theorem d_M_asked_116 : decode b_M_asked 116 = .ok (.aload_n 0, 1) := by decide +kernel
theorem d_M_asked_117 : decode b_M_asked 117 = .ok (.iconst 0, 1) := by decide +kernel
theorem d_M_asked_118 : decode b_M_asked 118 = .ok (.iconst 1, 1) := by decide +kernel
theorem d_M_asked_119 : decode b_M_asked 119 = .ok (.invokevirtual 665, 3) := by decide +kernel
theorem d_M_asked_122 : decode b_M_asked 122 = .ok (.ldc2_w 669, 3) := by decide +kernel
theorem d_M_asked_125 : decode b_M_asked 125 = .ok (.lcmp, 1) := by decide +kernel
theorem d_M_asked_126 : decode b_M_asked 126 = .ok (.ifCond .eq 5, 3) := by decide +kernel
theorem d_M_asked_129 : decode b_M_asked 129 = .ok (.iconst 3, 1) := by decide +kernel
theorem d_M_asked_130 : decode b_M_asked 130 = .ok (.ireturn, 1) := by decide +kernel
theorem d_M_asked_131 : decode b_M_asked 131 = .ok (.aload_n 0, 1) := by decide +kernel
theorem d_M_asked_132 : decode b_M_asked 132 = .ok (.iconst 0, 1) := by decide +kernel
theorem d_M_asked_133 : decode b_M_asked 133 = .ok (.iconst 2, 1) := by decide +kernel
theorem d_M_asked_134 : decode b_M_asked 134 = .ok (.invokevirtual 665, 3) := by decide +kernel
theorem d_M_asked_137 : decode b_M_asked 137 = .ok (.aload_n 0, 1) := by decide +kernel
theorem d_M_asked_138 : decode b_M_asked 138 = .ok (.getfield 660, 3) := by decide +kernel
theorem d_M_asked_141 : decode b_M_asked 141 = .ok (.ifCond .eq 9, 3) := by decide +kernel
theorem d_M_asked_144 : decode b_M_asked 144 = .ok (.ldc2_w 671, 3) := by decide +kernel
theorem d_M_asked_147 : decode b_M_asked 147 = .ok (.goto 6, 3) := by decide +kernel
theorem d_M_asked_150 : decode b_M_asked 150 = .ok (.ldc2_w 673, 3) := by decide +kernel
theorem d_M_asked_153 : decode b_M_asked 153 = .ok (.lcmp, 1) := by decide +kernel
theorem d_M_asked_154 : decode b_M_asked 154 = .ok (.ifCond .eq 6, 3) := by decide +kernel
theorem d_M_asked_157 : decode b_M_asked 157 = .ok (.bipush 40, 2) := by decide +kernel
theorem d_M_asked_159 : decode b_M_asked 159 = .ok (.ireturn, 1) := by decide +kernel
theorem d_M_asked_160 : decode b_M_asked 160 = .ok (.aload_n 0, 1) := by decide +kernel
theorem d_M_asked_161 : decode b_M_asked 161 = .ok (.iconst 1, 1) := by decide +kernel
theorem d_M_asked_162 : decode b_M_asked 162 = .ok (.iconst 3, 1) := by decide +kernel
theorem d_M_asked_163 : decode b_M_asked 163 = .ok (.invokevirtual 675, 3) := by decide +kernel
theorem d_M_asked_166 : decode b_M_asked 166 = .ok (.ifCond .ne 6, 3) := by decide +kernel
theorem d_M_asked_169 : decode b_M_asked 169 = .ok (.bipush 7, 2) := by decide +kernel
theorem d_M_asked_171 : decode b_M_asked 171 = .ok (.ireturn, 1) := by decide +kernel
theorem d_M_asked_172 : decode b_M_asked 172 = .ok (.aload_n 0, 1) := by decide +kernel
theorem d_M_asked_173 : decode b_M_asked 173 = .ok (.aload_n 0, 1) := by decide +kernel
theorem d_M_asked_174 : decode b_M_asked 174 = .ok (.iconst 1, 1) := by decide +kernel
theorem d_M_asked_175 : decode b_M_asked 175 = .ok (.iconst 2, 1) := by decide +kernel
theorem d_M_asked_176 : decode b_M_asked 176 = .ok (.invokevirtual 536, 3) := by decide +kernel
theorem d_M_asked_179 : decode b_M_asked 179 = .ok (.aload_n 0, 1) := by decide +kernel
theorem d_M_asked_180 : decode b_M_asked 180 = .ok (.iconst 1, 1) := by decide +kernel
theorem d_M_asked_181 : decode b_M_asked 181 = .ok (.iconst 2, 1) := by decide +kernel
theorem d_M_asked_182 : decode b_M_asked 182 = .ok (.invokevirtual 539, 3) := by decide +kernel
theorem d_M_asked_185 : decode b_M_asked 185 = .ok (.ldc_w 621, 3) := by decide +kernel
theorem d_M_asked_188 : decode b_M_asked 188 = .ok (.invokevirtual 678, 3) := by decide +kernel
theorem d_M_asked_191 : decode b_M_asked 191 = .ok (.ifCond .ne 6, 3) := by decide +kernel
theorem d_M_asked_194 : decode b_M_asked 194 = .ok (.bipush 68, 2) := by decide +kernel
theorem d_M_asked_196 : decode b_M_asked 196 = .ok (.ireturn, 1) := by decide +kernel
theorem d_M_asked_197 : decode b_M_asked 197 = .ok (.aload_n 0, 1) := by decide +kernel
theorem d_M_asked_198 : decode b_M_asked 198 = .ok (.getfield 660, 3) := by decide +kernel
theorem d_M_asked_201 : decode b_M_asked 201 = .ok (.ifCond .eq 10, 3) := by decide +kernel
theorem d_M_asked_204 : decode b_M_asked 204 = .ok (.aload_n 0, 1) := by decide +kernel
theorem d_M_asked_205 : decode b_M_asked 205 = .ok (.invokevirtual 682, 3) := by decide +kernel
theorem d_M_asked_208 : decode b_M_asked 208 = .ok (.goto 7, 3) := by decide +kernel
theorem d_M_asked_211 : decode b_M_asked 211 = .ok (.aload_n 0, 1) := by decide +kernel
theorem d_M_asked_212 : decode b_M_asked 212 = .ok (.invokevirtual 685, 3) := by decide +kernel
theorem d_M_asked_215 : decode b_M_asked 215 = .ok (.ireturn, 1) := by decide +kernel
abbrev b_M_nth : ByteArray := prog_14_method_101_code
def y_M_nth : MethodName := ⟨R_M, "nth", "(III)Z"⟩
abbrev k_M_nth : Cond := .code y_M_nth b_M_nth 7 (some .boolean)
theorem ki_M_nth : k_M_nth ∈ lw_tg := in_t 2496 (by decide +kernel)
theorem ks_M_nth : Cond.instanceMethod y_M_nth ∈ lw_tg := in_t 2495 (by decide +kernel)
theorem kx_M_nth : Cond.selects R_M y_M_nth y_M_nth ∈ lw_tg := List.mem_filter.mpr ⟨List.mem_append_left _ (List.mem_of_getElem? (i := 119) (by decide +kernel)), rfl⟩
theorem kl_M_nth : Cond.methodLink R_M 694 y_M_nth ∈ lw_tg := in_t 2493 (by decide +kernel)
theorem hd_M_nth : y_M_nth.cls = R_M ∧ y_M_nth.cls ≠ "java/lang/invoke/MethodHandle" ∧ y_M_nth.cls ≠ "java/lang/invoke/VarHandle" ∧ (parseMethodDescriptor y_M_nth.desc).map (fun d => d.parameters.length) = some 3 := by decide +kernel
theorem d_M_nth_0 : decode b_M_nth 0 = .ok (.aload_n 0, 1) := by decide +kernel
theorem d_M_nth_1 : decode b_M_nth 1 = .ok (.iload_n 1, 1) := by decide +kernel
theorem d_M_nth_2 : decode b_M_nth 2 = .ok (.iload_n 2, 1) := by decide +kernel
theorem d_M_nth_3 : decode b_M_nth 3 = .ok (.bipush 48, 2) := by decide +kernel
theorem d_M_nth_5 : decode b_M_nth 5 = .ok (.invokevirtual 476, 3) := by decide +kernel
theorem d_M_nth_8 : decode b_M_nth 8 = .ok (.pop, 1) := by decide +kernel
theorem d_M_nth_9 : decode b_M_nth 9 = .ok (.aload_n 0, 1) := by decide +kernel
theorem d_M_nth_10 : decode b_M_nth 10 = .ok (.getfield 470, 3) := by decide +kernel
theorem d_M_nth_13 : decode b_M_nth 13 = .ok (.istore 4, 2) := by decide +kernel
theorem d_M_nth_15 : decode b_M_nth 15 = .ok (.aload_n 0, 1) := by decide +kernel
theorem d_M_nth_16 : decode b_M_nth 16 = .ok (.getfield 473, 3) := by decide +kernel
theorem d_M_nth_19 : decode b_M_nth 19 = .ok (.istore 5, 2) := by decide +kernel
theorem d_M_nth_21 : decode b_M_nth 21 = .ok (.iconst 0, 1) := by decide +kernel
theorem d_M_nth_22 : decode b_M_nth 22 = .ok (.istore 6, 2) := by decide +kernel
theorem d_M_nth_24 : decode b_M_nth 24 = .ok (.iload 4, 2) := by decide +kernel
theorem d_M_nth_26 : decode b_M_nth 26 = .ok (.iload 5, 2) := by decide +kernel
theorem d_M_nth_28 : decode b_M_nth 28 = .ok (.if_icmp .ge 57, 3) := by decide +kernel
theorem d_M_nth_31 : decode b_M_nth 31 = .ok (.aload_n 0, 1) := by decide +kernel
theorem d_M_nth_32 : decode b_M_nth 32 = .ok (.iload 4, 2) := by decide +kernel
theorem d_M_nth_34 : decode b_M_nth 34 = .ok (.iload 5, 2) := by decide +kernel
theorem d_M_nth_36 : decode b_M_nth 36 = .ok (.aload_n 0, 1) := by decide +kernel
theorem d_M_nth_37 : decode b_M_nth 37 = .ok (.getfield 10, 3) := by decide +kernel
theorem d_M_nth_40 : decode b_M_nth 40 = .ok (.iload 4, 2) := by decide +kernel
theorem d_M_nth_42 : decode b_M_nth 42 = .ok (.baload, 1) := by decide +kernel
theorem d_M_nth_43 : decode b_M_nth 43 = .ok (.sipush 255, 3) := by decide +kernel
theorem d_M_nth_46 : decode b_M_nth 46 = .ok (.iand, 1) := by decide +kernel
theorem d_M_nth_47 : decode b_M_nth 47 = .ok (.invokevirtual 476, 3) := by decide +kernel
theorem d_M_nth_50 : decode b_M_nth 50 = .ok (.pop, 1) := by decide +kernel
theorem d_M_nth_51 : decode b_M_nth 51 = .ok (.iload 6, 2) := by decide +kernel
theorem d_M_nth_53 : decode b_M_nth 53 = .ok (.iload_n 3, 1) := by decide +kernel
theorem d_M_nth_54 : decode b_M_nth 54 = .ok (.if_icmp .ne 19, 3) := by decide +kernel
theorem d_M_nth_57 : decode b_M_nth 57 = .ok (.aload_n 0, 1) := by decide +kernel
theorem d_M_nth_58 : decode b_M_nth 58 = .ok (.iload 4, 2) := by decide +kernel
theorem d_M_nth_60 : decode b_M_nth 60 = .ok (.putfield 688, 3) := by decide +kernel
theorem d_M_nth_63 : decode b_M_nth 63 = .ok (.aload_n 0, 1) := by decide +kernel
theorem d_M_nth_64 : decode b_M_nth 64 = .ok (.aload_n 0, 1) := by decide +kernel
theorem d_M_nth_65 : decode b_M_nth 65 = .ok (.getfield 473, 3) := by decide +kernel
theorem d_M_nth_68 : decode b_M_nth 68 = .ok (.putfield 691, 3) := by decide +kernel
theorem d_M_nth_71 : decode b_M_nth 71 = .ok (.iconst 1, 1) := by decide +kernel
theorem d_M_nth_72 : decode b_M_nth 72 = .ok (.ireturn, 1) := by decide +kernel
theorem d_M_nth_73 : decode b_M_nth 73 = .ok (.aload_n 0, 1) := by decide +kernel
theorem d_M_nth_74 : decode b_M_nth 74 = .ok (.getfield 473, 3) := by decide +kernel
theorem d_M_nth_77 : decode b_M_nth 77 = .ok (.istore 4, 2) := by decide +kernel
theorem d_M_nth_79 : decode b_M_nth 79 = .ok (.iinc 6 1, 3) := by decide +kernel
theorem d_M_nth_82 : decode b_M_nth 82 = .ok (.goto (-58), 3) := by decide +kernel
theorem d_M_nth_85 : decode b_M_nth 85 = .ok (.iconst 0, 1) := by decide +kernel
theorem d_M_nth_86 : decode b_M_nth 86 = .ok (.ireturn, 1) := by decide +kernel
