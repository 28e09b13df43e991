abbrev b_finish : ByteArray := prog_14_method_11_code
def y_finish : MethodName := ⟨R_M, "finish", "([B)V"⟩
abbrev k_finish : Cond := .code y_finish b_finish 5 none
theorem ki_finish : k_finish ∈ lw_tg := in_t 1828 (by decide +kernel)
theorem ks_finish : Cond.instanceMethod y_finish ∈ lw_tg := in_t 1827 (by decide +kernel)
theorem kl_finish : Cond.methodLink R_M 377 y_finish ∈ lw_tg := in_t 1825 (by decide +kernel)
theorem d_finish_0 : decode b_finish 0 = .ok (.ldc2_w 368, 3) := by decide +kernel
theorem d_finish_3 : decode b_finish 3 = .ok (.aload_n 0, 1) := by decide +kernel
theorem d_finish_4 : decode b_finish 4 = .ok (.getfield 357, 3) := by decide +kernel
theorem d_finish_7 : decode b_finish 7 = .ok (.i2l, 1) := by decide +kernel
theorem d_finish_8 : decode b_finish 8 = .ok (.lmul, 1) := by decide +kernel
theorem d_finish_9 : decode b_finish 9 = .ok (.lstore_n 2, 1) := by decide +kernel
theorem d_finish_10 : decode b_finish 10 = .ok (.aload_n 0, 1) := by decide +kernel
theorem d_finish_11 : decode b_finish 11 = .ok (.sipush 128, 3) := by decide +kernel
theorem d_finish_14 : decode b_finish 14 = .ok (.invokevirtual 370, 3) := by decide +kernel
theorem d_finish_17 : decode b_finish 17 = .ok (.aload_n 0, 1) := by decide +kernel
theorem d_finish_18 : decode b_finish 18 = .ok (.getfield 357, 3) := by decide +kernel
theorem d_finish_21 : decode b_finish 21 = .ok (.bipush 64, 2) := by decide +kernel
theorem d_finish_23 : decode b_finish 23 = .ok (.irem, 1) := by decide +kernel
theorem d_finish_24 : decode b_finish 24 = .ok (.bipush 56, 2) := by decide +kernel
theorem d_finish_26 : decode b_finish 26 = .ok (.if_icmp .eq 11, 3) := by decide +kernel
theorem d_finish_29 : decode b_finish 29 = .ok (.aload_n 0, 1) := by decide +kernel
theorem d_finish_30 : decode b_finish 30 = .ok (.iconst 0, 1) := by decide +kernel
theorem d_finish_31 : decode b_finish 31 = .ok (.invokevirtual 370, 3) := by decide +kernel
theorem d_finish_34 : decode b_finish 34 = .ok (.goto (-17), 3) := by decide +kernel
theorem d_finish_37 : decode b_finish 37 = .ok (.bipush 7, 2) := by decide +kernel
theorem d_finish_39 : decode b_finish 39 = .ok (.istore 4, 2) := by decide +kernel
theorem d_finish_41 : decode b_finish 41 = .ok (.iload 4, 2) := by decide +kernel
theorem d_finish_43 : decode b_finish 43 = .ok (.ifCond .lt 21, 3) := by decide +kernel
theorem d_finish_46 : decode b_finish 46 = .ok (.aload_n 0, 1) := by decide +kernel
theorem d_finish_47 : decode b_finish 47 = .ok (.lload_n 2, 1) := by decide +kernel
theorem d_finish_48 : decode b_finish 48 = .ok (.bipush 8, 2) := by decide +kernel
theorem d_finish_50 : decode b_finish 50 = .ok (.iload 4, 2) := by decide +kernel
theorem d_finish_52 : decode b_finish 52 = .ok (.imul, 1) := by decide +kernel
theorem d_finish_53 : decode b_finish 53 = .ok (.lushr, 1) := by decide +kernel
theorem d_finish_54 : decode b_finish 54 = .ok (.l2i, 1) := by decide +kernel
theorem d_finish_55 : decode b_finish 55 = .ok (.invokevirtual 370, 3) := by decide +kernel
theorem d_finish_58 : decode b_finish 58 = .ok (.iinc 4 (-1), 3) := by decide +kernel
theorem d_finish_61 : decode b_finish 61 = .ok (.goto (-20), 3) := by decide +kernel
theorem d_finish_64 : decode b_finish 64 = .ok (.iconst 0, 1) := by decide +kernel
theorem d_finish_65 : decode b_finish 65 = .ok (.istore 4, 2) := by decide +kernel
theorem d_finish_67 : decode b_finish 67 = .ok (.iload 4, 2) := by decide +kernel
theorem d_finish_69 : decode b_finish 69 = .ok (.bipush 20, 2) := by decide +kernel
theorem d_finish_71 : decode b_finish 71 = .ok (.if_icmp .ge 34, 3) := by decide +kernel
theorem d_finish_74 : decode b_finish 74 = .ok (.aload_n 1, 1) := by decide +kernel
theorem d_finish_75 : decode b_finish 75 = .ok (.iload 4, 2) := by decide +kernel
theorem d_finish_77 : decode b_finish 77 = .ok (.aload_n 0, 1) := by decide +kernel
theorem d_finish_78 : decode b_finish 78 = .ok (.getfield 22, 3) := by decide +kernel
theorem d_finish_81 : decode b_finish 81 = .ok (.iload 4, 2) := by decide +kernel
theorem d_finish_83 : decode b_finish 83 = .ok (.iconst 4, 1) := by decide +kernel
theorem d_finish_84 : decode b_finish 84 = .ok (.idiv, 1) := by decide +kernel
theorem d_finish_85 : decode b_finish 85 = .ok (.iaload, 1) := by decide +kernel
theorem d_finish_86 : decode b_finish 86 = .ok (.bipush 24, 2) := by decide +kernel
theorem d_finish_88 : decode b_finish 88 = .ok (.bipush 8, 2) := by decide +kernel
theorem d_finish_90 : decode b_finish 90 = .ok (.iload 4, 2) := by decide +kernel
theorem d_finish_92 : decode b_finish 92 = .ok (.iconst 4, 1) := by decide +kernel
theorem d_finish_93 : decode b_finish 93 = .ok (.irem, 1) := by decide +kernel
theorem d_finish_94 : decode b_finish 94 = .ok (.imul, 1) := by decide +kernel
theorem d_finish_95 : decode b_finish 95 = .ok (.isub, 1) := by decide +kernel
theorem d_finish_96 : decode b_finish 96 = .ok (.iushr, 1) := by decide +kernel
theorem d_finish_97 : decode b_finish 97 = .ok (.i2b, 1) := by decide +kernel
theorem d_finish_98 : decode b_finish 98 = .ok (.bastore, 1) := by decide +kernel
theorem d_finish_99 : decode b_finish 99 = .ok (.iinc 4 1, 3) := by decide +kernel
theorem d_finish_102 : decode b_finish 102 = .ok (.goto (-35), 3) := by decide +kernel
theorem d_finish_105 : decode b_finish 105 = .ok (.return_, 1) := by decide +kernel
abbrev b_macKey : ByteArray := prog_14_method_12_code
def y_macKey : MethodName := ⟨R_M, "macKey", "([BI)V"⟩
abbrev k_macKey : Cond := .code y_macKey b_macKey 4 none
theorem ki_macKey : k_macKey ∈ lw_tg := in_t 1804 (by decide +kernel)
theorem ks_macKey : Cond.instanceMethod y_macKey ∈ lw_tg := in_t 1803 (by decide +kernel)
theorem kl_macKey : Cond.methodLink R_M 421 y_macKey ∈ lw_tg := in_t 1801 (by decide +kernel)
theorem d_macKey_0 : decode b_macKey 0 = .ok (.iconst 0, 1) := by decide +kernel
theorem d_macKey_1 : decode b_macKey 1 = .ok (.istore_n 3, 1) := by decide +kernel
theorem d_macKey_2 : decode b_macKey 2 = .ok (.iload_n 3, 1) := by decide +kernel
theorem d_macKey_3 : decode b_macKey 3 = .ok (.bipush 64, 2) := by decide +kernel
theorem d_macKey_5 : decode b_macKey 5 = .ok (.if_icmp .ge 33, 3) := by decide +kernel
theorem d_macKey_8 : decode b_macKey 8 = .ok (.aload_n 0, 1) := by decide +kernel
theorem d_macKey_9 : decode b_macKey 9 = .ok (.getfield 38, 3) := by decide +kernel
theorem d_macKey_12 : decode b_macKey 12 = .ok (.iload_n 3, 1) := by decide +kernel
theorem d_macKey_13 : decode b_macKey 13 = .ok (.iload_n 2, 1) := by decide +kernel
theorem d_macKey_14 : decode b_macKey 14 = .ok (.bipush 64, 2) := by decide +kernel
theorem d_macKey_16 : decode b_macKey 16 = .ok (.if_icmp .gt 14, 3) := by decide +kernel
theorem d_macKey_19 : decode b_macKey 19 = .ok (.iload_n 3, 1) := by decide +kernel
theorem d_macKey_20 : decode b_macKey 20 = .ok (.iload_n 2, 1) := by decide +kernel
theorem d_macKey_21 : decode b_macKey 21 = .ok (.if_icmp .ge 9, 3) := by decide +kernel
theorem d_macKey_24 : decode b_macKey 24 = .ok (.aload_n 1, 1) := by decide +kernel
theorem d_macKey_25 : decode b_macKey 25 = .ok (.iload_n 3, 1) := by decide +kernel
theorem d_macKey_26 : decode b_macKey 26 = .ok (.baload, 1) := by decide +kernel
theorem d_macKey_27 : decode b_macKey 27 = .ok (.goto 4, 3) := by decide +kernel
theorem d_macKey_30 : decode b_macKey 30 = .ok (.iconst 0, 1) := by decide +kernel
theorem d_macKey_31 : decode b_macKey 31 = .ok (.bastore, 1) := by decide +kernel
theorem d_macKey_32 : decode b_macKey 32 = .ok (.iinc 3 1, 3) := by decide +kernel
theorem d_macKey_35 : decode b_macKey 35 = .ok (.goto (-33), 3) := by decide +kernel
theorem d_macKey_38 : decode b_macKey 38 = .ok (.iload_n 2, 1) := by decide +kernel
theorem d_macKey_39 : decode b_macKey 39 = .ok (.bipush 64, 2) := by decide +kernel
theorem d_macKey_41 : decode b_macKey 41 = .ok (.if_icmp .gt 4, 3) := by decide +kernel
theorem d_macKey_44 : decode b_macKey 44 = .ok (.return_, 1) := by decide +kernel
theorem d_macKey_45 : decode b_macKey 45 = .ok (.aload_n 0, 1) := by decide +kernel
theorem d_macKey_46 : decode b_macKey 46 = .ok (.invokevirtual 374, 3) := by decide +kernel
theorem d_macKey_49 : decode b_macKey 49 = .ok (.iconst 0, 1) := by decide +kernel
theorem d_macKey_50 : decode b_macKey 50 = .ok (.istore_n 3, 1) := by decide +kernel
theorem d_macKey_51 : decode b_macKey 51 = .ok (.iload_n 3, 1) := by decide +kernel
theorem d_macKey_52 : decode b_macKey 52 = .ok (.iload_n 2, 1) := by decide +kernel
theorem d_macKey_53 : decode b_macKey 53 = .ok (.if_icmp .ge 16, 3) := by decide +kernel
theorem d_macKey_56 : decode b_macKey 56 = .ok (.aload_n 0, 1) := by decide +kernel
theorem d_macKey_57 : decode b_macKey 57 = .ok (.aload_n 1, 1) := by decide +kernel
theorem d_macKey_58 : decode b_macKey 58 = .ok (.iload_n 3, 1) := by decide +kernel
theorem d_macKey_59 : decode b_macKey 59 = .ok (.baload, 1) := by decide +kernel
theorem d_macKey_60 : decode b_macKey 60 = .ok (.invokevirtual 370, 3) := by decide +kernel
theorem d_macKey_63 : decode b_macKey 63 = .ok (.iinc 3 1, 3) := by decide +kernel
theorem d_macKey_66 : decode b_macKey 66 = .ok (.goto (-15), 3) := by decide +kernel
theorem d_macKey_69 : decode b_macKey 69 = .ok (.aload_n 0, 1) := by decide +kernel
theorem d_macKey_70 : decode b_macKey 70 = .ok (.aload_n 0, 1) := by decide +kernel
theorem d_macKey_71 : decode b_macKey 71 = .ok (.getfield 32, 3) := by decide +kernel
theorem d_macKey_74 : decode b_macKey 74 = .ok (.invokevirtual 377, 3) := by decide +kernel
theorem d_macKey_77 : decode b_macKey 77 = .ok (.iconst 0, 1) := by decide +kernel
theorem d_macKey_78 : decode b_macKey 78 = .ok (.istore_n 3, 1) := by decide +kernel
theorem d_macKey_79 : decode b_macKey 79 = .ok (.iload_n 3, 1) := by decide +kernel
theorem d_macKey_80 : decode b_macKey 80 = .ok (.bipush 20, 2) := by decide +kernel
theorem d_macKey_82 : decode b_macKey 82 = .ok (.if_icmp .ge 21, 3) := by decide +kernel
theorem d_macKey_85 : decode b_macKey 85 = .ok (.aload_n 0, 1) := by decide +kernel
theorem d_macKey_86 : decode b_macKey 86 = .ok (.getfield 38, 3) := by decide +kernel
theorem d_macKey_89 : decode b_macKey 89 = .ok (.iload_n 3, 1) := by decide +kernel
theorem d_macKey_90 : decode b_macKey 90 = .ok (.aload_n 0, 1) := by decide +kernel
theorem d_macKey_91 : decode b_macKey 91 = .ok (.getfield 32, 3) := by decide +kernel
theorem d_macKey_94 : decode b_macKey 94 = .ok (.iload_n 3, 1) := by decide +kernel
theorem d_macKey_95 : decode b_macKey 95 = .ok (.baload, 1) := by decide +kernel
theorem d_macKey_96 : decode b_macKey 96 = .ok (.bastore, 1) := by decide +kernel
theorem d_macKey_97 : decode b_macKey 97 = .ok (.iinc 3 1, 3) := by decide +kernel
theorem d_macKey_100 : decode b_macKey 100 = .ok (.goto (-21), 3) := by decide +kernel
theorem d_macKey_103 : decode b_macKey 103 = .ok (.return_, 1) := by decide +kernel
abbrev b_macBegin : ByteArray := prog_14_method_13_code
def y_macBegin : MethodName := ⟨R_M, "macBegin", "()V"⟩
abbrev k_macBegin : Cond := .code y_macBegin b_macBegin 2 none
theorem ki_macBegin : k_macBegin ∈ lw_tg := in_t 1833 (by decide +kernel)
theorem ks_macBegin : Cond.instanceMethod y_macBegin ∈ lw_tg := in_t 1832 (by decide +kernel)
theorem kl_macBegin : Cond.methodLink R_M 423 y_macBegin ∈ lw_tg := in_t 1830 (by decide +kernel)
theorem d_macBegin_0 : decode b_macBegin 0 = .ok (.aload_n 0, 1) := by decide +kernel
theorem d_macBegin_1 : decode b_macBegin 1 = .ok (.invokevirtual 374, 3) := by decide +kernel
theorem d_macBegin_4 : decode b_macBegin 4 = .ok (.iconst 0, 1) := by decide +kernel
theorem d_macBegin_5 : decode b_macBegin 5 = .ok (.istore_n 1, 1) := by decide +kernel
theorem d_macBegin_6 : decode b_macBegin 6 = .ok (.iload_n 1, 1) := by decide +kernel
theorem d_macBegin_7 : decode b_macBegin 7 = .ok (.bipush 64, 2) := by decide +kernel
theorem d_macBegin_9 : decode b_macBegin 9 = .ok (.if_icmp .ge 22, 3) := by decide +kernel
theorem d_macBegin_12 : decode b_macBegin 12 = .ok (.aload_n 0, 1) := by decide +kernel
theorem d_macBegin_13 : decode b_macBegin 13 = .ok (.aload_n 0, 1) := by decide +kernel
theorem d_macBegin_14 : decode b_macBegin 14 = .ok (.getfield 38, 3) := by decide +kernel
theorem d_macBegin_17 : decode b_macBegin 17 = .ok (.iload_n 1, 1) := by decide +kernel
theorem d_macBegin_18 : decode b_macBegin 18 = .ok (.baload, 1) := by decide +kernel
theorem d_macBegin_19 : decode b_macBegin 19 = .ok (.bipush 54, 2) := by decide +kernel
theorem d_macBegin_21 : decode b_macBegin 21 = .ok (.ixor, 1) := by decide +kernel
theorem d_macBegin_22 : decode b_macBegin 22 = .ok (.invokevirtual 370, 3) := by decide +kernel
theorem d_macBegin_25 : decode b_macBegin 25 = .ok (.iinc 1 1, 3) := by decide +kernel
theorem d_macBegin_28 : decode b_macBegin 28 = .ok (.goto (-22), 3) := by decide +kernel
theorem d_macBegin_31 : decode b_macBegin 31 = .ok (.return_, 1) := by decide +kernel
abbrev b_macEnd : ByteArray := prog_14_method_14_code
def y_macEnd : MethodName := ⟨R_M, "macEnd", "()V"⟩
abbrev k_macEnd : Cond := .code y_macEnd b_macEnd 2 none
theorem ki_macEnd : k_macEnd ∈ lw_tg := in_t 1837 (by decide +kernel)
theorem ks_macEnd : Cond.instanceMethod y_macEnd ∈ lw_tg := in_t 1836 (by decide +kernel)
theorem kl_macEnd : Cond.methodLink R_M 429 y_macEnd ∈ lw_tg := in_t 1834 (by decide +kernel)
theorem d_macEnd_0 : decode b_macEnd 0 = .ok (.aload_n 0, 1) := by decide +kernel
theorem d_macEnd_1 : decode b_macEnd 1 = .ok (.aload_n 0, 1) := by decide +kernel
theorem d_macEnd_2 : decode b_macEnd 2 = .ok (.getfield 32, 3) := by decide +kernel
theorem d_macEnd_5 : decode b_macEnd 5 = .ok (.invokevirtual 377, 3) := by decide +kernel
theorem d_macEnd_8 : decode b_macEnd 8 = .ok (.aload_n 0, 1) := by decide +kernel
theorem d_macEnd_9 : decode b_macEnd 9 = .ok (.invokevirtual 374, 3) := by decide +kernel
theorem d_macEnd_12 : decode b_macEnd 12 = .ok (.iconst 0, 1) := by decide +kernel
theorem d_macEnd_13 : decode b_macEnd 13 = .ok (.istore_n 1, 1) := by decide +kernel
theorem d_macEnd_14 : decode b_macEnd 14 = .ok (.iload_n 1, 1) := by decide +kernel
theorem d_macEnd_15 : decode b_macEnd 15 = .ok (.bipush 64, 2) := by decide +kernel
theorem d_macEnd_17 : decode b_macEnd 17 = .ok (.if_icmp .ge 22, 3) := by decide +kernel
theorem d_macEnd_20 : decode b_macEnd 20 = .ok (.aload_n 0, 1) := by decide +kernel
theorem d_macEnd_21 : decode b_macEnd 21 = .ok (.aload_n 0, 1) := by decide +kernel
theorem d_macEnd_22 : decode b_macEnd 22 = .ok (.getfield 38, 3) := by decide +kernel
theorem d_macEnd_25 : decode b_macEnd 25 = .ok (.iload_n 1, 1) := by decide +kernel
theorem d_macEnd_26 : decode b_macEnd 26 = .ok (.baload, 1) := by decide +kernel
theorem d_macEnd_27 : decode b_macEnd 27 = .ok (.bipush 92, 2) := by decide +kernel
theorem d_macEnd_29 : decode b_macEnd 29 = .ok (.ixor, 1) := by decide +kernel
theorem d_macEnd_30 : decode b_macEnd 30 = .ok (.invokevirtual 370, 3) := by decide +kernel
theorem d_macEnd_33 : decode b_macEnd 33 = .ok (.iinc 1 1, 3) := by decide +kernel
theorem d_macEnd_36 : decode b_macEnd 36 = .ok (.goto (-22), 3) := by decide +kernel
theorem d_macEnd_39 : decode b_macEnd 39 = .ok (.iconst 0, 1) := by decide +kernel
theorem d_macEnd_40 : decode b_macEnd 40 = .ok (.istore_n 1, 1) := by decide +kernel
theorem d_macEnd_41 : decode b_macEnd 41 = .ok (.iload_n 1, 1) := by decide +kernel
theorem d_macEnd_42 : decode b_macEnd 42 = .ok (.bipush 20, 2) := by decide +kernel
theorem d_macEnd_44 : decode b_macEnd 44 = .ok (.if_icmp .ge 19, 3) := by decide +kernel
theorem d_macEnd_47 : decode b_macEnd 47 = .ok (.aload_n 0, 1) := by decide +kernel
theorem d_macEnd_48 : decode b_macEnd 48 = .ok (.aload_n 0, 1) := by decide +kernel
theorem d_macEnd_49 : decode b_macEnd 49 = .ok (.getfield 32, 3) := by decide +kernel
theorem d_macEnd_52 : decode b_macEnd 52 = .ok (.iload_n 1, 1) := by decide +kernel
theorem d_macEnd_53 : decode b_macEnd 53 = .ok (.baload, 1) := by decide +kernel
theorem d_macEnd_54 : decode b_macEnd 54 = .ok (.invokevirtual 370, 3) := by decide +kernel
theorem d_macEnd_57 : decode b_macEnd 57 = .ok (.iinc 1 1, 3) := by decide +kernel
theorem d_macEnd_60 : decode b_macEnd 60 = .ok (.goto (-19), 3) := by decide +kernel
theorem d_macEnd_63 : decode b_macEnd 63 = .ok (.aload_n 0, 1) := by decide +kernel
theorem d_macEnd_64 : decode b_macEnd 64 = .ok (.aload_n 0, 1) := by decide +kernel
theorem d_macEnd_65 : decode b_macEnd 65 = .ok (.getfield 35, 3) := by decide +kernel
theorem d_macEnd_68 : decode b_macEnd 68 = .ok (.invokevirtual 377, 3) := by decide +kernel
theorem d_macEnd_71 : decode b_macEnd 71 = .ok (.return_, 1) := by decide +kernel
theorem cl_368 : Cond.constantLong R_M 368 (8) ∈ lw_tg := in_t 1829 (by decide +kernel)
theorem kx_finish : Cond.selects R_M y_finish y_finish ∈ lw_tg := List.mem_filter.mpr ⟨List.mem_append_left _ (List.mem_of_getElem? (i := 83) (by decide +kernel)), rfl⟩
theorem hd_finish : y_finish.cls = R_M ∧ y_finish.cls ≠ "java/lang/invoke/MethodHandle" ∧ y_finish.cls ≠ "java/lang/invoke/VarHandle" ∧ (parseMethodDescriptor y_finish.desc).map (fun d => d.parameters.length) = some 1 := by decide +kernel
theorem kx_macKey : Cond.selects R_M y_macKey y_macKey ∈ lw_tg := List.mem_filter.mpr ⟨List.mem_append_left _ (List.mem_of_getElem? (i := 80) (by decide +kernel)), rfl⟩
theorem hd_macKey : y_macKey.cls = R_M ∧ y_macKey.cls ≠ "java/lang/invoke/MethodHandle" ∧ y_macKey.cls ≠ "java/lang/invoke/VarHandle" ∧ (parseMethodDescriptor y_macKey.desc).map (fun d => d.parameters.length) = some 2 := by decide +kernel
theorem kx_macBegin : Cond.selects R_M y_macBegin y_macBegin ∈ lw_tg := List.mem_filter.mpr ⟨List.mem_append_left _ (List.mem_of_getElem? (i := 84) (by decide +kernel)), rfl⟩
theorem hd_macBegin : y_macBegin.cls = R_M ∧ y_macBegin.cls ≠ "java/lang/invoke/MethodHandle" ∧ y_macBegin.cls ≠ "java/lang/invoke/VarHandle" ∧ (parseMethodDescriptor y_macBegin.desc).map (fun d => d.parameters.length) = some 0 := by decide +kernel
theorem kx_macEnd : Cond.selects R_M y_macEnd y_macEnd ∈ lw_tg := List.mem_filter.mpr ⟨List.mem_append_left _ (List.mem_of_getElem? (i := 85) (by decide +kernel)), rfl⟩
theorem hd_macEnd : y_macEnd.cls = R_M ∧ y_macEnd.cls ≠ "java/lang/invoke/MethodHandle" ∧ y_macEnd.cls ≠ "java/lang/invoke/VarHandle" ∧ (parseMethodDescriptor y_macEnd.desc).map (fun d => d.parameters.length) = some 0 := by decide +kernel
set_option maxHeartbeats 4000000 in
set_option maxRecDepth 100000 in
theorem c_finish_inner (l : Launch) (D : mD) (E : mE) (h : Nat) (q : Nat → Nat) (sz : Nat) (I : Nat → Int32) (J : Nat → Int64) (B : Nat → Nat → Int32) (G : Nat → Nat → Int64) (k : Nat) (hk : I 8 = nI k) (hk2 : k < 100000000) : Met l y_finish (k_finish :: lw_tg) (mR 2 51) (va_Pc [.ref h, .ref (q 9)] (mPre D E h q (I, J, B, G) sz)) (va_Qv (fun (u : mS) => (∀ j, j ≠ 8 → u.1 j = I j) ∧ u.2.1 = J ∧ (∀ j, j ≠ 5 → j ≠ 6 → j ≠ 7 → j ≠ 9 → u.2.2.1 j = B j) ∧ u.2.2.2 = G) (mPost D E h q (mA E h q sz)) (mA E h q sz)) 0 0 (mA E h q sz) := by
  refine m_enter (by decide) rfl (Nat.le_of_ble_eq_true rfl) (fun p e s m below meth c ls AV QQ H locs hQQ X Y hZ hA hr hlk hml hl => ?_)
  have Y : mH D E (mA E h q sz) s.heap h q I J B G H locs := Y
  have hl : lv_has ls 5 [(0, .ref h), (1, .ref (q 9))] := hl
  refine lv_ldc2 (v := (8)) X.1 X.2.1 X.2.2.2.1 (X.2.2.1 _ cl_368) d_finish_0 ?_
  refine lv_aload_n X.1 X.2.1 d_finish_3 rfl (lv_at hl 0 rfl) ?_
  refine m_get X Y 8 (by decide) lk_hashed (gf_hashed _ _ _) rfl d_finish_4 ?_
  refine t_eq (show I 8 = nI (k) from hk) ?_
  obtain ⟨v1, ev1⟩ : ∃ z : Int64, ((nI (k)) : Int32).toInt64 = z := ⟨_, rfl⟩
  refine lv_i2l (v := v1) X.1 X.2.1 d_finish_7 ev1 ?_
  refine lv_lmul X.1 X.2.1 d_finish_8 ?_
  refine t_anyl (fun v2 => ?_)
  refine lv_lstore_n (lv' := [(2, .long v2), (0, .ref h), (1, .ref (q 9))]) X.1 X.2.1 d_finish_9 rfl hl (by decide) rfl (fun ls hl => ?_)
  refine lv_aload_n X.1 X.2.1 d_finish_10 rfl (lv_at hl 1 rfl) ?_
  refine lv_sipush (v := (nI 128)) X.1 X.2.1 d_finish_11 (by decide) ?_
  refine m_callv (As := [.int (nI 128)]) (rest := []) (n := 1) X Y hZ hA hml hl.1 (c_hash l D E h q H.size I J B G (nI 128) (k) hk (by omega)) kl_hash ks_hash kx_hash ki_hash ini_M hd_hash ⟨by decide, by decide⟩ rfl (Nat.le_of_ble_eq_true rfl) d_finish_14 ⟨Nat.le_refl _, Nat.le_refl _⟩ (fun u H locs hp Y => ?_)
  obtain ⟨I3, J4, B5, G6⟩ := u
  obtain ⟨hI7, eJ9, hB8, eG10, hk12⟩ := hp
  dsimp only at hI7 eJ9 hB8 eG10 hk12 Y
  rw [eJ9, eG10] at Y
  have hI13 : (∀ j, j ≠ 8 → I3 j = I j) := fun j h8 => (hI7 j h8).trans ((fun j h8 => rfl) j h8)
  have hB14 : (∀ j, j ≠ 5 → j ≠ 6 → j ≠ 7 → j ≠ 9 → B5 j = B j) := fun j h5 h6 h7 h9 => (hB8 j h5 h6 h7).trans ((fun j h5 h6 h7 h9 => rfl) j h5 h6 h7 h9)
  obtain ⟨n17, hn17, hn17b⟩ : ∃ n, n < 64 ∧ ((k) + 1 + n) % 64 = 56 := ⟨(56 + 64 - ((k) + 1) % 64) % 64, by omega, by omega⟩
  have lp17 : ∀ (n15 : Nat) (I18 : Nat → Int32) (B19 : Nat → Nat → Int32) (H : Heap) (locs : List Loc) (ls : Array Slot), (∀ j, j ≠ 5 → j ≠ 6 → j ≠ 7 → j ≠ 9 → B19 j = B j) → (∀ j, j ≠ 8 → I18 j = I j) → I18 8 = nI (((k) + 1 + n17 - n15)) → (n15 ≤ n17) → mH D E (mA E h q sz) s.heap h q I18 J B19 G H locs → lv_has ls 5 [(2, .long v2), (0, .ref h), (1, .ref (q 9))] → W p l e (mR 2 51) s m AV below meth c H locs 0 0 QQ (F0 m 17 ls []) := by
    intro n15
    induction n15 with
    | zero =>
      intro I18 B19 H locs ls hB20 hI21 hk22 hle Y hl
      refine lv_aload_n X.1 X.2.1 d_finish_17 rfl (lv_at hl 1 rfl) ?_
      refine m_get X Y 8 (by decide) lk_hashed (gf_hashed _ _ _) rfl d_finish_18 ?_
      refine t_eq (show I18 8 = nI (((k) + 1 + n17 - 0)) from hk22) ?_
      refine lv_bipush (v := (nI 64)) X.1 X.2.1 d_finish_21 (by decide) ?_
      refine lv_irem X.1 X.2.1 d_finish_23 (nI_ne0 (by omega) (by omega)) ?_
      refine t_eq (y := nI ((((k) + 1 + n17 - 0)) % (64))) (pk_rem (by omega) (by omega) (by omega)) ?_
      refine lv_bipush (v := (nI 56)) X.1 X.2.1 d_finish_24 (by decide) ?_
      refine lv_icmp_eq (tgt := 37) X.1 X.2.1 d_finish_26 (by decide) (fun c23 => ?_) (fun c23 => absurd ?_ c23)
      rotate_left
      · (rw [nI_eq (by omega) (by omega)] <;> omega)
      rw [nI_eq (by omega) (by omega)] at c23
      refine lv_bipush (v := (nI 7)) X.1 X.2.1 d_finish_37 (by decide) ?_
      refine lv_istore (lv' := [(4, .int (nI 7)), (2, .long v2), (0, .ref h), (1, .ref (q 9))]) X.1 X.2.1 d_finish_39 hl (by decide) rfl (fun ls hl => ?_)
      rw [show (nI 7) = nI 8 + (-1) from rfl] at hl
      have lp26 : ∀ (n24 : Nat) (I27 : Nat → Int32) (B28 : Nat → Nat → Int32) (H : Heap) (locs : List Loc) (ls : Array Slot), (∀ j, j ≠ 5 → j ≠ 6 → j ≠ 7 → j ≠ 9 → B28 j = B j) → (∀ j, j ≠ 8 → I27 j = I j) → I27 8 = nI ((((k) + 1 + n17 - 0) + 8 - n24)) → (n24 ≤ 8) → mH D E (mA E h q sz) s.heap h q I27 J B28 G H locs → lv_has ls 5 [(4, .int (nI n24 + (-1))), (2, .long v2), (0, .ref h), (1, .ref (q 9))] → W p l e (mR 2 51) s m AV below meth c H locs 0 0 QQ (F0 m 41 ls []) := by
        intro n24
        induction n24 with
        | zero =>
          intro I27 B28 H locs ls hB29 hI30 hk31 hle Y hl
          refine lv_iload X.1 X.2.1 d_finish_41 (lv_at hl 0 rfl) ?_
          refine lv_if_lt (tgt := 64) X.1 X.2.1 d_finish_43 (by decide) (fun c32 => ?_) (fun c32 => absurd ?_ c32)
          rotate_left
          · decide
          refine lv_iconst (v := (nI 0)) X.1 X.2.1 d_finish_64 (by decide) ?_
          refine lv_istore (lv' := [(4, .int (nI 0)), (2, .long v2), (0, .ref h), (1, .ref (q 9))]) X.1 X.2.1 d_finish_65 hl (by decide) rfl (fun ls hl => ?_)
          have lp36 : ∀ (n33 i34 : Nat) (B37 : Nat → Nat → Int32) (H : Heap) (locs : List Loc) (ls : Array Slot), i34 + n33 = 20 → 0 ≤ i34 → (∀ j, j ≠ 5 → j ≠ 6 → j ≠ 7 → j ≠ 9 → B37 j = B j) → mH D E (mA E h q sz) s.heap h q I27 J B37 G H locs → lv_has ls 5 [(4, .int (nI i34)), (2, .long v2), (0, .ref h), (1, .ref (q 9))] → W p l e (mR 2 51) s m AV below meth c H locs 0 0 QQ (F0 m 67 ls []) := by
            intro n33
            induction n33 with
            | zero =>
              intro i34 B37 H locs ls hii34 hsi34 hB38  Y hl
              refine lv_iload X.1 X.2.1 d_finish_67 (lv_at hl 0 rfl) ?_
              refine lv_bipush (v := (nI 20)) X.1 X.2.1 d_finish_69 (by decide) ?_
              refine lv_icmp_ge (tgt := 105) X.1 X.2.1 d_finish_71 (by decide) (fun c39 => ?_) (fun c39 => absurd ?_ c39)
              rotate_left
              · (rw [nI_leI (by omega) (by omega)] <;> omega)
              rw [nI_leI (by omega) (by omega)] at c39
              exact m_retv hQQ X Y hr hlk ⟨(fun j h8 => (hI30 j h8)), rfl, (fun j h5 h6 h7 h9 => (hB38 j h5 h6 h7 h9)), rfl⟩ d_finish_105
            | succ n33 ih35 =>
              intro i34 B37 H locs ls hii34 hsi34 hB38  Y hl
              refine lv_iload X.1 X.2.1 d_finish_67 (lv_at hl 0 rfl) ?_
              refine lv_bipush (v := (nI 20)) X.1 X.2.1 d_finish_69 (by decide) ?_
              refine lv_icmp_ge (tgt := 105) X.1 X.2.1 d_finish_71 (by decide) (fun c40 => absurd c40 ?_) (fun c40 => ?_)
              · (rw [nI_leI (by omega) (by omega)] <;> omega)
              rw [nI_leI (by omega) (by omega)] at c40
              refine lv_aload_n X.1 X.2.1 d_finish_74 rfl (lv_at hl 3 rfl) ?_
              refine lv_iload X.1 X.2.1 d_finish_75 (lv_at hl 0 rfl) ?_
              refine lv_aload_n X.1 X.2.1 d_finish_77 rfl (lv_at hl 2 rfl) ?_
              refine m_get X Y 5 (by decide) lk_h (gf_h _ _ _) rfl d_finish_78 ?_
              refine lv_iload X.1 X.2.1 d_finish_81 (lv_at hl 0 rfl) ?_
              refine lv_iconst (v := (nI 4)) X.1 X.2.1 d_finish_83 (by decide) ?_
              refine lv_idiv X.1 X.2.1 d_finish_84 (nI_ne0 (by omega) (by omega)) ?_
              refine t_eq (y := nI ((i34) / (4))) (pk_div (by omega) (by omega) (by omega)) ?_
              refine m_iald X Y (aw_h _ _ _ _ _ _ _) (vp_in_nI (by omega) (by decide)) d_finish_85 ?_
              refine t_any (fun v41 => ?_)
              refine lv_bipush (v := (nI 24)) X.1 X.2.1 d_finish_86 (by decide) ?_
              refine lv_bipush (v := (nI 8)) X.1 X.2.1 d_finish_88 (by decide) ?_
              refine lv_iload X.1 X.2.1 d_finish_90 (lv_at hl 0 rfl) ?_
              refine lv_iconst (v := (nI 4)) X.1 X.2.1 d_finish_92 (by decide) ?_
              refine lv_irem X.1 X.2.1 d_finish_93 (nI_ne0 (by omega) (by omega)) ?_
              refine t_eq (y := nI ((i34) % (4))) (pk_rem (by omega) (by omega) (by omega)) ?_
              refine lv_imul X.1 X.2.1 d_finish_94 ?_
              refine t_eq (y := nI ((8) * ((i34) % (4)))) (pk_mul _ _) ?_
              refine lv_isub X.1 X.2.1 d_finish_95 ?_
              refine t_eq (y := nI (24 - ((8) * ((i34) % (4))))) (pk_sub (by omega)) ?_
              obtain ⟨v42, ev42⟩ : ∃ z : Int32, ((v41 : Int32).toUInt32 >>> (((nI (24 - ((8) * ((i34) % (4))))) : Int32).toUInt32 &&& Int32.toUInt32 31)).toInt32 = z := ⟨_, rfl⟩
              refine lv_iushr (v := v42) X.1 X.2.1 d_finish_96 ev42 ?_
              obtain ⟨v43, ev43⟩ : ∃ z : Int32, (v42 : Int32).toInt8.toInt32 = z := ⟨_, rfl⟩
              refine lv_i2b (v := v43) X.1 X.2.1 d_finish_97 ev43 ?_
              refine m_bast X Y (aw_inner _ _ _ _ _ _ _) (vp_in_nI (by omega) (by decide)) (sw_inner _ _ _ _ _ _ _ _) d_finish_98 (fun H locs Y => ?_)
              generalize (upd (B37 9) ((nI i34)).toNatClampNeg (vp_nar .byte v43)) = f44 at Y
              refine lv_iinc (v := (nI (i34 + 1))) (lv' := [(4, .int (nI (i34 + 1))), (2, .long v2), (0, .ref h), (1, .ref (q 9))]) X.1 X.2.1 d_finish_99 hl (k := 0) rfl (nI_add _ 1) (by decide) rfl (fun ls hl => ?_)
              refine lv_goto (tgt := 67) X.1 X.2.1 d_finish_102 (by decide) ?_
              exact ih35 (i34 + 1) (upB B37 9 f44) _ _ _ (by omega) (by omega) (fun j h5 h6 h7 h9 => ((if_neg h9).trans (hB38 j h5 h6 h7 h9)))  Y (lv_sub hl [0, 1, 2, 3] rfl)
          exact lp36 (20) 0 B28 _ _ _ (by omega) (by omega) (fun j h5 h6 h7 h9 => (hB29 j h5 h6 h7 h9))  Y (lv_sub hl [0, 1, 2, 3] rfl)
        | succ n24 ih25 =>
          intro I27 B28 H locs ls hB29 hI30 hk31 hle Y hl
          rw [show nI (n24 + 1) + (-1) = nI n24 from pk_m1 n24] at hl
          refine lv_iload X.1 X.2.1 d_finish_41 (lv_at hl 0 rfl) ?_
          refine lv_if_lt (tgt := 64) X.1 X.2.1 d_finish_43 (by decide) (fun c45 => absurd c45 ?_) (fun c45 => ?_)
          · (exact nI_pos (by omega))
          rw [← nI_0] at c45
          rw [nI_ltI (by omega) (by omega)] at c45
          refine lv_aload_n X.1 X.2.1 d_finish_46 rfl (lv_at hl 2 rfl) ?_
          refine lv_lload_n X.1 X.2.1 d_finish_47 rfl (lv_at hl 1 rfl) ?_
          refine lv_bipush (v := (nI 8)) X.1 X.2.1 d_finish_48 (by decide) ?_
          refine lv_iload X.1 X.2.1 d_finish_50 (lv_at hl 0 rfl) ?_
          refine lv_imul X.1 X.2.1 d_finish_52 ?_
          refine t_eq (y := nI ((8) * (n24))) (pk_mul _ _) ?_
          obtain ⟨v46, ev46⟩ : ∃ z : Int64, ((v2 : Int64).toUInt64 >>> (((nI ((8) * (n24))) : Int32).toInt64.toUInt64 &&& Int64.toUInt64 63)).toInt64 = z := ⟨_, rfl⟩
          refine lv_lushr (v := v46) X.1 X.2.1 d_finish_53 ev46 ?_
          obtain ⟨v47, ev47⟩ : ∃ z : Int32, (v46 : Int64).toInt32 = z := ⟨_, rfl⟩
          refine lv_l2i (v := v47) X.1 X.2.1 d_finish_54 ev47 ?_
          refine m_callv (As := [.int v47]) (rest := []) (n := 1) X Y hZ hA hml hl.1 (c_hash l D E h q H.size I27 J B28 G v47 ((((k) + 1 + n17 - 0) + 8 - (n24 + 1))) hk31 (by omega)) kl_hash ks_hash kx_hash ki_hash ini_M hd_hash ⟨by decide, by decide⟩ rfl (Nat.le_of_ble_eq_true rfl) d_finish_55 ⟨Nat.le_refl _, Nat.le_refl _⟩ (fun u H locs hp Y => ?_)
          obtain ⟨I48, J49, B50, G51⟩ := u
          obtain ⟨hI52, eJ54, hB53, eG55, hk57⟩ := hp
          dsimp only at hI52 eJ54 hB53 eG55 hk57 Y
          rw [eJ54, eG55] at Y
          have hI58 : (∀ j, j ≠ 8 → I48 j = I j) := fun j h8 => (hI52 j h8).trans ((fun j h8 => (hI30 j h8)) j h8)
          have hB59 : (∀ j, j ≠ 5 → j ≠ 6 → j ≠ 7 → j ≠ 9 → B50 j = B j) := fun j h5 h6 h7 h9 => (hB53 j h5 h6 h7).trans ((fun j h5 h6 h7 h9 => (hB29 j h5 h6 h7 h9)) j h5 h6 h7 h9)
          refine lv_iinc (v := (nI n24 + (-1))) (lv' := [(4, .int (nI n24 + (-1))), (2, .long v2), (0, .ref h), (1, .ref (q 9))]) X.1 X.2.1 d_finish_58 hl (k := 0) rfl (congrArg (fun z => nI n24 + z) (by decide)) (by decide) rfl (fun ls hl => ?_)
          refine lv_goto (tgt := 41) X.1 X.2.1 d_finish_61 (by decide) ?_
          exact ih25 _ _ _ _ _ (fun j h5 h6 h7 h9 => (hB59 j h5 h6 h7 h9)) (fun j h8 => (hI58 j h8)) ((show I48 8 = nI (((((k) + 1 + n17 - 0) + 8 - (n24 + 1))) + 1) from hk57).trans (congrArg nI (show (((((k) + 1 + n17 - 0) + 8 - (n24 + 1))) + 1 : Nat) = (((k) + 1 + n17 - 0) + 8 - n24) by omega))) (by omega) Y (lv_sub hl [0, 1, 2, 3] rfl)
      exact lp26 (8) _ _ _ _ _ (fun j h5 h6 h7 h9 => (hB20 j h5 h6 h7 h9)) (fun j h8 => (hI21 j h8)) ((show I18 8 = nI (((k) + 1 + n17 - 0)) from hk22).trans (congrArg nI (show (((k) + 1 + n17 - 0) : Nat) = (((k) + 1 + n17 - 0) + 8 - (8)) by omega))) (by omega) Y (lv_sub hl [0, 1, 2, 3] rfl)
    | succ n15 ih16 =>
      intro I18 B19 H locs ls hB20 hI21 hk22 hle Y hl
      refine lv_aload_n X.1 X.2.1 d_finish_17 rfl (lv_at hl 1 rfl) ?_
      refine m_get X Y 8 (by decide) lk_hashed (gf_hashed _ _ _) rfl d_finish_18 ?_
      refine t_eq (show I18 8 = nI (((k) + 1 + n17 - (n15 + 1))) from hk22) ?_
      refine lv_bipush (v := (nI 64)) X.1 X.2.1 d_finish_21 (by decide) ?_
      refine lv_irem X.1 X.2.1 d_finish_23 (nI_ne0 (by omega) (by omega)) ?_
      refine t_eq (y := nI ((((k) + 1 + n17 - (n15 + 1))) % (64))) (pk_rem (by omega) (by omega) (by omega)) ?_
      refine lv_bipush (v := (nI 56)) X.1 X.2.1 d_finish_24 (by decide) ?_
      refine lv_icmp_eq (tgt := 37) X.1 X.2.1 d_finish_26 (by decide) (fun c60 => absurd c60 ?_) (fun c60 => ?_)
      · (rw [nI_eq (by omega) (by omega)] <;> omega)
      rw [nI_eq (by omega) (by omega)] at c60
      refine lv_aload_n X.1 X.2.1 d_finish_29 rfl (lv_at hl 1 rfl) ?_
      refine lv_iconst (v := (nI 0)) X.1 X.2.1 d_finish_30 (by decide) ?_
      refine m_callv (As := [.int (nI 0)]) (rest := []) (n := 1) X Y hZ hA hml hl.1 (c_hash l D E h q H.size I18 J B19 G (nI 0) (((k) + 1 + n17 - (n15 + 1))) hk22 (by omega)) kl_hash ks_hash kx_hash ki_hash ini_M hd_hash ⟨by decide, by decide⟩ rfl (Nat.le_of_ble_eq_true rfl) d_finish_31 ⟨Nat.le_refl _, Nat.le_refl _⟩ (fun u H locs hp Y => ?_)
      obtain ⟨I61, J62, B63, G64⟩ := u
      obtain ⟨hI65, eJ67, hB66, eG68, hk70⟩ := hp
      dsimp only at hI65 eJ67 hB66 eG68 hk70 Y
      rw [eJ67, eG68] at Y
      have hI71 : (∀ j, j ≠ 8 → I61 j = I j) := fun j h8 => (hI65 j h8).trans ((fun j h8 => (hI21 j h8)) j h8)
      have hB72 : (∀ j, j ≠ 5 → j ≠ 6 → j ≠ 7 → j ≠ 9 → B63 j = B j) := fun j h5 h6 h7 h9 => (hB66 j h5 h6 h7).trans ((fun j h5 h6 h7 h9 => (hB20 j h5 h6 h7 h9)) j h5 h6 h7 h9)
      refine lv_goto (tgt := 17) X.1 X.2.1 d_finish_34 (by decide) ?_
      exact ih16 _ _ _ _ _ (fun j h5 h6 h7 h9 => (hB72 j h5 h6 h7 h9)) (fun j h8 => (hI71 j h8)) ((show I61 8 = nI ((((k) + 1 + n17 - (n15 + 1))) + 1) from hk70).trans (congrArg nI (show ((((k) + 1 + n17 - (n15 + 1))) + 1 : Nat) = ((k) + 1 + n17 - n15) by omega))) (by omega) Y (lv_sub hl [0, 1, 2] rfl)
  exact lp17 (n17) _ _ _ _ _ (fun j h5 h6 h7 h9 => (hB14 j h5 h6 h7 h9)) (fun j h8 => (hI13 j h8)) ((show I3 8 = nI ((k) + 1) from hk12).trans (congrArg nI (show ((k) + 1 : Nat) = ((k) + 1 + n17 - (n17)) by omega))) (by omega) Y (lv_sub hl [0, 1, 2] rfl)
set_option maxHeartbeats 4000000 in
set_option maxRecDepth 100000 in
theorem c_finish_mac (l : Launch) (D : mD) (E : mE) (h : Nat) (q : Nat → Nat) (sz : Nat) (I : Nat → Int32) (J : Nat → Int64) (B : Nat → Nat → Int32) (G : Nat → Nat → Int64) (k : Nat) (hk : I 8 = nI k) (hk2 : k < 100000000) : Met l y_finish (k_finish :: lw_tg) (mR 2 51) (va_Pc [.ref h, .ref (q 10)] (mPre D E h q (I, J, B, G) sz)) (va_Qv (fun (u : mS) => (∀ j, j ≠ 8 → u.1 j = I j) ∧ u.2.1 = J ∧ (∀ j, j ≠ 5 → j ≠ 6 → j ≠ 7 → j ≠ 10 → u.2.2.1 j = B j) ∧ u.2.2.2 = G) (mPost D E h q (mA E h q sz)) (mA E h q sz)) 0 0 (mA E h q sz) := by
  refine m_enter (by decide) rfl (Nat.le_of_ble_eq_true rfl) (fun p e s m below meth c ls AV QQ H locs hQQ X Y hZ hA hr hlk hml hl => ?_)
  have Y : mH D E (mA E h q sz) s.heap h q I J B G H locs := Y
  have hl : lv_has ls 5 [(0, .ref h), (1, .ref (q 10))] := hl
  refine lv_ldc2 (v := (8)) X.1 X.2.1 X.2.2.2.1 (X.2.2.1 _ cl_368) d_finish_0 ?_
  refine lv_aload_n X.1 X.2.1 d_finish_3 rfl (lv_at hl 0 rfl) ?_
  refine m_get X Y 8 (by decide) lk_hashed (gf_hashed _ _ _) rfl d_finish_4 ?_
  refine t_eq (show I 8 = nI (k) from hk) ?_
  obtain ⟨v1, ev1⟩ : ∃ z : Int64, ((nI (k)) : Int32).toInt64 = z := ⟨_, rfl⟩
  refine lv_i2l (v := v1) X.1 X.2.1 d_finish_7 ev1 ?_
  refine lv_lmul X.1 X.2.1 d_finish_8 ?_
  refine t_anyl (fun v2 => ?_)
  refine lv_lstore_n (lv' := [(2, .long v2), (0, .ref h), (1, .ref (q 10))]) X.1 X.2.1 d_finish_9 rfl hl (by decide) rfl (fun ls hl => ?_)
  refine lv_aload_n X.1 X.2.1 d_finish_10 rfl (lv_at hl 1 rfl) ?_
  refine lv_sipush (v := (nI 128)) X.1 X.2.1 d_finish_11 (by decide) ?_
  refine m_callv (As := [.int (nI 128)]) (rest := []) (n := 1) X Y hZ hA hml hl.1 (c_hash l D E h q H.size I J B G (nI 128) (k) hk (by omega)) kl_hash ks_hash kx_hash ki_hash ini_M hd_hash ⟨by decide, by decide⟩ rfl (Nat.le_of_ble_eq_true rfl) d_finish_14 ⟨Nat.le_refl _, Nat.le_refl _⟩ (fun u H locs hp Y => ?_)
  obtain ⟨I3, J4, B5, G6⟩ := u
  obtain ⟨hI7, eJ9, hB8, eG10, hk12⟩ := hp
  dsimp only at hI7 eJ9 hB8 eG10 hk12 Y
  rw [eJ9, eG10] at Y
  have hI13 : (∀ j, j ≠ 8 → I3 j = I j) := fun j h8 => (hI7 j h8).trans ((fun j h8 => rfl) j h8)
  have hB14 : (∀ j, j ≠ 5 → j ≠ 6 → j ≠ 7 → j ≠ 10 → B5 j = B j) := fun j h5 h6 h7 h10 => (hB8 j h5 h6 h7).trans ((fun j h5 h6 h7 h10 => rfl) j h5 h6 h7 h10)
  obtain ⟨n17, hn17, hn17b⟩ : ∃ n, n < 64 ∧ ((k) + 1 + n) % 64 = 56 := ⟨(56 + 64 - ((k) + 1) % 64) % 64, by omega, by omega⟩
  have lp17 : ∀ (n15 : Nat) (I18 : Nat → Int32) (B19 : Nat → Nat → Int32) (H : Heap) (locs : List Loc) (ls : Array Slot), (∀ j, j ≠ 5 → j ≠ 6 → j ≠ 7 → j ≠ 10 → B19 j = B j) → (∀ j, j ≠ 8 → I18 j = I j) → I18 8 = nI (((k) + 1 + n17 - n15)) → (n15 ≤ n17) → mH D E (mA E h q sz) s.heap h q I18 J B19 G H locs → lv_has ls 5 [(2, .long v2), (0, .ref h), (1, .ref (q 10))] → W p l e (mR 2 51) s m AV below meth c H locs 0 0 QQ (F0 m 17 ls []) := by
    intro n15
    induction n15 with
    | zero =>
      intro I18 B19 H locs ls hB20 hI21 hk22 hle Y hl
      refine lv_aload_n X.1 X.2.1 d_finish_17 rfl (lv_at hl 1 rfl) ?_
      refine m_get X Y 8 (by decide) lk_hashed (gf_hashed _ _ _) rfl d_finish_18 ?_
      refine t_eq (show I18 8 = nI (((k) + 1 + n17 - 0)) from hk22) ?_
      refine lv_bipush (v := (nI 64)) X.1 X.2.1 d_finish_21 (by decide) ?_
      refine lv_irem X.1 X.2.1 d_finish_23 (nI_ne0 (by omega) (by omega)) ?_
      refine t_eq (y := nI ((((k) + 1 + n17 - 0)) % (64))) (pk_rem (by omega) (by omega) (by omega)) ?_
      refine lv_bipush (v := (nI 56)) X.1 X.2.1 d_finish_24 (by decide) ?_
      refine lv_icmp_eq (tgt := 37) X.1 X.2.1 d_finish_26 (by decide) (fun c23 => ?_) (fun c23 => absurd ?_ c23)
      rotate_left
      · (rw [nI_eq (by omega) (by omega)] <;> omega)
      rw [nI_eq (by omega) (by omega)] at c23
      refine lv_bipush (v := (nI 7)) X.1 X.2.1 d_finish_37 (by decide) ?_
      refine lv_istore (lv' := [(4, .int (nI 7)), (2, .long v2), (0, .ref h), (1, .ref (q 10))]) X.1 X.2.1 d_finish_39 hl (by decide) rfl (fun ls hl => ?_)
      rw [show (nI 7) = nI 8 + (-1) from rfl] at hl
      have lp26 : ∀ (n24 : Nat) (I27 : Nat → Int32) (B28 : Nat → Nat → Int32) (H : Heap) (locs : List Loc) (ls : Array Slot), (∀ j, j ≠ 5 → j ≠ 6 → j ≠ 7 → j ≠ 10 → B28 j = B j) → (∀ j, j ≠ 8 → I27 j = I j) → I27 8 = nI ((((k) + 1 + n17 - 0) + 8 - n24)) → (n24 ≤ 8) → mH D E (mA E h q sz) s.heap h q I27 J B28 G H locs → lv_has ls 5 [(4, .int (nI n24 + (-1))), (2, .long v2), (0, .ref h), (1, .ref (q 10))] → W p l e (mR 2 51) s m AV below meth c H locs 0 0 QQ (F0 m 41 ls []) := by
        intro n24
        induction n24 with
        | zero =>
          intro I27 B28 H locs ls hB29 hI30 hk31 hle Y hl
          refine lv_iload X.1 X.2.1 d_finish_41 (lv_at hl 0 rfl) ?_
          refine lv_if_lt (tgt := 64) X.1 X.2.1 d_finish_43 (by decide) (fun c32 => ?_) (fun c32 => absurd ?_ c32)
          rotate_left
          · decide
          refine lv_iconst (v := (nI 0)) X.1 X.2.1 d_finish_64 (by decide) ?_
          refine lv_istore (lv' := [(4, .int (nI 0)), (2, .long v2), (0, .ref h), (1, .ref (q 10))]) X.1 X.2.1 d_finish_65 hl (by decide) rfl (fun ls hl => ?_)
          have lp36 : ∀ (n33 i34 : Nat) (B37 : Nat → Nat → Int32) (H : Heap) (locs : List Loc) (ls : Array Slot), i34 + n33 = 20 → 0 ≤ i34 → (∀ j, j ≠ 5 → j ≠ 6 → j ≠ 7 → j ≠ 10 → B37 j = B j) → mH D E (mA E h q sz) s.heap h q I27 J B37 G H locs → lv_has ls 5 [(4, .int (nI i34)), (2, .long v2), (0, .ref h), (1, .ref (q 10))] → W p l e (mR 2 51) s m AV below meth c H locs 0 0 QQ (F0 m 67 ls []) := by
            intro n33
            induction n33 with
            | zero =>
              intro i34 B37 H locs ls hii34 hsi34 hB38  Y hl
              refine lv_iload X.1 X.2.1 d_finish_67 (lv_at hl 0 rfl) ?_
              refine lv_bipush (v := (nI 20)) X.1 X.2.1 d_finish_69 (by decide) ?_
              refine lv_icmp_ge (tgt := 105) X.1 X.2.1 d_finish_71 (by decide) (fun c39 => ?_) (fun c39 => absurd ?_ c39)
              rotate_left
              · (rw [nI_leI (by omega) (by omega)] <;> omega)
              rw [nI_leI (by omega) (by omega)] at c39
              exact m_retv hQQ X Y hr hlk ⟨(fun j h8 => (hI30 j h8)), rfl, (fun j h5 h6 h7 h10 => (hB38 j h5 h6 h7 h10)), rfl⟩ d_finish_105
            | succ n33 ih35 =>
              intro i34 B37 H locs ls hii34 hsi34 hB38  Y hl
              refine lv_iload X.1 X.2.1 d_finish_67 (lv_at hl 0 rfl) ?_
              refine lv_bipush (v := (nI 20)) X.1 X.2.1 d_finish_69 (by decide) ?_
              refine lv_icmp_ge (tgt := 105) X.1 X.2.1 d_finish_71 (by decide) (fun c40 => absurd c40 ?_) (fun c40 => ?_)
              · (rw [nI_leI (by omega) (by omega)] <;> omega)
              rw [nI_leI (by omega) (by omega)] at c40
              refine lv_aload_n X.1 X.2.1 d_finish_74 rfl (lv_at hl 3 rfl) ?_
              refine lv_iload X.1 X.2.1 d_finish_75 (lv_at hl 0 rfl) ?_
              refine lv_aload_n X.1 X.2.1 d_finish_77 rfl (lv_at hl 2 rfl) ?_
              refine m_get X Y 5 (by decide) lk_h (gf_h _ _ _) rfl d_finish_78 ?_
              refine lv_iload X.1 X.2.1 d_finish_81 (lv_at hl 0 rfl) ?_
              refine lv_iconst (v := (nI 4)) X.1 X.2.1 d_finish_83 (by decide) ?_
              refine lv_idiv X.1 X.2.1 d_finish_84 (nI_ne0 (by omega) (by omega)) ?_
              refine t_eq (y := nI ((i34) / (4))) (pk_div (by omega) (by omega) (by omega)) ?_
              refine m_iald X Y (aw_h _ _ _ _ _ _ _) (vp_in_nI (by omega) (by decide)) d_finish_85 ?_
              refine t_any (fun v41 => ?_)
              refine lv_bipush (v := (nI 24)) X.1 X.2.1 d_finish_86 (by decide) ?_
              refine lv_bipush (v := (nI 8)) X.1 X.2.1 d_finish_88 (by decide) ?_
              refine lv_iload X.1 X.2.1 d_finish_90 (lv_at hl 0 rfl) ?_
              refine lv_iconst (v := (nI 4)) X.1 X.2.1 d_finish_92 (by decide) ?_
              refine lv_irem X.1 X.2.1 d_finish_93 (nI_ne0 (by omega) (by omega)) ?_
              refine t_eq (y := nI ((i34) % (4))) (pk_rem (by omega) (by omega) (by omega)) ?_
              refine lv_imul X.1 X.2.1 d_finish_94 ?_
              refine t_eq (y := nI ((8) * ((i34) % (4)))) (pk_mul _ _) ?_
              refine lv_isub X.1 X.2.1 d_finish_95 ?_
              refine t_eq (y := nI (24 - ((8) * ((i34) % (4))))) (pk_sub (by omega)) ?_
              obtain ⟨v42, ev42⟩ : ∃ z : Int32, ((v41 : Int32).toUInt32 >>> (((nI (24 - ((8) * ((i34) % (4))))) : Int32).toUInt32 &&& Int32.toUInt32 31)).toInt32 = z := ⟨_, rfl⟩
              refine lv_iushr (v := v42) X.1 X.2.1 d_finish_96 ev42 ?_
              obtain ⟨v43, ev43⟩ : ∃ z : Int32, (v42 : Int32).toInt8.toInt32 = z := ⟨_, rfl⟩
              refine lv_i2b (v := v43) X.1 X.2.1 d_finish_97 ev43 ?_
              refine m_bast X Y (aw_mac _ _ _ _ _ _ _) (vp_in_nI (by omega) (by decide)) (sw_mac _ _ _ _ _ _ _ _) d_finish_98 (fun H locs Y => ?_)
              generalize (upd (B37 10) ((nI i34)).toNatClampNeg (vp_nar .byte v43)) = f44 at Y
              refine lv_iinc (v := (nI (i34 + 1))) (lv' := [(4, .int (nI (i34 + 1))), (2, .long v2), (0, .ref h), (1, .ref (q 10))]) X.1 X.2.1 d_finish_99 hl (k := 0) rfl (nI_add _ 1) (by decide) rfl (fun ls hl => ?_)
              refine lv_goto (tgt := 67) X.1 X.2.1 d_finish_102 (by decide) ?_
              exact ih35 (i34 + 1) (upB B37 10 f44) _ _ _ (by omega) (by omega) (fun j h5 h6 h7 h10 => ((if_neg h10).trans (hB38 j h5 h6 h7 h10)))  Y (lv_sub hl [0, 1, 2, 3] rfl)
          exact lp36 (20) 0 B28 _ _ _ (by omega) (by omega) (fun j h5 h6 h7 h10 => (hB29 j h5 h6 h7 h10))  Y (lv_sub hl [0, 1, 2, 3] rfl)
        | succ n24 ih25 =>
          intro I27 B28 H locs ls hB29 hI30 hk31 hle Y hl
          rw [show nI (n24 + 1) + (-1) = nI n24 from pk_m1 n24] at hl
          refine lv_iload X.1 X.2.1 d_finish_41 (lv_at hl 0 rfl) ?_
          refine lv_if_lt (tgt := 64) X.1 X.2.1 d_finish_43 (by decide) (fun c45 => absurd c45 ?_) (fun c45 => ?_)
          · (exact nI_pos (by omega))
          rw [← nI_0] at c45
          rw [nI_ltI (by omega) (by omega)] at c45
          refine lv_aload_n X.1 X.2.1 d_finish_46 rfl (lv_at hl 2 rfl) ?_
          refine lv_lload_n X.1 X.2.1 d_finish_47 rfl (lv_at hl 1 rfl) ?_
          refine lv_bipush (v := (nI 8)) X.1 X.2.1 d_finish_48 (by decide) ?_
          refine lv_iload X.1 X.2.1 d_finish_50 (lv_at hl 0 rfl) ?_
          refine lv_imul X.1 X.2.1 d_finish_52 ?_
          refine t_eq (y := nI ((8) * (n24))) (pk_mul _ _) ?_
          obtain ⟨v46, ev46⟩ : ∃ z : Int64, ((v2 : Int64).toUInt64 >>> (((nI ((8) * (n24))) : Int32).toInt64.toUInt64 &&& Int64.toUInt64 63)).toInt64 = z := ⟨_, rfl⟩
          refine lv_lushr (v := v46) X.1 X.2.1 d_finish_53 ev46 ?_
          obtain ⟨v47, ev47⟩ : ∃ z : Int32, (v46 : Int64).toInt32 = z := ⟨_, rfl⟩
          refine lv_l2i (v := v47) X.1 X.2.1 d_finish_54 ev47 ?_
          refine m_callv (As := [.int v47]) (rest := []) (n := 1) X Y hZ hA hml hl.1 (c_hash l D E h q H.size I27 J B28 G v47 ((((k) + 1 + n17 - 0) + 8 - (n24 + 1))) hk31 (by omega)) kl_hash ks_hash kx_hash ki_hash ini_M hd_hash ⟨by decide, by decide⟩ rfl (Nat.le_of_ble_eq_true rfl) d_finish_55 ⟨Nat.le_refl _, Nat.le_refl _⟩ (fun u H locs hp Y => ?_)
          obtain ⟨I48, J49, B50, G51⟩ := u
          obtain ⟨hI52, eJ54, hB53, eG55, hk57⟩ := hp
          dsimp only at hI52 eJ54 hB53 eG55 hk57 Y
          rw [eJ54, eG55] at Y
          have hI58 : (∀ j, j ≠ 8 → I48 j = I j) := fun j h8 => (hI52 j h8).trans ((fun j h8 => (hI30 j h8)) j h8)
          have hB59 : (∀ j, j ≠ 5 → j ≠ 6 → j ≠ 7 → j ≠ 10 → B50 j = B j) := fun j h5 h6 h7 h10 => (hB53 j h5 h6 h7).trans ((fun j h5 h6 h7 h10 => (hB29 j h5 h6 h7 h10)) j h5 h6 h7 h10)
          refine lv_iinc (v := (nI n24 + (-1))) (lv' := [(4, .int (nI n24 + (-1))), (2, .long v2), (0, .ref h), (1, .ref (q 10))]) X.1 X.2.1 d_finish_58 hl (k := 0) rfl (congrArg (fun z => nI n24 + z) (by decide)) (by decide) rfl (fun ls hl => ?_)
          refine lv_goto (tgt := 41) X.1 X.2.1 d_finish_61 (by decide) ?_
          exact ih25 _ _ _ _ _ (fun j h5 h6 h7 h10 => (hB59 j h5 h6 h7 h10)) (fun j h8 => (hI58 j h8)) ((show I48 8 = nI (((((k) + 1 + n17 - 0) + 8 - (n24 + 1))) + 1) from hk57).trans (congrArg nI (show (((((k) + 1 + n17 - 0) + 8 - (n24 + 1))) + 1 : Nat) = (((k) + 1 + n17 - 0) + 8 - n24) by omega))) (by omega) Y (lv_sub hl [0, 1, 2, 3] rfl)
      exact lp26 (8) _ _ _ _ _ (fun j h5 h6 h7 h10 => (hB20 j h5 h6 h7 h10)) (fun j h8 => (hI21 j h8)) ((show I18 8 = nI (((k) + 1 + n17 - 0)) from hk22).trans (congrArg nI (show (((k) + 1 + n17 - 0) : Nat) = (((k) + 1 + n17 - 0) + 8 - (8)) by omega))) (by omega) Y (lv_sub hl [0, 1, 2, 3] rfl)
    | succ n15 ih16 =>
      intro I18 B19 H locs ls hB20 hI21 hk22 hle Y hl
      refine lv_aload_n X.1 X.2.1 d_finish_17 rfl (lv_at hl 1 rfl) ?_
      refine m_get X Y 8 (by decide) lk_hashed (gf_hashed _ _ _) rfl d_finish_18 ?_
      refine t_eq (show I18 8 = nI (((k) + 1 + n17 - (n15 + 1))) from hk22) ?_
      refine lv_bipush (v := (nI 64)) X.1 X.2.1 d_finish_21 (by decide) ?_
      refine lv_irem X.1 X.2.1 d_finish_23 (nI_ne0 (by omega) (by omega)) ?_
      refine t_eq (y := nI ((((k) + 1 + n17 - (n15 + 1))) % (64))) (pk_rem (by omega) (by omega) (by omega)) ?_
      refine lv_bipush (v := (nI 56)) X.1 X.2.1 d_finish_24 (by decide) ?_
      refine lv_icmp_eq (tgt := 37) X.1 X.2.1 d_finish_26 (by decide) (fun c60 => absurd c60 ?_) (fun c60 => ?_)
      · (rw [nI_eq (by omega) (by omega)] <;> omega)
      rw [nI_eq (by omega) (by omega)] at c60
      refine lv_aload_n X.1 X.2.1 d_finish_29 rfl (lv_at hl 1 rfl) ?_
      refine lv_iconst (v := (nI 0)) X.1 X.2.1 d_finish_30 (by decide) ?_
      refine m_callv (As := [.int (nI 0)]) (rest := []) (n := 1) X Y hZ hA hml hl.1 (c_hash l D E h q H.size I18 J B19 G (nI 0) (((k) + 1 + n17 - (n15 + 1))) hk22 (by omega)) kl_hash ks_hash kx_hash ki_hash ini_M hd_hash ⟨by decide, by decide⟩ rfl (Nat.le_of_ble_eq_true rfl) d_finish_31 ⟨Nat.le_refl _, Nat.le_refl _⟩ (fun u H locs hp Y => ?_)
      obtain ⟨I61, J62, B63, G64⟩ := u
      obtain ⟨hI65, eJ67, hB66, eG68, hk70⟩ := hp
      dsimp only at hI65 eJ67 hB66 eG68 hk70 Y
      rw [eJ67, eG68] at Y
      have hI71 : (∀ j, j ≠ 8 → I61 j = I j) := fun j h8 => (hI65 j h8).trans ((fun j h8 => (hI21 j h8)) j h8)
      have hB72 : (∀ j, j ≠ 5 → j ≠ 6 → j ≠ 7 → j ≠ 10 → B63 j = B j) := fun j h5 h6 h7 h10 => (hB66 j h5 h6 h7).trans ((fun j h5 h6 h7 h10 => (hB20 j h5 h6 h7 h10)) j h5 h6 h7 h10)
      refine lv_goto (tgt := 17) X.1 X.2.1 d_finish_34 (by decide) ?_
      exact ih16 _ _ _ _ _ (fun j h5 h6 h7 h10 => (hB72 j h5 h6 h7 h10)) (fun j h8 => (hI71 j h8)) ((show I61 8 = nI ((((k) + 1 + n17 - (n15 + 1))) + 1) from hk70).trans (congrArg nI (show ((((k) + 1 + n17 - (n15 + 1))) + 1 : Nat) = ((k) + 1 + n17 - n15) by omega))) (by omega) Y (lv_sub hl [0, 1, 2] rfl)
  exact lp17 (n17) _ _ _ _ _ (fun j h5 h6 h7 h10 => (hB14 j h5 h6 h7 h10)) (fun j h8 => (hI13 j h8)) ((show I3 8 = nI ((k) + 1) from hk12).trans (congrArg nI (show ((k) + 1 : Nat) = ((k) + 1 + n17 - (n17)) by omega))) (by omega) Y (lv_sub hl [0, 1, 2] rfl)
set_option maxHeartbeats 4000000 in
set_option maxRecDepth 100000 in
theorem c_macBegin (l : Launch) (D : mD) (E : mE) (h : Nat) (q : Nat → Nat) (sz : Nat) (I : Nat → Int32) (J : Nat → Int64) (B : Nat → Nat → Int32) (G : Nat → Nat → Int64)  : Met l y_macBegin (k_macBegin :: lw_tg) (mR 2 51) (va_Pc [.ref h] (mPre D E h q (I, J, B, G) sz)) (va_Qv (fun (u : mS) => (∀ j, j ≠ 8 → u.1 j = I j) ∧ u.2.1 = J ∧ (∀ j, j ≠ 5 → j ≠ 6 → j ≠ 7 → u.2.2.1 j = B j) ∧ u.2.2.2 = G ∧ u.1 8 = nI (64)) (mPost D E h q (mA E h q sz)) (mA E h q sz)) 0 0 (mA E h q sz) := by
  refine m_enter (by decide) rfl (Nat.le_of_ble_eq_true rfl) (fun p e s m below meth c ls AV QQ H locs hQQ X Y hZ hA hr hlk hml hl => ?_)
  have Y : mH D E (mA E h q sz) s.heap h q I J B G H locs := Y
  have hl : lv_has ls 2 [(0, .ref h)] := hl
  refine lv_aload_n X.1 X.2.1 d_macBegin_0 rfl (lv_at hl 0 rfl) ?_
  refine m_callv (As := []) (rest := []) (n := 0) X Y hZ hA hml hl.1 (c_begin2 l D E h q H.size I J B G ) kl_begin ks_begin kx_begin ki_begin ini_M hd_begin ⟨by decide, by decide⟩ rfl (Nat.le_of_ble_eq_true rfl) d_macBegin_1 ⟨Nat.le_refl _, Nat.le_refl _⟩ (fun u H locs hp Y => ?_)
  obtain ⟨I1, J2, B3, G4⟩ := u
  obtain ⟨hI5, eJ7, hB6, eG8, hk10⟩ := hp
  dsimp only at hI5 eJ7 hB6 eG8 hk10 Y
  rw [eJ7, eG8] at Y
  have hI11 : (∀ j, j ≠ 8 → I1 j = I j) := fun j h8 => (hI5 j h8).trans ((fun j h8 => rfl) j h8)
  have hB12 : (∀ j, j ≠ 5 → j ≠ 6 → j ≠ 7 → B3 j = B j) := fun j h5 h6 h7 => (hB6 j h5).trans ((fun j h5 h6 h7 => rfl) j h5 h6 h7)
  refine lv_iconst (v := (nI 0)) X.1 X.2.1 d_macBegin_4 (by decide) ?_
  refine lv_istore_n (lv' := [(1, .int (nI 0)), (0, .ref h)]) X.1 X.2.1 d_macBegin_5 rfl hl (by decide) rfl (fun ls hl => ?_)
  have lp16 : ∀ (n13 i14 : Nat) (I17 : Nat → Int32) (B18 : Nat → Nat → Int32) (H : Heap) (locs : List Loc) (ls : Array Slot), i14 + n13 = 64 → 0 ≤ i14 → (∀ j, j ≠ 5 → j ≠ 6 → j ≠ 7 → B18 j = B j) → (∀ j, j ≠ 8 → I17 j = I j) → I17 8 = nI (0 + i14) → mH D E (mA E h q sz) s.heap h q I17 J B18 G H locs → lv_has ls 2 [(1, .int (nI i14)), (0, .ref h)] → W p l e (mR 2 51) s m AV below meth c H locs 0 0 QQ (F0 m 6 ls []) := by
    intro n13
    induction n13 with
    | zero =>
      intro i14 I17 B18 H locs ls hii14 hsi14 hB19 hI20 hk21  Y hl
      refine lv_iload_n X.1 X.2.1 d_macBegin_6 rfl (lv_at hl 0 rfl) ?_
      refine lv_bipush (v := (nI 64)) X.1 X.2.1 d_macBegin_7 (by decide) ?_
      refine lv_icmp_ge (tgt := 31) X.1 X.2.1 d_macBegin_9 (by decide) (fun c22 => ?_) (fun c22 => absurd ?_ c22)
      rotate_left
      · (rw [nI_leI (by omega) (by omega)] <;> omega)
      rw [nI_leI (by omega) (by omega)] at c22
      exact m_retv hQQ X Y hr hlk ⟨(fun j h8 => (hI20 j h8)), rfl, (fun j h5 h6 h7 => (hB19 j h5 h6 h7)), rfl, (show I17 8 = nI (64) from (show I17 8 = nI (0 + i14) from hk21).trans (congrArg nI (show (0 + i14 : Nat) = 64 by omega)))⟩ d_macBegin_31
    | succ n13 ih15 =>
      intro i14 I17 B18 H locs ls hii14 hsi14 hB19 hI20 hk21  Y hl
      refine lv_iload_n X.1 X.2.1 d_macBegin_6 rfl (lv_at hl 0 rfl) ?_
      refine lv_bipush (v := (nI 64)) X.1 X.2.1 d_macBegin_7 (by decide) ?_
      refine lv_icmp_ge (tgt := 31) X.1 X.2.1 d_macBegin_9 (by decide) (fun c23 => absurd c23 ?_) (fun c23 => ?_)
      · (rw [nI_leI (by omega) (by omega)] <;> omega)
      rw [nI_leI (by omega) (by omega)] at c23
      refine lv_aload_n X.1 X.2.1 d_macBegin_12 rfl (lv_at hl 1 rfl) ?_
      refine lv_aload_n X.1 X.2.1 d_macBegin_13 rfl (lv_at hl 1 rfl) ?_
      refine m_get X Y 11 (by decide) lk_macKey (gf_macKey _ _ _) rfl d_macBegin_14 ?_
      refine lv_iload_n X.1 X.2.1 d_macBegin_17 rfl (lv_at hl 0 rfl) ?_
      refine m_bald X Y (aw_macKey _ _ _ _ _ _ _) (vp_in_nI (by omega) (by decide)) d_macBegin_18 ?_
      refine t_any (fun v24 => ?_)
      refine lv_bipush (v := (nI 54)) X.1 X.2.1 d_macBegin_19 (by decide) ?_
      refine lv_ixor X.1 X.2.1 d_macBegin_21 ?_
      refine t_any (fun v25 => ?_)
      refine m_callv (As := [.int v25]) (rest := []) (n := 1) X Y hZ hA hml hl.1 (c_hash l D E h q H.size I17 J B18 G v25 (0 + i14) hk21 (by omega)) kl_hash ks_hash kx_hash ki_hash ini_M hd_hash ⟨by decide, by decide⟩ rfl (Nat.le_of_ble_eq_true rfl) d_macBegin_22 ⟨Nat.le_refl _, Nat.le_refl _⟩ (fun u H locs hp Y => ?_)
      obtain ⟨I26, J27, B28, G29⟩ := u
      obtain ⟨hI30, eJ32, hB31, eG33, hk35⟩ := hp
      dsimp only at hI30 eJ32 hB31 eG33 hk35 Y
      rw [eJ32, eG33] at Y
      have hI36 : (∀ j, j ≠ 8 → I26 j = I j) := fun j h8 => (hI30 j h8).trans ((fun j h8 => (hI20 j h8)) j h8)
      have hB37 : (∀ j, j ≠ 5 → j ≠ 6 → j ≠ 7 → B28 j = B j) := fun j h5 h6 h7 => (hB31 j h5 h6 h7).trans ((fun j h5 h6 h7 => (hB19 j h5 h6 h7)) j h5 h6 h7)
      refine lv_iinc (v := (nI (i14 + 1))) (lv' := [(1, .int (nI (i14 + 1))), (0, .ref h)]) X.1 X.2.1 d_macBegin_25 hl (k := 0) rfl (nI_add _ 1) (by decide) rfl (fun ls hl => ?_)
      refine lv_goto (tgt := 6) X.1 X.2.1 d_macBegin_28 (by decide) ?_
      exact ih15 (i14 + 1) I26 B28 _ _ _ (by omega) (by omega) (fun j h5 h6 h7 => (hB37 j h5 h6 h7)) (fun j h8 => (hI36 j h8)) ((show I26 8 = nI ((0 + i14) + 1) from hk35).trans (congrArg nI (show ((0 + i14) + 1 : Nat) = 0 + (i14 + 1) by omega)))  Y (lv_sub hl [0, 1] rfl)
  exact lp16 (64) 0 I1 B3 _ _ _ (by omega) (by omega) (fun j h5 h6 h7 => (hB12 j h5 h6 h7)) (fun j h8 => (hI11 j h8)) ((show I1 8 = nI (0) from hk10).trans (congrArg nI (show (0 : Nat) = 0 + 0 by omega)))  Y (lv_sub hl [0, 1] rfl)
set_option maxHeartbeats 4000000 in
set_option maxRecDepth 100000 in
theorem c_macEnd (l : Launch) (D : mD) (E : mE) (h : Nat) (q : Nat → Nat) (sz : Nat) (I : Nat → Int32) (J : Nat → Int64) (B : Nat → Nat → Int32) (G : Nat → Nat → Int64) (k : Nat) (hk : I 8 = nI k) (hk2 : k < 100000000) : Met l y_macEnd (k_macEnd :: lw_tg) (mR 3 75) (va_Pc [.ref h] (mPre D E h q (I, J, B, G) sz)) (va_Qv (fun (u : mS) => (∀ j, j ≠ 8 → u.1 j = I j) ∧ u.2.1 = J ∧ (∀ j, j ≠ 5 → j ≠ 6 → j ≠ 7 → j ≠ 9 → j ≠ 10 → u.2.2.1 j = B j) ∧ u.2.2.2 = G) (mPost D E h q (mA E h q sz)) (mA E h q sz)) 0 0 (mA E h q sz) := by
  refine m_enter (by decide) rfl (Nat.le_of_ble_eq_true rfl) (fun p e s m below meth c ls AV QQ H locs hQQ X Y hZ hA hr hlk hml hl => ?_)
  have Y : mH D E (mA E h q sz) s.heap h q I J B G H locs := Y
  have hl : lv_has ls 2 [(0, .ref h)] := hl
  refine lv_aload_n X.1 X.2.1 d_macEnd_0 rfl (lv_at hl 0 rfl) ?_
  refine lv_aload_n X.1 X.2.1 d_macEnd_1 rfl (lv_at hl 0 rfl) ?_
  refine m_get X Y 9 (by decide) lk_inner (gf_inner _ _ _) rfl d_macEnd_2 ?_
  refine m_callv (As := [.ref (q 9)]) (rest := []) (n := 1) X Y hZ hA hml hl.1 (c_finish_inner l D E h q H.size I J B G (k) hk (by omega)) kl_finish ks_finish kx_finish ki_finish ini_M hd_finish ⟨by decide, by decide⟩ rfl (Nat.le_of_ble_eq_true rfl) d_macEnd_5 ⟨Nat.le_refl _, Nat.le_refl _⟩ (fun u H locs hp Y => ?_)
  obtain ⟨I1, J2, B3, G4⟩ := u
  obtain ⟨hI5, eJ7, hB6, eG8⟩ := hp
  dsimp only at hI5 eJ7 hB6 eG8 Y
  rw [eJ7, eG8] at Y
  have hI10 : (∀ j, j ≠ 8 → I1 j = I j) := fun j h8 => (hI5 j h8).trans ((fun j h8 => rfl) j h8)
  have hB11 : (∀ j, j ≠ 5 → j ≠ 6 → j ≠ 7 → j ≠ 9 → j ≠ 10 → B3 j = B j) := fun j h5 h6 h7 h9 h10 => (hB6 j h5 h6 h7 h9).trans ((fun j h5 h6 h7 h9 h10 => rfl) j h5 h6 h7 h9 h10)
  refine lv_aload_n X.1 X.2.1 d_macEnd_8 rfl (lv_at hl 0 rfl) ?_
  refine m_callv (As := []) (rest := []) (n := 0) X Y hZ hA hml hl.1 (c_begin2 l D E h q H.size I1 J B3 G ) kl_begin ks_begin kx_begin ki_begin ini_M hd_begin ⟨by decide, by decide⟩ rfl (Nat.le_of_ble_eq_true rfl) d_macEnd_9 ⟨Nat.le_refl _, Nat.le_refl _⟩ (fun u H locs hp Y => ?_)
  obtain ⟨I12, J13, B14, G15⟩ := u
  obtain ⟨hI16, eJ18, hB17, eG19, hk21⟩ := hp
  dsimp only at hI16 eJ18 hB17 eG19 hk21 Y
  rw [eJ18, eG19] at Y
  have hI22 : (∀ j, j ≠ 8 → I12 j = I j) := fun j h8 => (hI16 j h8).trans ((fun j h8 => (hI10 j h8)) j h8)
  have hB23 : (∀ j, j ≠ 5 → j ≠ 6 → j ≠ 7 → j ≠ 9 → j ≠ 10 → B14 j = B j) := fun j h5 h6 h7 h9 h10 => (hB17 j h5).trans ((fun j h5 h6 h7 h9 h10 => (hB11 j h5 h6 h7 h9 h10)) j h5 h6 h7 h9 h10)
  refine lv_iconst (v := (nI 0)) X.1 X.2.1 d_macEnd_12 (by decide) ?_
  refine lv_istore_n (lv' := [(1, .int (nI 0)), (0, .ref h)]) X.1 X.2.1 d_macEnd_13 rfl hl (by decide) rfl (fun ls hl => ?_)
  have lp27 : ∀ (n24 i25 : Nat) (I28 : Nat → Int32) (B29 : Nat → Nat → Int32) (H : Heap) (locs : List Loc) (ls : Array Slot), i25 + n24 = 64 → 0 ≤ i25 → (∀ j, j ≠ 5 → j ≠ 6 → j ≠ 7 → j ≠ 9 → j ≠ 10 → B29 j = B j) → (∀ j, j ≠ 8 → I28 j = I j) → I28 8 = nI (0 + i25) → mH D E (mA E h q sz) s.heap h q I28 J B29 G H locs → lv_has ls 2 [(1, .int (nI i25)), (0, .ref h)] → W p l e (mR 3 75) s m AV below meth c H locs 0 0 QQ (F0 m 14 ls []) := by
    intro n24
    induction n24 with
    | zero =>
      intro i25 I28 B29 H locs ls hii25 hsi25 hB30 hI31 hk32  Y hl
      refine lv_iload_n X.1 X.2.1 d_macEnd_14 rfl (lv_at hl 0 rfl) ?_
      refine lv_bipush (v := (nI 64)) X.1 X.2.1 d_macEnd_15 (by decide) ?_
      refine lv_icmp_ge (tgt := 39) X.1 X.2.1 d_macEnd_17 (by decide) (fun c33 => ?_) (fun c33 => absurd ?_ c33)
      rotate_left
      · (rw [nI_leI (by omega) (by omega)] <;> omega)
      rw [nI_leI (by omega) (by omega)] at c33
      refine lv_iconst (v := (nI 0)) X.1 X.2.1 d_macEnd_39 (by decide) ?_
      refine lv_istore_n (lv' := [(1, .int (nI 0)), (0, .ref h)]) X.1 X.2.1 d_macEnd_40 rfl hl (by decide) rfl (fun ls hl => ?_)
      have lp37 : ∀ (n34 i35 : Nat) (I38 : Nat → Int32) (B39 : Nat → Nat → Int32) (H : Heap) (locs : List Loc) (ls : Array Slot), i35 + n34 = 20 → 0 ≤ i35 → (∀ j, j ≠ 5 → j ≠ 6 → j ≠ 7 → j ≠ 9 → j ≠ 10 → B39 j = B j) → (∀ j, j ≠ 8 → I38 j = I j) → I38 8 = nI (64 + i35) → mH D E (mA E h q sz) s.heap h q I38 J B39 G H locs → lv_has ls 2 [(1, .int (nI i35)), (0, .ref h)] → W p l e (mR 3 75) s m AV below meth c H locs 0 0 QQ (F0 m 41 ls []) := by
        intro n34
        induction n34 with
        | zero =>
          intro i35 I38 B39 H locs ls hii35 hsi35 hB40 hI41 hk42  Y hl
          refine lv_iload_n X.1 X.2.1 d_macEnd_41 rfl (lv_at hl 0 rfl) ?_
          refine lv_bipush (v := (nI 20)) X.1 X.2.1 d_macEnd_42 (by decide) ?_
          refine lv_icmp_ge (tgt := 63) X.1 X.2.1 d_macEnd_44 (by decide) (fun c43 => ?_) (fun c43 => absurd ?_ c43)
          rotate_left
          · (rw [nI_leI (by omega) (by omega)] <;> omega)
          rw [nI_leI (by omega) (by omega)] at c43
          refine lv_aload_n X.1 X.2.1 d_macEnd_63 rfl (lv_at hl 1 rfl) ?_
          refine lv_aload_n X.1 X.2.1 d_macEnd_64 rfl (lv_at hl 1 rfl) ?_
          refine m_get X Y 10 (by decide) lk_mac (gf_mac _ _ _) rfl d_macEnd_65 ?_
          refine m_callv (As := [.ref (q 10)]) (rest := []) (n := 1) X Y hZ hA hml hl.1 (c_finish_mac l D E h q H.size I38 J B39 G (64 + i35) hk42 (by omega)) kl_finish ks_finish kx_finish ki_finish ini_M hd_finish ⟨by decide, by decide⟩ rfl (Nat.le_of_ble_eq_true rfl) d_macEnd_68 ⟨Nat.le_refl _, Nat.le_refl _⟩ (fun u H locs hp Y => ?_)
          obtain ⟨I44, J45, B46, G47⟩ := u
          obtain ⟨hI48, eJ50, hB49, eG51⟩ := hp
          dsimp only at hI48 eJ50 hB49 eG51 Y
          rw [eJ50, eG51] at Y
          have hI53 : (∀ j, j ≠ 8 → I44 j = I j) := fun j h8 => (hI48 j h8).trans ((fun j h8 => (hI41 j h8)) j h8)
          have hB54 : (∀ j, j ≠ 5 → j ≠ 6 → j ≠ 7 → j ≠ 9 → j ≠ 10 → B46 j = B j) := fun j h5 h6 h7 h9 h10 => (hB49 j h5 h6 h7 h10).trans ((fun j h5 h6 h7 h9 h10 => (hB40 j h5 h6 h7 h9 h10)) j h5 h6 h7 h9 h10)
          exact m_retv hQQ X Y hr hlk ⟨(fun j h8 => (hI53 j h8)), rfl, (fun j h5 h6 h7 h9 h10 => (hB54 j h5 h6 h7 h9 h10)), rfl⟩ d_macEnd_71
        | succ n34 ih36 =>
          intro i35 I38 B39 H locs ls hii35 hsi35 hB40 hI41 hk42  Y hl
          refine lv_iload_n X.1 X.2.1 d_macEnd_41 rfl (lv_at hl 0 rfl) ?_
          refine lv_bipush (v := (nI 20)) X.1 X.2.1 d_macEnd_42 (by decide) ?_
          refine lv_icmp_ge (tgt := 63) X.1 X.2.1 d_macEnd_44 (by decide) (fun c55 => absurd c55 ?_) (fun c55 => ?_)
          · (rw [nI_leI (by omega) (by omega)] <;> omega)
          rw [nI_leI (by omega) (by omega)] at c55
          refine lv_aload_n X.1 X.2.1 d_macEnd_47 rfl (lv_at hl 1 rfl) ?_
          refine lv_aload_n X.1 X.2.1 d_macEnd_48 rfl (lv_at hl 1 rfl) ?_
          refine m_get X Y 9 (by decide) lk_inner (gf_inner _ _ _) rfl d_macEnd_49 ?_
          refine lv_iload_n X.1 X.2.1 d_macEnd_52 rfl (lv_at hl 0 rfl) ?_
          refine m_bald X Y (aw_inner _ _ _ _ _ _ _) (vp_in_nI (by omega) (by decide)) d_macEnd_53 ?_
          refine t_any (fun v56 => ?_)
          refine m_callv (As := [.int v56]) (rest := []) (n := 1) X Y hZ hA hml hl.1 (c_hash l D E h q H.size I38 J B39 G v56 (64 + i35) hk42 (by omega)) kl_hash ks_hash kx_hash ki_hash ini_M hd_hash ⟨by decide, by decide⟩ rfl (Nat.le_of_ble_eq_true rfl) d_macEnd_54 ⟨Nat.le_refl _, Nat.le_refl _⟩ (fun u H locs hp Y => ?_)
          obtain ⟨I57, J58, B59, G60⟩ := u
          obtain ⟨hI61, eJ63, hB62, eG64, hk66⟩ := hp
          dsimp only at hI61 eJ63 hB62 eG64 hk66 Y
          rw [eJ63, eG64] at Y
          have hI67 : (∀ j, j ≠ 8 → I57 j = I j) := fun j h8 => (hI61 j h8).trans ((fun j h8 => (hI41 j h8)) j h8)
          have hB68 : (∀ j, j ≠ 5 → j ≠ 6 → j ≠ 7 → j ≠ 9 → j ≠ 10 → B59 j = B j) := fun j h5 h6 h7 h9 h10 => (hB62 j h5 h6 h7).trans ((fun j h5 h6 h7 h9 h10 => (hB40 j h5 h6 h7 h9 h10)) j h5 h6 h7 h9 h10)
          refine lv_iinc (v := (nI (i35 + 1))) (lv' := [(1, .int (nI (i35 + 1))), (0, .ref h)]) X.1 X.2.1 d_macEnd_57 hl (k := 0) rfl (nI_add _ 1) (by decide) rfl (fun ls hl => ?_)
          refine lv_goto (tgt := 41) X.1 X.2.1 d_macEnd_60 (by decide) ?_
          exact ih36 (i35 + 1) I57 B59 _ _ _ (by omega) (by omega) (fun j h5 h6 h7 h9 h10 => (hB68 j h5 h6 h7 h9 h10)) (fun j h8 => (hI67 j h8)) ((show I57 8 = nI ((64 + i35) + 1) from hk66).trans (congrArg nI (show ((64 + i35) + 1 : Nat) = 64 + (i35 + 1) by omega)))  Y (lv_sub hl [0, 1] rfl)
      exact lp37 (20) 0 I28 B29 _ _ _ (by omega) (by omega) (fun j h5 h6 h7 h9 h10 => (hB30 j h5 h6 h7 h9 h10)) (fun j h8 => (hI31 j h8)) ((show I28 8 = nI (0 + i25) from hk32).trans (congrArg nI (show (0 + i25 : Nat) = 64 + 0 by omega)))  Y (lv_sub hl [0, 1] rfl)
    | succ n24 ih26 =>
      intro i25 I28 B29 H locs ls hii25 hsi25 hB30 hI31 hk32  Y hl
      refine lv_iload_n X.1 X.2.1 d_macEnd_14 rfl (lv_at hl 0 rfl) ?_
      refine lv_bipush (v := (nI 64)) X.1 X.2.1 d_macEnd_15 (by decide) ?_
      refine lv_icmp_ge (tgt := 39) X.1 X.2.1 d_macEnd_17 (by decide) (fun c69 => absurd c69 ?_) (fun c69 => ?_)
      · (rw [nI_leI (by omega) (by omega)] <;> omega)
      rw [nI_leI (by omega) (by omega)] at c69
      refine lv_aload_n X.1 X.2.1 d_macEnd_20 rfl (lv_at hl 1 rfl) ?_
      refine lv_aload_n X.1 X.2.1 d_macEnd_21 rfl (lv_at hl 1 rfl) ?_
      refine m_get X Y 11 (by decide) lk_macKey (gf_macKey _ _ _) rfl d_macEnd_22 ?_
      refine lv_iload_n X.1 X.2.1 d_macEnd_25 rfl (lv_at hl 0 rfl) ?_
      refine m_bald X Y (aw_macKey _ _ _ _ _ _ _) (vp_in_nI (by omega) (by decide)) d_macEnd_26 ?_
      refine t_any (fun v70 => ?_)
      refine lv_bipush (v := (nI 92)) X.1 X.2.1 d_macEnd_27 (by decide) ?_
      refine lv_ixor X.1 X.2.1 d_macEnd_29 ?_
      refine t_any (fun v71 => ?_)
      refine m_callv (As := [.int v71]) (rest := []) (n := 1) X Y hZ hA hml hl.1 (c_hash l D E h q H.size I28 J B29 G v71 (0 + i25) hk32 (by omega)) kl_hash ks_hash kx_hash ki_hash ini_M hd_hash ⟨by decide, by decide⟩ rfl (Nat.le_of_ble_eq_true rfl) d_macEnd_30 ⟨Nat.le_refl _, Nat.le_refl _⟩ (fun u H locs hp Y => ?_)
      obtain ⟨I72, J73, B74, G75⟩ := u
      obtain ⟨hI76, eJ78, hB77, eG79, hk81⟩ := hp
      dsimp only at hI76 eJ78 hB77 eG79 hk81 Y
      rw [eJ78, eG79] at Y
      have hI82 : (∀ j, j ≠ 8 → I72 j = I j) := fun j h8 => (hI76 j h8).trans ((fun j h8 => (hI31 j h8)) j h8)
      have hB83 : (∀ j, j ≠ 5 → j ≠ 6 → j ≠ 7 → j ≠ 9 → j ≠ 10 → B74 j = B j) := fun j h5 h6 h7 h9 h10 => (hB77 j h5 h6 h7).trans ((fun j h5 h6 h7 h9 h10 => (hB30 j h5 h6 h7 h9 h10)) j h5 h6 h7 h9 h10)
      refine lv_iinc (v := (nI (i25 + 1))) (lv' := [(1, .int (nI (i25 + 1))), (0, .ref h)]) X.1 X.2.1 d_macEnd_33 hl (k := 0) rfl (nI_add _ 1) (by decide) rfl (fun ls hl => ?_)
      refine lv_goto (tgt := 14) X.1 X.2.1 d_macEnd_36 (by decide) ?_
      exact ih26 (i25 + 1) I72 B74 _ _ _ (by omega) (by omega) (fun j h5 h6 h7 h9 h10 => (hB83 j h5 h6 h7 h9 h10)) (fun j h8 => (hI82 j h8)) ((show I72 8 = nI ((0 + i25) + 1) from hk81).trans (congrArg nI (show ((0 + i25) + 1 : Nat) = 0 + (i25 + 1) by omega)))  Y (lv_sub hl [0, 1] rfl)
  exact lp27 (64) 0 I12 B14 _ _ _ (by omega) (by omega) (fun j h5 h6 h7 h9 h10 => (hB23 j h5 h6 h7 h9 h10)) (fun j h8 => (hI22 j h8)) ((show I12 8 = nI (0) from hk21).trans (congrArg nI (show (0 : Nat) = 0 + 0 by omega)))  Y (lv_sub hl [0, 1] rfl)
set_option maxHeartbeats 4000000 in
set_option maxRecDepth 100000 in
theorem c_macKey_password (l : Launch) (D : mD) (E : mE) (h : Nat) (q : Nat → Nat) (sz : Nat) (I : Nat → Int32) (J : Nat → Int64) (B : Nat → Nat → Int32) (G : Nat → Nat → Int64) (n : Nat) (hn : n ≤ 30) : Met l y_macKey (k_macKey :: lw_tg) (mR 3 75) (va_Pc [.ref h, .ref (q 25), .int (nI n)] (mPre D E h q (I, J, B, G) sz)) (va_Qv (fun (u : mS) => (∀ j, u.1 j = I j) ∧ u.2.1 = J ∧ (∀ j, j ≠ 11 → u.2.2.1 j = B j) ∧ u.2.2.2 = G) (mPost D E h q (mA E h q sz)) (mA E h q sz)) 0 0 (mA E h q sz) := by
  refine m_enter (by decide) rfl (Nat.le_of_ble_eq_true rfl) (fun p e s m below meth c ls AV QQ H locs hQQ X Y hZ hA hr hlk hml hl => ?_)
  have Y : mH D E (mA E h q sz) s.heap h q I J B G H locs := Y
  have hl : lv_has ls 4 [(0, .ref h), (1, .ref (q 25)), (2, .int (nI n))] := hl
  refine lv_iconst (v := (nI 0)) X.1 X.2.1 d_macKey_0 (by decide) ?_
  refine lv_istore_n (lv' := [(3, .int (nI 0)), (0, .ref h), (1, .ref (q 25)), (2, .int (nI n))]) X.1 X.2.1 d_macKey_1 rfl hl (by decide) rfl (fun ls hl => ?_)
  have lp4 : ∀ (n1 i2 : Nat) (B5 : Nat → Nat → Int32) (H : Heap) (locs : List Loc) (ls : Array Slot), i2 + n1 = 64 → 0 ≤ i2 → (∀ j, j ≠ 11 → B5 j = B j) → mH D E (mA E h q sz) s.heap h q I J B5 G H locs → lv_has ls 4 [(3, .int (nI i2)), (0, .ref h), (1, .ref (q 25)), (2, .int (nI n))] → W p l e (mR 3 75) s m AV below meth c H locs 0 0 QQ (F0 m 2 ls []) := by
    intro n1
    induction n1 with
    | zero =>
      intro i2 B5 H locs ls hii2 hsi2 hB6  Y hl
      refine lv_iload_n X.1 X.2.1 d_macKey_2 rfl (lv_at hl 0 rfl) ?_
      refine lv_bipush (v := (nI 64)) X.1 X.2.1 d_macKey_3 (by decide) ?_
      refine lv_icmp_ge (tgt := 38) X.1 X.2.1 d_macKey_5 (by decide) (fun c7 => ?_) (fun c7 => absurd ?_ c7)
      rotate_left
      · (rw [nI_leI (by omega) (by omega)] <;> omega)
      rw [nI_leI (by omega) (by omega)] at c7
      refine lv_iload_n X.1 X.2.1 d_macKey_38 rfl (lv_at hl 3 rfl) ?_
      refine lv_bipush (v := (nI 64)) X.1 X.2.1 d_macKey_39 (by decide) ?_
      refine lv_icmp_gt (tgt := 45) X.1 X.2.1 d_macKey_41 (by decide) (fun c8 => absurd c8 ?_) (fun c8 => ?_)
      · (rw [nI_ltI (by omega) (by omega)] <;> omega)
      rw [nI_ltI (by omega) (by omega)] at c8
      exact m_retv hQQ X Y hr hlk ⟨(fun j  => rfl), rfl, (fun j h11 => (hB6 j h11)), rfl⟩ d_macKey_44
    | succ n1 ih3 =>
      intro i2 B5 H locs ls hii2 hsi2 hB6  Y hl
      refine lv_iload_n X.1 X.2.1 d_macKey_2 rfl (lv_at hl 0 rfl) ?_
      refine lv_bipush (v := (nI 64)) X.1 X.2.1 d_macKey_3 (by decide) ?_
      refine lv_icmp_ge (tgt := 38) X.1 X.2.1 d_macKey_5 (by decide) (fun c9 => absurd c9 ?_) (fun c9 => ?_)
      · (rw [nI_leI (by omega) (by omega)] <;> omega)
      rw [nI_leI (by omega) (by omega)] at c9
      refine lv_aload_n X.1 X.2.1 d_macKey_8 rfl (lv_at hl 1 rfl) ?_
      refine m_get X Y 11 (by decide) lk_macKey (gf_macKey _ _ _) rfl d_macKey_9 ?_
      refine lv_iload_n X.1 X.2.1 d_macKey_12 rfl (lv_at hl 0 rfl) ?_
      have jn11 : ∀ w10 : Int32, W p l e (mR 3 75) s m AV below meth c H locs 0 0 QQ (F0 m 31 ls [.int w10, .int (nI i2), .ref (q 11)]) := by
        intro w10
        refine m_bast X Y (aw_macKey _ _ _ _ _ _ _) (vp_in_nI (by omega) (by decide)) (sw_macKey _ _ _ _ _ _ _ _) d_macKey_31 (fun H locs Y => ?_)
        generalize (upd (B5 11) ((nI i2)).toNatClampNeg (vp_nar .byte w10)) = f12 at Y
        refine lv_iinc (v := (nI (i2 + 1))) (lv' := [(3, .int (nI (i2 + 1))), (0, .ref h), (1, .ref (q 25)), (2, .int (nI n))]) X.1 X.2.1 d_macKey_32 hl (k := 0) rfl (nI_add _ 1) (by decide) rfl (fun ls hl => ?_)
        refine lv_goto (tgt := 2) X.1 X.2.1 d_macKey_35 (by decide) ?_
        exact ih3 (i2 + 1) (upB B5 11 f12) _ _ _ (by omega) (by omega) (fun j h11 => ((if_neg h11).trans (hB6 j h11)))  Y (lv_sub hl [0, 1, 2, 3] rfl)
      refine lv_iload_n X.1 X.2.1 d_macKey_13 rfl (lv_at hl 3 rfl) ?_
      refine lv_bipush (v := (nI 64)) X.1 X.2.1 d_macKey_14 (by decide) ?_
      refine lv_icmp_gt (tgt := 30) X.1 X.2.1 d_macKey_16 (by decide) (fun c13 => absurd c13 ?_) (fun c13 => ?_)
      · (rw [nI_ltI (by omega) (by omega)] <;> omega)
      rw [nI_ltI (by omega) (by omega)] at c13
      refine lv_iload_n X.1 X.2.1 d_macKey_19 rfl (lv_at hl 0 rfl) ?_
      refine lv_iload_n X.1 X.2.1 d_macKey_20 rfl (lv_at hl 3 rfl) ?_
      refine lv_icmp_ge (tgt := 30) X.1 X.2.1 d_macKey_21 (by decide) (fun c14 => ?_) (fun c14 => ?_)
      · skip
        rw [nI_leI (by omega) (by omega)] at c14
        refine lv_iconst (v := (nI 0)) X.1 X.2.1 d_macKey_30 (by decide) ?_
        exact jn11 _
      · skip
        rw [nI_leI (by omega) (by omega)] at c14
        refine lv_aload_n X.1 X.2.1 d_macKey_24 rfl (lv_at hl 2 rfl) ?_
        refine lv_iload_n X.1 X.2.1 d_macKey_25 rfl (lv_at hl 0 rfl) ?_
        refine m_bald X Y (aw_password _ _ _ _ _ _ _) (vp_in_nI (by omega) (by decide)) d_macKey_26 ?_
        refine t_any (fun v15 => ?_)
        refine lv_goto (tgt := 31) X.1 X.2.1 d_macKey_27 (by decide) ?_
        exact jn11 _
  exact lp4 (64) 0 B _ _ _ (by omega) (by omega) (fun j h11 => rfl)  Y (lv_sub hl [0, 1, 2, 3] rfl)
set_option maxHeartbeats 4000000 in
set_option maxRecDepth 100000 in
theorem c_macKey_seed (l : Launch) (D : mD) (E : mE) (h : Nat) (q : Nat → Nat) (sz : Nat) (I : Nat → Int32) (J : Nat → Int64) (B : Nat → Nat → Int32) (G : Nat → Nat → Int64) (n : Nat) (hn : n ≤ 64) : Met l y_macKey (k_macKey :: lw_tg) (mR 3 75) (va_Pc [.ref h, .ref (q 31), .int (nI n)] (mPre D E h q (I, J, B, G) sz)) (va_Qv (fun (u : mS) => (∀ j, u.1 j = I j) ∧ u.2.1 = J ∧ (∀ j, j ≠ 11 → u.2.2.1 j = B j) ∧ u.2.2.2 = G) (mPost D E h q (mA E h q sz)) (mA E h q sz)) 0 0 (mA E h q sz) := by
  refine m_enter (by decide) rfl (Nat.le_of_ble_eq_true rfl) (fun p e s m below meth c ls AV QQ H locs hQQ X Y hZ hA hr hlk hml hl => ?_)
  have Y : mH D E (mA E h q sz) s.heap h q I J B G H locs := Y
  have hl : lv_has ls 4 [(0, .ref h), (1, .ref (q 31)), (2, .int (nI n))] := hl
  refine lv_iconst (v := (nI 0)) X.1 X.2.1 d_macKey_0 (by decide) ?_
  refine lv_istore_n (lv' := [(3, .int (nI 0)), (0, .ref h), (1, .ref (q 31)), (2, .int (nI n))]) X.1 X.2.1 d_macKey_1 rfl hl (by decide) rfl (fun ls hl => ?_)
  have lp4 : ∀ (n1 i2 : Nat) (B5 : Nat → Nat → Int32) (H : Heap) (locs : List Loc) (ls : Array Slot), i2 + n1 = 64 → 0 ≤ i2 → (∀ j, j ≠ 11 → B5 j = B j) → mH D E (mA E h q sz) s.heap h q I J B5 G H locs → lv_has ls 4 [(3, .int (nI i2)), (0, .ref h), (1, .ref (q 31)), (2, .int (nI n))] → W p l e (mR 3 75) s m AV below meth c H locs 0 0 QQ (F0 m 2 ls []) := by
    intro n1
    induction n1 with
    | zero =>
      intro i2 B5 H locs ls hii2 hsi2 hB6  Y hl
      refine lv_iload_n X.1 X.2.1 d_macKey_2 rfl (lv_at hl 0 rfl) ?_
      refine lv_bipush (v := (nI 64)) X.1 X.2.1 d_macKey_3 (by decide) ?_
      refine lv_icmp_ge (tgt := 38) X.1 X.2.1 d_macKey_5 (by decide) (fun c7 => ?_) (fun c7 => absurd ?_ c7)
      rotate_left
      · (rw [nI_leI (by omega) (by omega)] <;> omega)
      rw [nI_leI (by omega) (by omega)] at c7
      refine lv_iload_n X.1 X.2.1 d_macKey_38 rfl (lv_at hl 3 rfl) ?_
      refine lv_bipush (v := (nI 64)) X.1 X.2.1 d_macKey_39 (by decide) ?_
      refine lv_icmp_gt (tgt := 45) X.1 X.2.1 d_macKey_41 (by decide) (fun c8 => absurd c8 ?_) (fun c8 => ?_)
      · (rw [nI_ltI (by omega) (by omega)] <;> omega)
      rw [nI_ltI (by omega) (by omega)] at c8
      exact m_retv hQQ X Y hr hlk ⟨(fun j  => rfl), rfl, (fun j h11 => (hB6 j h11)), rfl⟩ d_macKey_44
    | succ n1 ih3 =>
      intro i2 B5 H locs ls hii2 hsi2 hB6  Y hl
      refine lv_iload_n X.1 X.2.1 d_macKey_2 rfl (lv_at hl 0 rfl) ?_
      refine lv_bipush (v := (nI 64)) X.1 X.2.1 d_macKey_3 (by decide) ?_
      refine lv_icmp_ge (tgt := 38) X.1 X.2.1 d_macKey_5 (by decide) (fun c9 => absurd c9 ?_) (fun c9 => ?_)
      · (rw [nI_leI (by omega) (by omega)] <;> omega)
      rw [nI_leI (by omega) (by omega)] at c9
      refine lv_aload_n X.1 X.2.1 d_macKey_8 rfl (lv_at hl 1 rfl) ?_
      refine m_get X Y 11 (by decide) lk_macKey (gf_macKey _ _ _) rfl d_macKey_9 ?_
      refine lv_iload_n X.1 X.2.1 d_macKey_12 rfl (lv_at hl 0 rfl) ?_
      have jn11 : ∀ w10 : Int32, W p l e (mR 3 75) s m AV below meth c H locs 0 0 QQ (F0 m 31 ls [.int w10, .int (nI i2), .ref (q 11)]) := by
        intro w10
        refine m_bast X Y (aw_macKey _ _ _ _ _ _ _) (vp_in_nI (by omega) (by decide)) (sw_macKey _ _ _ _ _ _ _ _) d_macKey_31 (fun H locs Y => ?_)
        generalize (upd (B5 11) ((nI i2)).toNatClampNeg (vp_nar .byte w10)) = f12 at Y
        refine lv_iinc (v := (nI (i2 + 1))) (lv' := [(3, .int (nI (i2 + 1))), (0, .ref h), (1, .ref (q 31)), (2, .int (nI n))]) X.1 X.2.1 d_macKey_32 hl (k := 0) rfl (nI_add _ 1) (by decide) rfl (fun ls hl => ?_)
        refine lv_goto (tgt := 2) X.1 X.2.1 d_macKey_35 (by decide) ?_
        exact ih3 (i2 + 1) (upB B5 11 f12) _ _ _ (by omega) (by omega) (fun j h11 => ((if_neg h11).trans (hB6 j h11)))  Y (lv_sub hl [0, 1, 2, 3] rfl)
      refine lv_iload_n X.1 X.2.1 d_macKey_13 rfl (lv_at hl 3 rfl) ?_
      refine lv_bipush (v := (nI 64)) X.1 X.2.1 d_macKey_14 (by decide) ?_
      refine lv_icmp_gt (tgt := 30) X.1 X.2.1 d_macKey_16 (by decide) (fun c13 => absurd c13 ?_) (fun c13 => ?_)
      · (rw [nI_ltI (by omega) (by omega)] <;> omega)
      rw [nI_ltI (by omega) (by omega)] at c13
      refine lv_iload_n X.1 X.2.1 d_macKey_19 rfl (lv_at hl 0 rfl) ?_
      refine lv_iload_n X.1 X.2.1 d_macKey_20 rfl (lv_at hl 3 rfl) ?_
      refine lv_icmp_ge (tgt := 30) X.1 X.2.1 d_macKey_21 (by decide) (fun c14 => ?_) (fun c14 => ?_)
      · skip
        rw [nI_leI (by omega) (by omega)] at c14
        refine lv_iconst (v := (nI 0)) X.1 X.2.1 d_macKey_30 (by decide) ?_
        exact jn11 _
      · skip
        rw [nI_leI (by omega) (by omega)] at c14
        refine lv_aload_n X.1 X.2.1 d_macKey_24 rfl (lv_at hl 2 rfl) ?_
        refine lv_iload_n X.1 X.2.1 d_macKey_25 rfl (lv_at hl 0 rfl) ?_
        refine m_bald X Y (aw_seed _ _ _ _ _ _ _) (vp_in_nI (by omega) (by decide)) d_macKey_26 ?_
        refine t_any (fun v15 => ?_)
        refine lv_goto (tgt := 31) X.1 X.2.1 d_macKey_27 (by decide) ?_
        exact jn11 _
  exact lp4 (64) 0 B _ _ _ (by omega) (by omega) (fun j h11 => rfl)  Y (lv_sub hl [0, 1, 2, 3] rfl)
set_option maxHeartbeats 4000000 in
set_option maxRecDepth 100000 in
theorem c_macKey_use (l : Launch) (D : mD) (E : mE) (h : Nat) (q : Nat → Nat) (sz : Nat) (I : Nat → Int32) (J : Nat → Int64) (B : Nat → Nat → Int32) (G : Nat → Nat → Int64) (n : Nat) (hn : n ≤ 32) : Met l y_macKey (k_macKey :: lw_tg) (mR 3 75) (va_Pc [.ref h, .ref (q 23), .int (nI n)] (mPre D E h q (I, J, B, G) sz)) (va_Qv (fun (u : mS) => (∀ j, u.1 j = I j) ∧ u.2.1 = J ∧ (∀ j, j ≠ 11 → u.2.2.1 j = B j) ∧ u.2.2.2 = G) (mPost D E h q (mA E h q sz)) (mA E h q sz)) 0 0 (mA E h q sz) := by
  refine m_enter (by decide) rfl (Nat.le_of_ble_eq_true rfl) (fun p e s m below meth c ls AV QQ H locs hQQ X Y hZ hA hr hlk hml hl => ?_)
  have Y : mH D E (mA E h q sz) s.heap h q I J B G H locs := Y
  have hl : lv_has ls 4 [(0, .ref h), (1, .ref (q 23)), (2, .int (nI n))] := hl
  refine lv_iconst (v := (nI 0)) X.1 X.2.1 d_macKey_0 (by decide) ?_
  refine lv_istore_n (lv' := [(3, .int (nI 0)), (0, .ref h), (1, .ref (q 23)), (2, .int (nI n))]) X.1 X.2.1 d_macKey_1 rfl hl (by decide) rfl (fun ls hl => ?_)
  have lp4 : ∀ (n1 i2 : Nat) (B5 : Nat → Nat → Int32) (H : Heap) (locs : List Loc) (ls : Array Slot), i2 + n1 = 64 → 0 ≤ i2 → (∀ j, j ≠ 11 → B5 j = B j) → mH D E (mA E h q sz) s.heap h q I J B5 G H locs → lv_has ls 4 [(3, .int (nI i2)), (0, .ref h), (1, .ref (q 23)), (2, .int (nI n))] → W p l e (mR 3 75) s m AV below meth c H locs 0 0 QQ (F0 m 2 ls []) := by
    intro n1
    induction n1 with
    | zero =>
      intro i2 B5 H locs ls hii2 hsi2 hB6  Y hl
      refine lv_iload_n X.1 X.2.1 d_macKey_2 rfl (lv_at hl 0 rfl) ?_
      refine lv_bipush (v := (nI 64)) X.1 X.2.1 d_macKey_3 (by decide) ?_
      refine lv_icmp_ge (tgt := 38) X.1 X.2.1 d_macKey_5 (by decide) (fun c7 => ?_) (fun c7 => absurd ?_ c7)
      rotate_left
      · (rw [nI_leI (by omega) (by omega)] <;> omega)
      rw [nI_leI (by omega) (by omega)] at c7
      refine lv_iload_n X.1 X.2.1 d_macKey_38 rfl (lv_at hl 3 rfl) ?_
      refine lv_bipush (v := (nI 64)) X.1 X.2.1 d_macKey_39 (by decide) ?_
      refine lv_icmp_gt (tgt := 45) X.1 X.2.1 d_macKey_41 (by decide) (fun c8 => absurd c8 ?_) (fun c8 => ?_)
      · (rw [nI_ltI (by omega) (by omega)] <;> omega)
      rw [nI_ltI (by omega) (by omega)] at c8
      exact m_retv hQQ X Y hr hlk ⟨(fun j  => rfl), rfl, (fun j h11 => (hB6 j h11)), rfl⟩ d_macKey_44
    | succ n1 ih3 =>
      intro i2 B5 H locs ls hii2 hsi2 hB6  Y hl
      refine lv_iload_n X.1 X.2.1 d_macKey_2 rfl (lv_at hl 0 rfl) ?_
      refine lv_bipush (v := (nI 64)) X.1 X.2.1 d_macKey_3 (by decide) ?_
      refine lv_icmp_ge (tgt := 38) X.1 X.2.1 d_macKey_5 (by decide) (fun c9 => absurd c9 ?_) (fun c9 => ?_)
      · (rw [nI_leI (by omega) (by omega)] <;> omega)
      rw [nI_leI (by omega) (by omega)] at c9
      refine lv_aload_n X.1 X.2.1 d_macKey_8 rfl (lv_at hl 1 rfl) ?_
      refine m_get X Y 11 (by decide) lk_macKey (gf_macKey _ _ _) rfl d_macKey_9 ?_
      refine lv_iload_n X.1 X.2.1 d_macKey_12 rfl (lv_at hl 0 rfl) ?_
      have jn11 : ∀ w10 : Int32, W p l e (mR 3 75) s m AV below meth c H locs 0 0 QQ (F0 m 31 ls [.int w10, .int (nI i2), .ref (q 11)]) := by
        intro w10
        refine m_bast X Y (aw_macKey _ _ _ _ _ _ _) (vp_in_nI (by omega) (by decide)) (sw_macKey _ _ _ _ _ _ _ _) d_macKey_31 (fun H locs Y => ?_)
        generalize (upd (B5 11) ((nI i2)).toNatClampNeg (vp_nar .byte w10)) = f12 at Y
        refine lv_iinc (v := (nI (i2 + 1))) (lv' := [(3, .int (nI (i2 + 1))), (0, .ref h), (1, .ref (q 23)), (2, .int (nI n))]) X.1 X.2.1 d_macKey_32 hl (k := 0) rfl (nI_add _ 1) (by decide) rfl (fun ls hl => ?_)
        refine lv_goto (tgt := 2) X.1 X.2.1 d_macKey_35 (by decide) ?_
        exact ih3 (i2 + 1) (upB B5 11 f12) _ _ _ (by omega) (by omega) (fun j h11 => ((if_neg h11).trans (hB6 j h11)))  Y (lv_sub hl [0, 1, 2, 3] rfl)
      refine lv_iload_n X.1 X.2.1 d_macKey_13 rfl (lv_at hl 3 rfl) ?_
      refine lv_bipush (v := (nI 64)) X.1 X.2.1 d_macKey_14 (by decide) ?_
      refine lv_icmp_gt (tgt := 30) X.1 X.2.1 d_macKey_16 (by decide) (fun c13 => absurd c13 ?_) (fun c13 => ?_)
      · (rw [nI_ltI (by omega) (by omega)] <;> omega)
      rw [nI_ltI (by omega) (by omega)] at c13
      refine lv_iload_n X.1 X.2.1 d_macKey_19 rfl (lv_at hl 0 rfl) ?_
      refine lv_iload_n X.1 X.2.1 d_macKey_20 rfl (lv_at hl 3 rfl) ?_
      refine lv_icmp_ge (tgt := 30) X.1 X.2.1 d_macKey_21 (by decide) (fun c14 => ?_) (fun c14 => ?_)
      · skip
        rw [nI_leI (by omega) (by omega)] at c14
        refine lv_iconst (v := (nI 0)) X.1 X.2.1 d_macKey_30 (by decide) ?_
        exact jn11 _
      · skip
        rw [nI_leI (by omega) (by omega)] at c14
        refine lv_aload_n X.1 X.2.1 d_macKey_24 rfl (lv_at hl 2 rfl) ?_
        refine lv_iload_n X.1 X.2.1 d_macKey_25 rfl (lv_at hl 0 rfl) ?_
        refine m_bald X Y (aw_use _ _ _ _ _ _ _) (vp_in_nI (by omega) (by decide)) d_macKey_26 ?_
        refine t_any (fun v15 => ?_)
        refine lv_goto (tgt := 31) X.1 X.2.1 d_macKey_27 (by decide) ?_
        exact jn11 _
  exact lp4 (64) 0 B _ _ _ (by omega) (by omega) (fun j h11 => rfl)  Y (lv_sub hl [0, 1, 2, 3] rfl)
