abbrev b_M_toRoom : ByteArray := prog_14_method_135_code
def y_M_toRoom : MethodName := ⟨R_M, "toRoom", "()I"⟩
abbrev k_M_toRoom : Cond := .code y_M_toRoom b_M_toRoom 3 (some .int)
theorem ki_M_toRoom : k_M_toRoom ∈ lw_tg := in_t 2771 (by decide +kernel)
theorem ks_M_toRoom : Cond.instanceMethod y_M_toRoom ∈ lw_tg := in_t 2770 (by decide +kernel)
theorem kx_M_toRoom : Cond.selects R_M y_M_toRoom y_M_toRoom ∈ lw_tg := List.mem_filter.mpr ⟨List.mem_append_left _ (List.mem_of_getElem? (i := 176) (by decide +kernel)), rfl⟩
theorem kl_M_toRoom : Cond.methodLink R_M 943 y_M_toRoom ∈ lw_tg := in_t 2768 (by decide +kernel)
theorem hd_M_toRoom : y_M_toRoom.cls = R_M ∧ y_M_toRoom.cls ≠ "java/lang/invoke/MethodHandle" ∧ y_M_toRoom.cls ≠ "java/lang/invoke/VarHandle" ∧ (parseMethodDescriptor y_M_toRoom.desc).map (fun d => d.parameters.length) = some 0 := by decide +kernel
theorem d_M_toRoom_0 : decode b_M_toRoom 0 = .ok (.ldc 9, 2) := by decide +kernel
theorem d_M_toRoom_2 : decode b_M_toRoom 2 = .ok (.aload_n 0, 1) := by decide +kernel
theorem d_M_toRoom_3 : decode b_M_toRoom 3 = .ok (.getfield 553, 3) := by decide +kernel
theorem d_M_toRoom_6 : decode b_M_toRoom 6 = .ok (.isub, 1) := by decide +kernel
theorem d_M_toRoom_7 : decode b_M_toRoom 7 = .ok (.istore_n 1, 1) := by decide +kernel
theorem d_M_toRoom_8 : decode b_M_toRoom 8 = .ok (.iconst 0, 1) := by decide +kernel
theorem d_M_toRoom_9 : decode b_M_toRoom 9 = .ok (.istore_n 2, 1) := by decide +kernel
theorem d_M_toRoom_10 : decode b_M_toRoom 10 = .ok (.iload_n 2, 1) := by decide +kernel
theorem d_M_toRoom_11 : decode b_M_toRoom 11 = .ok (.iload_n 1, 1) := by decide +kernel
theorem d_M_toRoom_12 : decode b_M_toRoom 12 = .ok (.if_icmp .ge 30, 3) := by decide +kernel
theorem d_M_toRoom_15 : decode b_M_toRoom 15 = .ok (.aload_n 0, 1) := by decide +kernel
theorem d_M_toRoom_16 : decode b_M_toRoom 16 = .ok (.getfield 10, 3) := by decide +kernel
theorem d_M_toRoom_19 : decode b_M_toRoom 19 = .ok (.sipush 13200, 3) := by decide +kernel
theorem d_M_toRoom_22 : decode b_M_toRoom 22 = .ok (.iload_n 2, 1) := by decide +kernel
theorem d_M_toRoom_23 : decode b_M_toRoom 23 = .ok (.iadd, 1) := by decide +kernel
theorem d_M_toRoom_24 : decode b_M_toRoom 24 = .ok (.aload_n 0, 1) := by decide +kernel
theorem d_M_toRoom_25 : decode b_M_toRoom 25 = .ok (.getfield 10, 3) := by decide +kernel
theorem d_M_toRoom_28 : decode b_M_toRoom 28 = .ok (.aload_n 0, 1) := by decide +kernel
theorem d_M_toRoom_29 : decode b_M_toRoom 29 = .ok (.getfield 553, 3) := by decide +kernel
theorem d_M_toRoom_32 : decode b_M_toRoom 32 = .ok (.iload_n 2, 1) := by decide +kernel
theorem d_M_toRoom_33 : decode b_M_toRoom 33 = .ok (.iadd, 1) := by decide +kernel
theorem d_M_toRoom_34 : decode b_M_toRoom 34 = .ok (.baload, 1) := by decide +kernel
theorem d_M_toRoom_35 : decode b_M_toRoom 35 = .ok (.bastore, 1) := by decide +kernel
theorem d_M_toRoom_36 : decode b_M_toRoom 36 = .ok (.iinc 2 1, 3) := by decide +kernel
theorem d_M_toRoom_39 : decode b_M_toRoom 39 = .ok (.goto (-29), 3) := by decide +kernel
theorem d_M_toRoom_42 : decode b_M_toRoom 42 = .ok (.iload_n 1, 1) := by decide +kernel
theorem d_M_toRoom_43 : decode b_M_toRoom 43 = .ok (.ireturn, 1) := by decide +kernel
abbrev b_M_authenticator : ByteArray := prog_14_method_136_code
def y_M_authenticator : MethodName := ⟨R_M, "authenticator", "(IIJZ)V"⟩
abbrev k_M_authenticator : Cond := .code y_M_authenticator b_M_authenticator 7 none
theorem ki_M_authenticator : k_M_authenticator ∈ lw_tg := in_t 2775 (by decide +kernel)
theorem ks_M_authenticator : Cond.instanceMethod y_M_authenticator ∈ lw_tg := in_t 2774 (by decide +kernel)
theorem kx_M_authenticator : Cond.selects R_M y_M_authenticator y_M_authenticator ∈ lw_tg := List.mem_filter.mpr ⟨List.mem_append_left _ (List.mem_of_getElem? (i := 177) (by decide +kernel)), rfl⟩
theorem kl_M_authenticator : Cond.methodLink R_M 946 y_M_authenticator ∈ lw_tg := in_t 2772 (by decide +kernel)
theorem hd_M_authenticator : y_M_authenticator.cls = R_M ∧ y_M_authenticator.cls ≠ "java/lang/invoke/MethodHandle" ∧ y_M_authenticator.cls ≠ "java/lang/invoke/VarHandle" ∧ (parseMethodDescriptor y_M_authenticator.desc).map (fun d => d.parameters.length) = some 4 := by decide +kernel
theorem d_M_authenticator_0 : decode b_M_authenticator 0 = .ok (.aload_n 0, 1) := by decide +kernel
theorem d_M_authenticator_1 : decode b_M_authenticator 1 = .ok (.iconst 5, 1) := by decide +kernel
theorem d_M_authenticator_2 : decode b_M_authenticator 2 = .ok (.lload_n 3, 1) := by decide +kernel
theorem d_M_authenticator_3 : decode b_M_authenticator 3 = .ok (.invokevirtual 884, 3) := by decide +kernel
theorem d_M_authenticator_6 : decode b_M_authenticator 6 = .ok (.aload_n 0, 1) := by decide +kernel
theorem d_M_authenticator_7 : decode b_M_authenticator 7 = .ok (.iconst 4, 1) := by decide +kernel
theorem d_M_authenticator_8 : decode b_M_authenticator 8 = .ok (.aload_n 0, 1) := by decide +kernel
theorem d_M_authenticator_9 : decode b_M_authenticator 9 = .ok (.getfield 178, 3) := by decide +kernel
theorem d_M_authenticator_12 : decode b_M_authenticator 12 = .ok (.iload_n 1, 1) := by decide +kernel
theorem d_M_authenticator_13 : decode b_M_authenticator 13 = .ok (.iaload, 1) := by decide +kernel
theorem d_M_authenticator_14 : decode b_M_authenticator 14 = .ok (.ldc_w 644, 3) := by decide +kernel
theorem d_M_authenticator_17 : decode b_M_authenticator 17 = .ok (.irem, 1) := by decide +kernel
theorem d_M_authenticator_18 : decode b_M_authenticator 18 = .ok (.i2l, 1) := by decide +kernel
theorem d_M_authenticator_19 : decode b_M_authenticator 19 = .ok (.invokevirtual 588, 3) := by decide +kernel
theorem d_M_authenticator_22 : decode b_M_authenticator 22 = .ok (.iload 5, 2) := by decide +kernel
theorem d_M_authenticator_24 : decode b_M_authenticator 24 = .ok (.ifCond .eq 50, 3) := by decide +kernel
theorem d_M_authenticator_27 : decode b_M_authenticator 27 = .ok (.aload_n 0, 1) := by decide +kernel
theorem d_M_authenticator_28 : decode b_M_authenticator 28 = .ok (.getfield 553, 3) := by decide +kernel
theorem d_M_authenticator_31 : decode b_M_authenticator 31 = .ok (.istore 6, 2) := by decide +kernel
theorem d_M_authenticator_33 : decode b_M_authenticator 33 = .ok (.aload_n 0, 1) := by decide +kernel
theorem d_M_authenticator_34 : decode b_M_authenticator 34 = .ok (.iconst 1, 1) := by decide +kernel
theorem d_M_authenticator_35 : decode b_M_authenticator 35 = .ok (.aload_n 0, 1) := by decide +kernel
theorem d_M_authenticator_36 : decode b_M_authenticator 36 = .ok (.getfield 287, 3) := by decide +kernel
theorem d_M_authenticator_39 : decode b_M_authenticator 39 = .ok (.iconst 0, 1) := by decide +kernel
theorem d_M_authenticator_40 : decode b_M_authenticator 40 = .ok (.bipush 12, 2) := by decide +kernel
theorem d_M_authenticator_42 : decode b_M_authenticator 42 = .ok (.invokevirtual 584, 3) := by decide +kernel
theorem d_M_authenticator_45 : decode b_M_authenticator 45 = .ok (.aload_n 0, 1) := by decide +kernel
theorem d_M_authenticator_46 : decode b_M_authenticator 46 = .ok (.iconst 0, 1) := by decide +kernel
theorem d_M_authenticator_47 : decode b_M_authenticator 47 = .ok (.aload_n 0, 1) := by decide +kernel
theorem d_M_authenticator_48 : decode b_M_authenticator 48 = .ok (.getfield 200, 3) := by decide +kernel
theorem d_M_authenticator_51 : decode b_M_authenticator 51 = .ok (.iload_n 2, 1) := by decide +kernel
theorem d_M_authenticator_52 : decode b_M_authenticator 52 = .ok (.iaload, 1) := by decide +kernel
theorem d_M_authenticator_53 : decode b_M_authenticator 53 = .ok (.iconst 2, 1) := by decide +kernel
theorem d_M_authenticator_54 : decode b_M_authenticator 54 = .ok (.isub, 1) := by decide +kernel
theorem d_M_authenticator_55 : decode b_M_authenticator 55 = .ok (.i2l, 1) := by decide +kernel
theorem d_M_authenticator_56 : decode b_M_authenticator 56 = .ok (.invokevirtual 588, 3) := by decide +kernel
theorem d_M_authenticator_59 : decode b_M_authenticator 59 = .ok (.aload_n 0, 1) := by decide +kernel
theorem d_M_authenticator_60 : decode b_M_authenticator 60 = .ok (.bipush 48, 2) := by decide +kernel
theorem d_M_authenticator_62 : decode b_M_authenticator 62 = .ok (.iload 6, 2) := by decide +kernel
theorem d_M_authenticator_64 : decode b_M_authenticator 64 = .ok (.invokevirtual 559, 3) := by decide +kernel
theorem d_M_authenticator_67 : decode b_M_authenticator 67 = .ok (.aload_n 0, 1) := by decide +kernel
theorem d_M_authenticator_68 : decode b_M_authenticator 68 = .ok (.iconst 3, 1) := by decide +kernel
theorem d_M_authenticator_69 : decode b_M_authenticator 69 = .ok (.iload 6, 2) := by decide +kernel
theorem d_M_authenticator_71 : decode b_M_authenticator 71 = .ok (.invokevirtual 567, 3) := by decide +kernel
theorem d_M_authenticator_74 : decode b_M_authenticator 74 = .ok (.aload_n 0, 1) := by decide +kernel
theorem d_M_authenticator_75 : decode b_M_authenticator 75 = .ok (.iconst 2, 1) := by decide +kernel
theorem d_M_authenticator_76 : decode b_M_authenticator 76 = .ok (.aload_n 0, 1) := by decide +kernel
theorem d_M_authenticator_77 : decode b_M_authenticator 77 = .ok (.getfield 215, 3) := by decide +kernel
theorem d_M_authenticator_80 : decode b_M_authenticator 80 = .ok (.sipush 400, 3) := by decide +kernel
theorem d_M_authenticator_83 : decode b_M_authenticator 83 = .ok (.iload_n 2, 1) := by decide +kernel
theorem d_M_authenticator_84 : decode b_M_authenticator 84 = .ok (.imul, 1) := by decide +kernel
theorem d_M_authenticator_85 : decode b_M_authenticator 85 = .ok (.aload_n 0, 1) := by decide +kernel
theorem d_M_authenticator_86 : decode b_M_authenticator 86 = .ok (.getfield 218, 3) := by decide +kernel
theorem d_M_authenticator_89 : decode b_M_authenticator 89 = .ok (.iload_n 2, 1) := by decide +kernel
theorem d_M_authenticator_90 : decode b_M_authenticator 90 = .ok (.iaload, 1) := by decide +kernel
theorem d_M_authenticator_91 : decode b_M_authenticator 91 = .ok (.iadd, 1) := by decide +kernel
theorem d_M_authenticator_92 : decode b_M_authenticator 92 = .ok (.aload_n 0, 1) := by decide +kernel
theorem d_M_authenticator_93 : decode b_M_authenticator 93 = .ok (.getfield 221, 3) := by decide +kernel
theorem d_M_authenticator_96 : decode b_M_authenticator 96 = .ok (.iload_n 2, 1) := by decide +kernel
theorem d_M_authenticator_97 : decode b_M_authenticator 97 = .ok (.iaload, 1) := by decide +kernel
theorem d_M_authenticator_98 : decode b_M_authenticator 98 = .ok (.invokevirtual 953, 3) := by decide +kernel
theorem d_M_authenticator_101 : decode b_M_authenticator 101 = .ok (.aload_n 0, 1) := by decide +kernel
theorem d_M_authenticator_102 : decode b_M_authenticator 102 = .ok (.iconst 1, 1) := by decide +kernel
theorem d_M_authenticator_103 : decode b_M_authenticator 103 = .ok (.aload_n 0, 1) := by decide +kernel
theorem d_M_authenticator_104 : decode b_M_authenticator 104 = .ok (.getfield 215, 3) := by decide +kernel
theorem d_M_authenticator_107 : decode b_M_authenticator 107 = .ok (.sipush 400, 3) := by decide +kernel
theorem d_M_authenticator_110 : decode b_M_authenticator 110 = .ok (.iload_n 2, 1) := by decide +kernel
theorem d_M_authenticator_111 : decode b_M_authenticator 111 = .ok (.imul, 1) := by decide +kernel
theorem d_M_authenticator_112 : decode b_M_authenticator 112 = .ok (.aload_n 0, 1) := by decide +kernel
theorem d_M_authenticator_113 : decode b_M_authenticator 113 = .ok (.getfield 218, 3) := by decide +kernel
theorem d_M_authenticator_116 : decode b_M_authenticator 116 = .ok (.iload_n 2, 1) := by decide +kernel
theorem d_M_authenticator_117 : decode b_M_authenticator 117 = .ok (.iaload, 1) := by decide +kernel
theorem d_M_authenticator_118 : decode b_M_authenticator 118 = .ok (.invokevirtual 953, 3) := by decide +kernel
theorem d_M_authenticator_121 : decode b_M_authenticator 121 = .ok (.aload_n 0, 1) := by decide +kernel
theorem d_M_authenticator_122 : decode b_M_authenticator 122 = .ok (.iconst 0, 1) := by decide +kernel
theorem d_M_authenticator_123 : decode b_M_authenticator 123 = .ok (.ldc2_w 669, 3) := by decide +kernel
theorem d_M_authenticator_126 : decode b_M_authenticator 126 = .ok (.invokevirtual 588, 3) := by decide +kernel
theorem d_M_authenticator_129 : decode b_M_authenticator 129 = .ok (.aload_n 0, 1) := by decide +kernel
theorem d_M_authenticator_130 : decode b_M_authenticator 130 = .ok (.bipush 48, 2) := by decide +kernel
theorem d_M_authenticator_132 : decode b_M_authenticator 132 = .ok (.ldc 9, 2) := by decide +kernel
theorem d_M_authenticator_134 : decode b_M_authenticator 134 = .ok (.invokevirtual 559, 3) := by decide +kernel
theorem d_M_authenticator_137 : decode b_M_authenticator 137 = .ok (.aload_n 0, 1) := by decide +kernel
theorem d_M_authenticator_138 : decode b_M_authenticator 138 = .ok (.bipush 98, 2) := by decide +kernel
theorem d_M_authenticator_140 : decode b_M_authenticator 140 = .ok (.ldc 9, 2) := by decide +kernel
theorem d_M_authenticator_142 : decode b_M_authenticator 142 = .ok (.invokevirtual 559, 3) := by decide +kernel
theorem d_M_authenticator_145 : decode b_M_authenticator 145 = .ok (.return_, 1) := by decide +kernel
abbrev b_M_apReq : ByteArray := prog_14_method_137_code
def y_M_apReq : MethodName := ⟨R_M, "apReq", "(II)V"⟩
abbrev k_M_apReq : Cond := .code y_M_apReq b_M_apReq 3 none
theorem ki_M_apReq : k_M_apReq ∈ lw_tg := in_t 2783 (by decide +kernel)
theorem ks_M_apReq : Cond.instanceMethod y_M_apReq ∈ lw_tg := in_t 2782 (by decide +kernel)
theorem kx_M_apReq : Cond.selects R_M y_M_apReq y_M_apReq ∈ lw_tg := List.mem_filter.mpr ⟨List.mem_append_left _ (List.mem_of_getElem? (i := 179) (by decide +kernel)), rfl⟩
theorem kl_M_apReq : Cond.methodLink R_M 950 y_M_apReq ∈ lw_tg := in_t 2780 (by decide +kernel)
theorem hd_M_apReq : y_M_apReq.cls = R_M ∧ y_M_apReq.cls ≠ "java/lang/invoke/MethodHandle" ∧ y_M_apReq.cls ≠ "java/lang/invoke/VarHandle" ∧ (parseMethodDescriptor y_M_apReq.desc).map (fun d => d.parameters.length) = some 2 := by decide +kernel
theorem d_M_apReq_0 : decode b_M_apReq 0 = .ok (.aload_n 0, 1) := by decide +kernel
theorem d_M_apReq_1 : decode b_M_apReq 1 = .ok (.invokevirtual 861, 3) := by decide +kernel
theorem d_M_apReq_4 : decode b_M_apReq 4 = .ok (.aload_n 0, 1) := by decide +kernel
theorem d_M_apReq_5 : decode b_M_apReq 5 = .ok (.iconst 4, 1) := by decide +kernel
theorem d_M_apReq_6 : decode b_M_apReq 6 = .ok (.aload_n 0, 1) := by decide +kernel
theorem d_M_apReq_7 : decode b_M_apReq 7 = .ok (.getfield 200, 3) := by decide +kernel
theorem d_M_apReq_10 : decode b_M_apReq 10 = .ok (.iload_n 1, 1) := by decide +kernel
theorem d_M_apReq_11 : decode b_M_apReq 11 = .ok (.iaload, 1) := by decide +kernel
theorem d_M_apReq_12 : decode b_M_apReq 12 = .ok (.lconst 0, 1) := by decide +kernel
theorem d_M_apReq_13 : decode b_M_apReq 13 = .ok (.invokevirtual 870, 3) := by decide +kernel
theorem d_M_apReq_16 : decode b_M_apReq 16 = .ok (.aload_n 0, 1) := by decide +kernel
theorem d_M_apReq_17 : decode b_M_apReq 17 = .ok (.iconst 3, 1) := by decide +kernel
theorem d_M_apReq_18 : decode b_M_apReq 18 = .ok (.aload_n 0, 1) := by decide +kernel
theorem d_M_apReq_19 : decode b_M_apReq 19 = .ok (.getfield 188, 3) := by decide +kernel
theorem d_M_apReq_22 : decode b_M_apReq 22 = .ok (.sipush 4200, 3) := by decide +kernel
theorem d_M_apReq_25 : decode b_M_apReq 25 = .ok (.iload_n 1, 1) := by decide +kernel
theorem d_M_apReq_26 : decode b_M_apReq 26 = .ok (.imul, 1) := by decide +kernel
theorem d_M_apReq_27 : decode b_M_apReq 27 = .ok (.aload_n 0, 1) := by decide +kernel
theorem d_M_apReq_28 : decode b_M_apReq 28 = .ok (.getfield 194, 3) := by decide +kernel
theorem d_M_apReq_31 : decode b_M_apReq 31 = .ok (.iload_n 1, 1) := by decide +kernel
theorem d_M_apReq_32 : decode b_M_apReq 32 = .ok (.iaload, 1) := by decide +kernel
theorem d_M_apReq_33 : decode b_M_apReq 33 = .ok (.invokevirtual 953, 3) := by decide +kernel
theorem d_M_apReq_36 : decode b_M_apReq 36 = .ok (.aload_n 0, 1) := by decide +kernel
theorem d_M_apReq_37 : decode b_M_apReq 37 = .ok (.iconst 2, 1) := by decide +kernel
theorem d_M_apReq_38 : decode b_M_apReq 38 = .ok (.iload_n 2, 1) := by decide +kernel
theorem d_M_apReq_39 : decode b_M_apReq 39 = .ok (.invokevirtual 890, 3) := by decide +kernel
theorem d_M_apReq_42 : decode b_M_apReq 42 = .ok (.aload_n 0, 1) := by decide +kernel
theorem d_M_apReq_43 : decode b_M_apReq 43 = .ok (.iconst 1, 1) := by decide +kernel
theorem d_M_apReq_44 : decode b_M_apReq 44 = .ok (.ldc2_w 799, 3) := by decide +kernel
theorem d_M_apReq_47 : decode b_M_apReq 47 = .ok (.invokevirtual 588, 3) := by decide +kernel
theorem d_M_apReq_50 : decode b_M_apReq 50 = .ok (.aload_n 0, 1) := by decide +kernel
theorem d_M_apReq_51 : decode b_M_apReq 51 = .ok (.iconst 0, 1) := by decide +kernel
theorem d_M_apReq_52 : decode b_M_apReq 52 = .ok (.ldc2_w 669, 3) := by decide +kernel
theorem d_M_apReq_55 : decode b_M_apReq 55 = .ok (.invokevirtual 588, 3) := by decide +kernel
theorem d_M_apReq_58 : decode b_M_apReq 58 = .ok (.aload_n 0, 1) := by decide +kernel
theorem d_M_apReq_59 : decode b_M_apReq 59 = .ok (.bipush 48, 2) := by decide +kernel
theorem d_M_apReq_61 : decode b_M_apReq 61 = .ok (.ldc 9, 2) := by decide +kernel
theorem d_M_apReq_63 : decode b_M_apReq 63 = .ok (.invokevirtual 559, 3) := by decide +kernel
theorem d_M_apReq_66 : decode b_M_apReq 66 = .ok (.aload_n 0, 1) := by decide +kernel
theorem d_M_apReq_67 : decode b_M_apReq 67 = .ok (.bipush 110, 2) := by decide +kernel
theorem d_M_apReq_69 : decode b_M_apReq 69 = .ok (.ldc 9, 2) := by decide +kernel
theorem d_M_apReq_71 : decode b_M_apReq 71 = .ok (.invokevirtual 559, 3) := by decide +kernel
theorem d_M_apReq_74 : decode b_M_apReq 74 = .ok (.return_, 1) := by decide +kernel
abbrev b_M_isParts : ByteArray := prog_14_method_138_code
def y_M_isParts : MethodName := ⟨R_M, "isParts", "(II[BII)Z"⟩
abbrev k_M_isParts : Cond := .code y_M_isParts b_M_isParts 8 (some .boolean)
theorem ki_M_isParts : k_M_isParts ∈ lw_tg := in_t 2799 (by decide +kernel)
theorem ks_M_isParts : Cond.instanceMethod y_M_isParts ∈ lw_tg := in_t 2798 (by decide +kernel)
theorem kx_M_isParts : Cond.selects R_M y_M_isParts y_M_isParts ∈ lw_tg := List.mem_filter.mpr ⟨List.mem_append_left _ (List.mem_of_getElem? (i := 181) (by decide +kernel)), rfl⟩
theorem kl_M_isParts : Cond.methodLink R_M 967 y_M_isParts ∈ lw_tg := in_t 2796 (by decide +kernel)
theorem hd_M_isParts : y_M_isParts.cls = R_M ∧ y_M_isParts.cls ≠ "java/lang/invoke/MethodHandle" ∧ y_M_isParts.cls ≠ "java/lang/invoke/VarHandle" ∧ (parseMethodDescriptor y_M_isParts.desc).map (fun d => d.parameters.length) = some 5 := by decide +kernel
theorem d_M_isParts_0 : decode b_M_isParts 0 = .ok (.aload_n 0, 1) := by decide +kernel
theorem d_M_isParts_1 : decode b_M_isParts 1 = .ok (.iload_n 1, 1) := by decide +kernel
theorem d_M_isParts_2 : decode b_M_isParts 2 = .ok (.iload_n 2, 1) := by decide +kernel
theorem d_M_isParts_3 : decode b_M_isParts 3 = .ok (.invokevirtual 546, 3) := by decide +kernel
theorem d_M_isParts_6 : decode b_M_isParts 6 = .ok (.istore 6, 2) := by decide +kernel
theorem d_M_isParts_8 : decode b_M_isParts 8 = .ok (.aload_n 0, 1) := by decide +kernel
theorem d_M_isParts_9 : decode b_M_isParts 9 = .ok (.bipush 11, 2) := by decide +kernel
theorem d_M_isParts_11 : decode b_M_isParts 11 = .ok (.iconst 1, 1) := by decide +kernel
theorem d_M_isParts_12 : decode b_M_isParts 12 = .ok (.invokevirtual 539, 3) := by decide +kernel
theorem d_M_isParts_15 : decode b_M_isParts 15 = .ok (.istore 7, 2) := by decide +kernel
theorem d_M_isParts_17 : decode b_M_isParts 17 = .ok (.aload_n 0, 1) := by decide +kernel
theorem d_M_isParts_18 : decode b_M_isParts 18 = .ok (.invokevirtual 861, 3) := by decide +kernel
theorem d_M_isParts_21 : decode b_M_isParts 21 = .ok (.aload_n 0, 1) := by decide +kernel
theorem d_M_isParts_22 : decode b_M_isParts 22 = .ok (.aload_n 3, 1) := by decide +kernel
theorem d_M_isParts_23 : decode b_M_isParts 23 = .ok (.iload 4, 2) := by decide +kernel
theorem d_M_isParts_25 : decode b_M_isParts 25 = .ok (.iload 5, 2) := by decide +kernel
theorem d_M_isParts_27 : decode b_M_isParts 27 = .ok (.invokevirtual 595, 3) := by decide +kernel
theorem d_M_isParts_30 : decode b_M_isParts 30 = .ok (.aload_n 0, 1) := by decide +kernel
theorem d_M_isParts_31 : decode b_M_isParts 31 = .ok (.bipush 48, 2) := by decide +kernel
theorem d_M_isParts_33 : decode b_M_isParts 33 = .ok (.ldc 9, 2) := by decide +kernel
theorem d_M_isParts_35 : decode b_M_isParts 35 = .ok (.invokevirtual 559, 3) := by decide +kernel
theorem d_M_isParts_38 : decode b_M_isParts 38 = .ok (.aload_n 0, 1) := by decide +kernel
theorem d_M_isParts_39 : decode b_M_isParts 39 = .ok (.iload 6, 2) := by decide +kernel
theorem d_M_isParts_41 : decode b_M_isParts 41 = .ok (.iload 7, 2) := by decide +kernel
theorem d_M_isParts_43 : decode b_M_isParts 43 = .ok (.aload_n 0, 1) := by decide +kernel
theorem d_M_isParts_44 : decode b_M_isParts 44 = .ok (.getfield 553, 3) := by decide +kernel
theorem d_M_isParts_47 : decode b_M_isParts 47 = .ok (.ldc 9, 2) := by decide +kernel
theorem d_M_isParts_49 : decode b_M_isParts 49 = .ok (.invokevirtual 549, 3) := by decide +kernel
theorem d_M_isParts_52 : decode b_M_isParts 52 = .ok (.ireturn, 1) := by decide +kernel
abbrev b_M_isBytes : ByteArray := prog_14_method_139_code
def y_M_isBytes : MethodName := ⟨R_M, "isBytes", "(II[BII)Z"⟩
abbrev k_M_isBytes : Cond := .code y_M_isBytes b_M_isBytes 7 (some .boolean)
theorem ki_M_isBytes : k_M_isBytes ∈ lw_tg := in_t 2803 (by decide +kernel)
theorem ks_M_isBytes : Cond.instanceMethod y_M_isBytes ∈ lw_tg := in_t 2802 (by decide +kernel)
theorem kx_M_isBytes : Cond.selects R_M y_M_isBytes y_M_isBytes ∈ lw_tg := List.mem_filter.mpr ⟨List.mem_append_left _ (List.mem_of_getElem? (i := 182) (by decide +kernel)), rfl⟩
theorem kl_M_isBytes : Cond.methodLink R_M 971 y_M_isBytes ∈ lw_tg := in_t 2800 (by decide +kernel)
theorem hd_M_isBytes : y_M_isBytes.cls = R_M ∧ y_M_isBytes.cls ≠ "java/lang/invoke/MethodHandle" ∧ y_M_isBytes.cls ≠ "java/lang/invoke/VarHandle" ∧ (parseMethodDescriptor y_M_isBytes.desc).map (fun d => d.parameters.length) = some 5 := by decide +kernel
theorem d_M_isBytes_0 : decode b_M_isBytes 0 = .ok (.iload_n 2, 1) := by decide +kernel
theorem d_M_isBytes_1 : decode b_M_isBytes 1 = .ok (.iload_n 1, 1) := by decide +kernel
theorem d_M_isBytes_2 : decode b_M_isBytes 2 = .ok (.isub, 1) := by decide +kernel
theorem d_M_isBytes_3 : decode b_M_isBytes 3 = .ok (.iload 5, 2) := by decide +kernel
theorem d_M_isBytes_5 : decode b_M_isBytes 5 = .ok (.if_icmp .eq 5, 3) := by decide +kernel
theorem d_M_isBytes_8 : decode b_M_isBytes 8 = .ok (.iconst 0, 1) := by decide +kernel
theorem d_M_isBytes_9 : decode b_M_isBytes 9 = .ok (.ireturn, 1) := by decide +kernel
theorem d_M_isBytes_10 : decode b_M_isBytes 10 = .ok (.iconst 0, 1) := by decide +kernel
theorem d_M_isBytes_11 : decode b_M_isBytes 11 = .ok (.istore 6, 2) := by decide +kernel
theorem d_M_isBytes_13 : decode b_M_isBytes 13 = .ok (.iload 6, 2) := by decide +kernel
theorem d_M_isBytes_15 : decode b_M_isBytes 15 = .ok (.iload 5, 2) := by decide +kernel
theorem d_M_isBytes_17 : decode b_M_isBytes 17 = .ok (.if_icmp .ge 30, 3) := by decide +kernel
theorem d_M_isBytes_20 : decode b_M_isBytes 20 = .ok (.aload_n 0, 1) := by decide +kernel
theorem d_M_isBytes_21 : decode b_M_isBytes 21 = .ok (.getfield 10, 3) := by decide +kernel
theorem d_M_isBytes_24 : decode b_M_isBytes 24 = .ok (.iload_n 1, 1) := by decide +kernel
theorem d_M_isBytes_25 : decode b_M_isBytes 25 = .ok (.iload 6, 2) := by decide +kernel
theorem d_M_isBytes_27 : decode b_M_isBytes 27 = .ok (.iadd, 1) := by decide +kernel
theorem d_M_isBytes_28 : decode b_M_isBytes 28 = .ok (.baload, 1) := by decide +kernel
theorem d_M_isBytes_29 : decode b_M_isBytes 29 = .ok (.aload_n 3, 1) := by decide +kernel
theorem d_M_isBytes_30 : decode b_M_isBytes 30 = .ok (.iload 4, 2) := by decide +kernel
theorem d_M_isBytes_32 : decode b_M_isBytes 32 = .ok (.iload 6, 2) := by decide +kernel
theorem d_M_isBytes_34 : decode b_M_isBytes 34 = .ok (.iadd, 1) := by decide +kernel
theorem d_M_isBytes_35 : decode b_M_isBytes 35 = .ok (.baload, 1) := by decide +kernel
theorem d_M_isBytes_36 : decode b_M_isBytes 36 = .ok (.if_icmp .eq 5, 3) := by decide +kernel
theorem d_M_isBytes_39 : decode b_M_isBytes 39 = .ok (.iconst 0, 1) := by decide +kernel
theorem d_M_isBytes_40 : decode b_M_isBytes 40 = .ok (.ireturn, 1) := by decide +kernel
theorem d_M_isBytes_41 : decode b_M_isBytes 41 = .ok (.iinc 6 1, 3) := by decide +kernel
theorem d_M_isBytes_44 : decode b_M_isBytes 44 = .ok (.goto (-31), 3) := by decide +kernel
theorem d_M_isBytes_47 : decode b_M_isBytes 47 = .ok (.iconst 1, 1) := by decide +kernel
theorem d_M_isBytes_48 : decode b_M_isBytes 48 = .ok (.ireturn, 1) := by decide +kernel
abbrev b_M_take : ByteArray := prog_14_method_140_code
def y_M_take : MethodName := ⟨R_M, "take", "(I)I"⟩
abbrev k_M_take : Cond := .code y_M_take b_M_take 12 (some .int)
theorem ki_M_take : k_M_take ∈ lw_tg := List.mem_filter.mpr ⟨List.mem_append_right _ (List.mem_append_right _ (List.mem_append_right _ (List.mem_append_right _ (List.mem_append_right _ (List.mem_append_right _ (List.mem_append_right _ (List.mem_append_right _ (List.mem_append_right _ (List.mem_append_right _ (List.mem_append_right _ (List.mem_append_right _ (List.mem_append_left _ (List.mem_of_getElem? (i := 147) rfl))))))))))))), rfl⟩
theorem ks_M_take : Cond.instanceMethod y_M_take ∈ lw_tg := in_t 2785 (by decide +kernel)
theorem kx_M_take : Cond.selects R_M y_M_take y_M_take ∈ lw_tg := in_t 2786 (by decide +kernel)
theorem hd_M_take : y_M_take.cls = R_M ∧ y_M_take.cls ≠ "java/lang/invoke/MethodHandle" ∧ y_M_take.cls ≠ "java/lang/invoke/VarHandle" ∧ (parseMethodDescriptor y_M_take.desc).map (fun d => d.parameters.length) = some 1 := by decide +kernel
theorem d_M_take_0 : decode b_M_take 0 = .ok (.aload_n 0, 1) := by decide +kernel
theorem d_M_take_1 : decode b_M_take 1 = .ok (.getfield 332, 3) := by decide +kernel
theorem d_M_take_4 : decode b_M_take 4 = .ok (.istore_n 2, 1) := by decide +kernel
theorem d_M_take_5 : decode b_M_take 5 = .ok (.aload_n 0, 1) := by decide +kernel
theorem d_M_take_6 : decode b_M_take 6 = .ok (.iconst 0, 1) := by decide +kernel
theorem d_M_take_7 : decode b_M_take 7 = .ok (.putfield 332, 3) := by decide +kernel
theorem d_M_take_10 : decode b_M_take 10 = .ok (.aload_n 0, 1) := by decide +kernel
theorem d_M_take_11 : decode b_M_take 11 = .ok (.iload_n 1, 1) := by decide +kernel
theorem d_M_take_12 : decode b_M_take 12 = .ok (.invokevirtual 916, 3) := by decide +kernel
theorem d_M_take_15 : decode b_M_take 15 = .ok (.ifCond .ne 5, 3) := by decide +kernel
theorem d_M_take_18 : decode b_M_take 18 = .ok (.iconst (-1), 1) := by decide +kernel
theorem d_M_take_19 : decode b_M_take 19 = .ok (.ireturn, 1) := by decide +kernel
theorem d_M_take_20 : decode b_M_take 20 = .ok (.aload_n 0, 1) := by decide +kernel
theorem d_M_take_21 : decode b_M_take 21 = .ok (.getfield 224, 3) := by decide +kernel
theorem d_M_take_24 : decode b_M_take 24 = .ok (.iload_n 1, 1) := by decide +kernel
theorem d_M_take_25 : decode b_M_take 25 = .ok (.iaload, 1) := by decide +kernel
theorem d_M_take_26 : decode b_M_take 26 = .ok (.ifCond .ge 6, 3) := by decide +kernel
theorem d_M_take_29 : decode b_M_take 29 = .ok (.bipush (-3), 2) := by decide +kernel
theorem d_M_take_31 : decode b_M_take 31 = .ok (.ireturn, 1) := by decide +kernel
theorem d_M_take_32 : decode b_M_take 32 = .ok (.aload_n 0, 1) := by decide +kernel
theorem d_M_take_33 : decode b_M_take 33 = .ok (.getfield 224, 3) := by decide +kernel
theorem d_M_take_36 : decode b_M_take 36 = .ok (.iload_n 1, 1) := by decide +kernel
theorem d_M_take_37 : decode b_M_take 37 = .ok (.iaload, 1) := by decide +kernel
theorem d_M_take_38 : decode b_M_take 38 = .ok (.istore_n 3, 1) := by decide +kernel
theorem d_M_take_39 : decode b_M_take 39 = .ok (.aload_n 0, 1) := by decide +kernel
theorem d_M_take_40 : decode b_M_take 40 = .ok (.getfield 224, 3) := by decide +kernel
theorem d_M_take_43 : decode b_M_take 43 = .ok (.iload_n 1, 1) := by decide +kernel
theorem d_M_take_44 : decode b_M_take 44 = .ok (.iconst (-1), 1) := by decide +kernel
theorem d_M_take_45 : decode b_M_take 45 = .ok (.iastore, 1) := by decide +kernel
theorem d_M_take_46 : decode b_M_take 46 = .ok (.iload_n 2, 1) := by decide +kernel
theorem d_M_take_47 : decode b_M_take 47 = .ok (.ifCond .ne 7, 3) := by decide +kernel
theorem d_M_take_50 : decode b_M_take 50 = .ok (.iconst 0, 1) := by decide +kernel
theorem d_M_take_51 : decode b_M_take 51 = .ok (.goto 13, 3) := by decide +kernel
theorem d_M_take_54 : decode b_M_take 54 = .ok (.aload_n 0, 1) := by decide +kernel
theorem d_M_take_55 : decode b_M_take 55 = .ok (.getfield 10, 3) := by decide +kernel
theorem d_M_take_58 : decode b_M_take 58 = .ok (.iconst 0, 1) := by decide +kernel
theorem d_M_take_59 : decode b_M_take 59 = .ok (.baload, 1) := by decide +kernel
theorem d_M_take_60 : decode b_M_take 60 = .ok (.sipush 255, 3) := by decide +kernel
theorem d_M_take_63 : decode b_M_take 63 = .ok (.iand, 1) := by decide +kernel
theorem d_M_take_64 : decode b_M_take 64 = .ok (.istore 4, 2) := by decide +kernel
theorem d_M_take_66 : decode b_M_take 66 = .ok (.iload 4, 2) := by decide +kernel
theorem d_M_take_68 : decode b_M_take 68 = .ok (.bipush 126, 2) := by decide +kernel
theorem d_M_take_70 : decode b_M_take 70 = .ok (.if_icmp .ne 56, 3) := by decide +kernel
theorem d_M_take_73 : decode b_M_take 73 = .ok (.aload_n 0, 1) := by decide +kernel
theorem d_M_take_74 : decode b_M_take 74 = .ok (.bipush 30, 2) := by decide +kernel
theorem d_M_take_76 : decode b_M_take 76 = .ok (.ldc_w 956, 3) := by decide +kernel
theorem d_M_take_79 : decode b_M_take 79 = .ok (.iconst 0, 1) := by decide +kernel
theorem d_M_take_80 : decode b_M_take 80 = .ok (.iload_n 2, 1) := by decide +kernel
theorem d_M_take_81 : decode b_M_take 81 = .ok (.iconst 0, 1) := by decide +kernel
theorem d_M_take_82 : decode b_M_take 82 = .ok (.invokevirtual 522, 3) := by decide +kernel
theorem d_M_take_85 : decode b_M_take 85 = .ok (.ifCond .ne 6, 3) := by decide +kernel
theorem d_M_take_88 : decode b_M_take 88 = .ok (.bipush (-60), 2) := by decide +kernel
theorem d_M_take_90 : decode b_M_take 90 = .ok (.ireturn, 1) := by decide +kernel
theorem d_M_take_91 : decode b_M_take 91 = .ok (.aload_n 0, 1) := by decide +kernel
theorem d_M_take_92 : decode b_M_take 92 = .ok (.iconst 0, 1) := by decide +kernel
theorem d_M_take_93 : decode b_M_take 93 = .ok (.bipush 6, 2) := by decide +kernel
theorem d_M_take_95 : decode b_M_take 95 = .ok (.invokevirtual 665, 3) := by decide +kernel
theorem d_M_take_98 : decode b_M_take 98 = .ok (.lstore 5, 2) := by decide +kernel
theorem d_M_take_100 : decode b_M_take 100 = .ok (.lload 5, 2) := by decide +kernel
theorem d_M_take_102 : decode b_M_take 102 = .ok (.lconst 1, 1) := by decide +kernel
theorem d_M_take_103 : decode b_M_take 103 = .ok (.lcmp, 1) := by decide +kernel
theorem d_M_take_104 : decode b_M_take 104 = .ok (.ifCond .lt 12, 3) := by decide +kernel
theorem d_M_take_107 : decode b_M_take 107 = .ok (.lload 5, 2) := by decide +kernel
theorem d_M_take_109 : decode b_M_take 109 = .ok (.ldc2_w 958, 3) := by decide +kernel
theorem d_M_take_112 : decode b_M_take 112 = .ok (.lcmp, 1) := by decide +kernel
theorem d_M_take_113 : decode b_M_take 113 = .ok (.ifCond .le 8, 3) := by decide +kernel
theorem d_M_take_116 : decode b_M_take 116 = .ok (.bipush (-60), 2) := by decide +kernel
theorem d_M_take_118 : decode b_M_take 118 = .ok (.goto 7, 3) := by decide +kernel
theorem d_M_take_121 : decode b_M_take 121 = .ok (.lload 5, 2) := by decide +kernel
theorem d_M_take_123 : decode b_M_take 123 = .ok (.lneg, 1) := by decide +kernel
theorem d_M_take_124 : decode b_M_take 124 = .ok (.l2i, 1) := by decide +kernel
theorem d_M_take_125 : decode b_M_take 125 = .ok (.ireturn, 1) := by decide +kernel
theorem d_M_take_126 : decode b_M_take 126 = .ok (.iload 4, 2) := by decide +kernel
theorem d_M_take_128 : decode b_M_take 128 = .ok (.bipush 107, 2) := by decide +kernel
theorem d_M_take_130 : decode b_M_take 130 = .ok (.if_icmp .ne 7, 3) := by decide +kernel
theorem d_M_take_133 : decode b_M_take 133 = .ok (.iconst 1, 1) := by decide +kernel
theorem d_M_take_134 : decode b_M_take 134 = .ok (.goto 4, 3) := by decide +kernel
theorem d_M_take_137 : decode b_M_take 137 = .ok (.iconst 0, 1) := by decide +kernel
theorem d_M_take_138 : decode b_M_take 138 = .ok (.istore 5, 2) := by decide +kernel
theorem d_M_take_140 : decode b_M_take 140 = .ok (.iload 5, 2) := by decide +kernel
theorem d_M_take_142 : decode b_M_take 142 = .ok (.ifCond .ne 10, 3) := by decide +kernel
theorem d_M_take_145 : decode b_M_take 145 = .ok (.iload 4, 2) := by decide +kernel
theorem d_M_take_147 : decode b_M_take 147 = .ok (.bipush 109, 2) := by decide +kernel
theorem d_M_take_149 : decode b_M_take 149 = .ok (.if_icmp .ne 28, 3) := by decide +kernel
theorem d_M_take_152 : decode b_M_take 152 = .ok (.aload_n 0, 1) := by decide +kernel
theorem d_M_take_153 : decode b_M_take 153 = .ok (.iload 5, 2) := by decide +kernel
theorem d_M_take_155 : decode b_M_take 155 = .ok (.ifCond .eq 8, 3) := by decide +kernel
theorem d_M_take_158 : decode b_M_take 158 = .ok (.bipush 11, 2) := by decide +kernel
theorem d_M_take_160 : decode b_M_take 160 = .ok (.goto 5, 3) := by decide +kernel
theorem d_M_take_163 : decode b_M_take 163 = .ok (.bipush 13, 2) := by decide +kernel
theorem d_M_take_165 : decode b_M_take 165 = .ok (.ldc_w 960, 3) := by decide +kernel
theorem d_M_take_168 : decode b_M_take 168 = .ok (.iconst 0, 1) := by decide +kernel
theorem d_M_take_169 : decode b_M_take 169 = .ok (.iload_n 2, 1) := by decide +kernel
theorem d_M_take_170 : decode b_M_take 170 = .ok (.iconst 0, 1) := by decide +kernel
theorem d_M_take_171 : decode b_M_take 171 = .ok (.invokevirtual 522, 3) := by decide +kernel
theorem d_M_take_174 : decode b_M_take 174 = .ok (.ifCond .ne 6, 3) := by decide +kernel
theorem d_M_take_177 : decode b_M_take 177 = .ok (.bipush (-60), 2) := by decide +kernel
theorem d_M_take_179 : decode b_M_take 179 = .ok (.ireturn, 1) := by decide +kernel
theorem d_M_take_180 : decode b_M_take 180 = .ok (.iload 5, 2) := by decide +kernel
theorem d_M_take_182 : decode b_M_take 182 = .ok (.iload_n 3, 1) := by decide +kernel
theorem d_M_take_183 : decode b_M_take 183 = .ok (.iconst 2, 1) := by decide +kernel
theorem d_M_take_184 : decode b_M_take 184 = .ok (.if_icmp .ge 7, 3) := by decide +kernel
theorem d_M_take_187 : decode b_M_take 187 = .ok (.iconst 1, 1) := by decide +kernel
theorem d_M_take_188 : decode b_M_take 188 = .ok (.goto 4, 3) := by decide +kernel
theorem d_M_take_191 : decode b_M_take 191 = .ok (.iconst 0, 1) := by decide +kernel
theorem d_M_take_192 : decode b_M_take 192 = .ok (.if_icmp .eq 6, 3) := by decide +kernel
theorem d_M_take_195 : decode b_M_take 195 = .ok (.bipush (-40), 2) := by decide +kernel
theorem d_M_take_197 : decode b_M_take 197 = .ok (.ireturn, 1) := by decide +kernel
theorem d_M_take_198 : decode b_M_take 198 = .ok (.aload_n 0, 1) := by decide +kernel
theorem d_M_take_199 : decode b_M_take 199 = .ok (.ldc_w 516, 3) := by decide +kernel
theorem d_M_take_202 : decode b_M_take 202 = .ok (.aload_n 0, 1) := by decide +kernel
theorem d_M_take_203 : decode b_M_take 203 = .ok (.iconst 0, 1) := by decide +kernel
theorem d_M_take_204 : decode b_M_take 204 = .ok (.bipush 6, 2) := by decide +kernel
theorem d_M_take_206 : decode b_M_take 206 = .ok (.invokevirtual 536, 3) := by decide +kernel
theorem d_M_take_209 : decode b_M_take 209 = .ok (.aload_n 0, 1) := by decide +kernel
theorem d_M_take_210 : decode b_M_take 210 = .ok (.iconst 0, 1) := by decide +kernel
theorem d_M_take_211 : decode b_M_take 211 = .ok (.bipush 6, 2) := by decide +kernel
theorem d_M_take_213 : decode b_M_take 213 = .ok (.invokevirtual 539, 3) := by decide +kernel
theorem d_M_take_216 : decode b_M_take 216 = .ok (.bipush 6, 2) := by decide +kernel
theorem d_M_take_218 : decode b_M_take 218 = .ok (.invokevirtual 487, 3) := by decide +kernel
theorem d_M_take_221 : decode b_M_take 221 = .ok (.pop, 1) := by decide +kernel
theorem d_M_take_222 : decode b_M_take 222 = .ok (.aload_n 0, 1) := by decide +kernel
theorem d_M_take_223 : decode b_M_take 223 = .ok (.bipush 6, 2) := by decide +kernel
theorem d_M_take_225 : decode b_M_take 225 = .ok (.iconst 0, 1) := by decide +kernel
theorem d_M_take_226 : decode b_M_take 226 = .ok (.invokevirtual 665, 3) := by decide +kernel
theorem d_M_take_229 : decode b_M_take 229 = .ok (.lstore 6, 2) := by decide +kernel
theorem d_M_take_231 : decode b_M_take 231 = .ok (.aload_n 0, 1) := by decide +kernel
theorem d_M_take_232 : decode b_M_take 232 = .ok (.getfield 227, 3) := by decide +kernel
theorem d_M_take_235 : decode b_M_take 235 = .ok (.iload_n 1, 1) := by decide +kernel
theorem d_M_take_236 : decode b_M_take 236 = .ok (.iaload, 1) := by decide +kernel
theorem d_M_take_237 : decode b_M_take 237 = .ok (.istore 8, 2) := by decide +kernel
theorem d_M_take_239 : decode b_M_take 239 = .ok (.lload 6, 2) := by decide +kernel
theorem d_M_take_241 : decode b_M_take 241 = .ok (.ldc2_w 697, 3) := by decide +kernel
theorem d_M_take_244 : decode b_M_take 244 = .ok (.lcmp, 1) := by decide +kernel
theorem d_M_take_245 : decode b_M_take 245 = .ok (.ifCond .ne 17, 3) := by decide +kernel
theorem d_M_take_248 : decode b_M_take 248 = .ok (.iload 8, 2) := by decide +kernel
theorem d_M_take_250 : decode b_M_take 250 = .ok (.iconst 2, 1) := by decide +kernel
theorem d_M_take_251 : decode b_M_take 251 = .ok (.if_icmp .eq 7, 3) := by decide +kernel
theorem d_M_take_254 : decode b_M_take 254 = .ok (.iconst 1, 1) := by decide +kernel
theorem d_M_take_255 : decode b_M_take 255 = .ok (.goto 27, 3) := by decide +kernel
theorem d_M_take_258 : decode b_M_take 258 = .ok (.iconst 0, 1) := by decide +kernel
theorem d_M_take_259 : decode b_M_take 259 = .ok (.goto 23, 3) := by decide +kernel
theorem d_M_take_262 : decode b_M_take 262 = .ok (.lload 6, 2) := by decide +kernel
theorem d_M_take_264 : decode b_M_take 264 = .ok (.ldc2_w 699, 3) := by decide +kernel
theorem d_M_take_267 : decode b_M_take 267 = .ok (.lcmp, 1) := by decide +kernel
theorem d_M_take_268 : decode b_M_take 268 = .ok (.ifCond .ne 13, 3) := by decide +kernel
theorem d_M_take_271 : decode b_M_take 271 = .ok (.iload 8, 2) := by decide +kernel
theorem d_M_take_273 : decode b_M_take 273 = .ok (.iconst 1, 1) := by decide +kernel
theorem d_M_take_274 : decode b_M_take 274 = .ok (.if_icmp .eq 7, 3) := by decide +kernel
theorem d_M_take_277 : decode b_M_take 277 = .ok (.iconst 1, 1) := by decide +kernel
theorem d_M_take_278 : decode b_M_take 278 = .ok (.goto 4, 3) := by decide +kernel
theorem d_M_take_281 : decode b_M_take 281 = .ok (.iconst 0, 1) := by decide +kernel
theorem d_M_take_282 : decode b_M_take 282 = .ok (.istore 9, 2) := by decide +kernel
theorem d_M_take_284 : decode b_M_take 284 = .ok (.iload_n 3, 1) := by decide +kernel
theorem d_M_take_285 : decode b_M_take 285 = .ok (.iconst 2, 1) := by decide +kernel
theorem d_M_take_286 : decode b_M_take 286 = .ok (.if_icmp .ne 23, 3) := by decide +kernel
theorem d_M_take_289 : decode b_M_take 289 = .ok (.lload 6, 2) := by decide +kernel
theorem d_M_take_291 : decode b_M_take 291 = .ok (.aload_n 0, 1) := by decide +kernel
theorem d_M_take_292 : decode b_M_take 292 = .ok (.getfield 230, 3) := by decide +kernel
theorem d_M_take_295 : decode b_M_take 295 = .ok (.iload_n 1, 1) := by decide +kernel
theorem d_M_take_296 : decode b_M_take 296 = .ok (.iaload, 1) := by decide +kernel
theorem d_M_take_297 : decode b_M_take 297 = .ok (.i2l, 1) := by decide +kernel
theorem d_M_take_298 : decode b_M_take 298 = .ok (.lcmp, 1) := by decide +kernel
theorem d_M_take_299 : decode b_M_take 299 = .ok (.ifCond .ne 7, 3) := by decide +kernel
theorem d_M_take_302 : decode b_M_take 302 = .ok (.iconst 1, 1) := by decide +kernel
theorem d_M_take_303 : decode b_M_take 303 = .ok (.goto 4, 3) := by decide +kernel
theorem d_M_take_306 : decode b_M_take 306 = .ok (.iconst 0, 1) := by decide +kernel
theorem d_M_take_307 : decode b_M_take 307 = .ok (.istore 9, 2) := by decide +kernel
theorem d_M_take_309 : decode b_M_take 309 = .ok (.iload 9, 2) := by decide +kernel
theorem d_M_take_311 : decode b_M_take 311 = .ok (.ifCond .ne 6, 3) := by decide +kernel
theorem d_M_take_314 : decode b_M_take 314 = .ok (.bipush (-14), 2) := by decide +kernel
theorem d_M_take_316 : decode b_M_take 316 = .ok (.ireturn, 1) := by decide +kernel
theorem d_M_take_317 : decode b_M_take 317 = .ok (.iconst 0, 1) := by decide +kernel
theorem d_M_take_318 : decode b_M_take 318 = .ok (.istore 10, 2) := by decide +kernel
theorem d_M_take_320 : decode b_M_take 320 = .ok (.iload 10, 2) := by decide +kernel
theorem d_M_take_322 : decode b_M_take 322 = .ok (.bipush 32, 2) := by decide +kernel
theorem d_M_take_324 : decode b_M_take 324 = .ok (.if_icmp .ge 58, 3) := by decide +kernel
theorem d_M_take_327 : decode b_M_take 327 = .ok (.aload_n 0, 1) := by decide +kernel
theorem d_M_take_328 : decode b_M_take 328 = .ok (.getfield 137, 3) := by decide +kernel
theorem d_M_take_331 : decode b_M_take 331 = .ok (.iload 10, 2) := by decide +kernel
theorem d_M_take_333 : decode b_M_take 333 = .ok (.iload_n 3, 1) := by decide +kernel
theorem d_M_take_334 : decode b_M_take 334 = .ok (.iconst 2, 1) := by decide +kernel
theorem d_M_take_335 : decode b_M_take 335 = .ok (.if_icmp .ge 28, 3) := by decide +kernel
theorem d_M_take_338 : decode b_M_take 338 = .ok (.aload_n 0, 1) := by decide +kernel
theorem d_M_take_339 : decode b_M_take 339 = .ok (.getfield 181, 3) := by decide +kernel
theorem d_M_take_342 : decode b_M_take 342 = .ok (.bipush 64, 2) := by decide +kernel
theorem d_M_take_344 : decode b_M_take 344 = .ok (.iload_n 1, 1) := by decide +kernel
theorem d_M_take_345 : decode b_M_take 345 = .ok (.imul, 1) := by decide +kernel
theorem d_M_take_346 : decode b_M_take 346 = .ok (.bipush 32, 2) := by decide +kernel
theorem d_M_take_348 : decode b_M_take 348 = .ok (.lload 6, 2) := by decide +kernel
theorem d_M_take_350 : decode b_M_take 350 = .ok (.l2i, 1) := by decide +kernel
theorem d_M_take_351 : decode b_M_take 351 = .ok (.bipush 17, 2) := by decide +kernel
theorem d_M_take_353 : decode b_M_take 353 = .ok (.isub, 1) := by decide +kernel
theorem d_M_take_354 : decode b_M_take 354 = .ok (.imul, 1) := by decide +kernel
theorem d_M_take_355 : decode b_M_take 355 = .ok (.iadd, 1) := by decide +kernel
theorem d_M_take_356 : decode b_M_take 356 = .ok (.iload 10, 2) := by decide +kernel
theorem d_M_take_358 : decode b_M_take 358 = .ok (.iadd, 1) := by decide +kernel
theorem d_M_take_359 : decode b_M_take 359 = .ok (.baload, 1) := by decide +kernel
theorem d_M_take_360 : decode b_M_take 360 = .ok (.goto 15, 3) := by decide +kernel
theorem d_M_take_363 : decode b_M_take 363 = .ok (.aload_n 0, 1) := by decide +kernel
theorem d_M_take_364 : decode b_M_take 364 = .ok (.getfield 242, 3) := by decide +kernel
theorem d_M_take_367 : decode b_M_take 367 = .ok (.bipush 32, 2) := by decide +kernel
theorem d_M_take_369 : decode b_M_take 369 = .ok (.iload_n 1, 1) := by decide +kernel
theorem d_M_take_370 : decode b_M_take 370 = .ok (.imul, 1) := by decide +kernel
theorem d_M_take_371 : decode b_M_take 371 = .ok (.iload 10, 2) := by decide +kernel
theorem d_M_take_373 : decode b_M_take 373 = .ok (.iadd, 1) := by decide +kernel
theorem d_M_take_374 : decode b_M_take 374 = .ok (.baload, 1) := by decide +kernel
theorem d_M_take_375 : decode b_M_take 375 = .ok (.bastore, 1) := by decide +kernel
theorem d_M_take_376 : decode b_M_take 376 = .ok (.iinc 10 1, 3) := by decide +kernel
theorem d_M_take_379 : decode b_M_take 379 = .ok (.goto (-59), 3) := by decide +kernel
theorem d_M_take_382 : decode b_M_take 382 = .ok (.aload_n 0, 1) := by decide +kernel
theorem d_M_take_383 : decode b_M_take 383 = .ok (.aload_n 0, 1) := by decide +kernel
theorem d_M_take_384 : decode b_M_take 384 = .ok (.bipush 6, 2) := by decide +kernel
theorem d_M_take_386 : decode b_M_take 386 = .ok (.iconst 2, 1) := by decide +kernel
theorem d_M_take_387 : decode b_M_take 387 = .ok (.invokevirtual 536, 3) := by decide +kernel
theorem d_M_take_390 : decode b_M_take 390 = .ok (.aload_n 0, 1) := by decide +kernel
theorem d_M_take_391 : decode b_M_take 391 = .ok (.bipush 6, 2) := by decide +kernel
theorem d_M_take_393 : decode b_M_take 393 = .ok (.iconst 2, 1) := by decide +kernel
theorem d_M_take_394 : decode b_M_take 394 = .ok (.invokevirtual 539, 3) := by decide +kernel
theorem d_M_take_397 : decode b_M_take 397 = .ok (.iconst 4, 1) := by decide +kernel
theorem d_M_take_398 : decode b_M_take 398 = .ok (.invokevirtual 476, 3) := by decide +kernel
theorem d_M_take_401 : decode b_M_take 401 = .ok (.pop, 1) := by decide +kernel
theorem d_M_take_402 : decode b_M_take 402 = .ok (.aload_n 0, 1) := by decide +kernel
theorem d_M_take_403 : decode b_M_take 403 = .ok (.aload_n 0, 1) := by decide +kernel
theorem d_M_take_404 : decode b_M_take 404 = .ok (.getfield 137, 3) := by decide +kernel
theorem d_M_take_407 : decode b_M_take 407 = .ok (.lload 6, 2) := by decide +kernel
theorem d_M_take_409 : decode b_M_take 409 = .ok (.l2i, 1) := by decide +kernel
theorem d_M_take_410 : decode b_M_take 410 = .ok (.iload_n 3, 1) := by decide +kernel
theorem d_M_take_411 : decode b_M_take 411 = .ok (.iconst 2, 1) := by decide +kernel
theorem d_M_take_412 : decode b_M_take 412 = .ok (.if_icmp .ge 7, 3) := by decide +kernel
theorem d_M_take_415 : decode b_M_take 415 = .ok (.iconst 3, 1) := by decide +kernel
theorem d_M_take_416 : decode b_M_take 416 = .ok (.goto 5, 3) := by decide +kernel
theorem d_M_take_419 : decode b_M_take 419 = .ok (.bipush 9, 2) := by decide +kernel
theorem d_M_take_421 : decode b_M_take 421 = .ok (.aload_n 0, 1) := by decide +kernel
theorem d_M_take_422 : decode b_M_take 422 = .ok (.getfield 470, 3) := by decide +kernel
theorem d_M_take_425 : decode b_M_take 425 = .ok (.aload_n 0, 1) := by decide +kernel
theorem d_M_take_426 : decode b_M_take 426 = .ok (.getfield 473, 3) := by decide +kernel
theorem d_M_take_429 : decode b_M_take 429 = .ok (.sipush 4200, 3) := by decide +kernel
theorem d_M_take_432 : decode b_M_take 432 = .ok (.invokevirtual 765, 3) := by decide +kernel
theorem d_M_take_435 : decode b_M_take 435 = .ok (.istore 10, 2) := by decide +kernel
theorem d_M_take_437 : decode b_M_take 437 = .ok (.iload 10, 2) := by decide +kernel
theorem d_M_take_439 : decode b_M_take 439 = .ok (.ifCond .ge 6, 3) := by decide +kernel
theorem d_M_take_442 : decode b_M_take 442 = .ok (.bipush (-31), 2) := by decide +kernel
theorem d_M_take_444 : decode b_M_take 444 = .ok (.ireturn, 1) := by decide +kernel
theorem d_M_take_445 : decode b_M_take 445 = .ok (.iload_n 3, 1) := by decide +kernel
theorem d_M_take_446 : decode b_M_take 446 = .ok (.iconst 2, 1) := by decide +kernel
theorem d_M_take_447 : decode b_M_take 447 = .ok (.if_icmp .ge 25, 3) := by decide +kernel
theorem d_M_take_450 : decode b_M_take 450 = .ok (.aload_n 0, 1) := by decide +kernel
theorem d_M_take_451 : decode b_M_take 451 = .ok (.bipush 25, 2) := by decide +kernel
theorem d_M_take_453 : decode b_M_take 453 = .ok (.ldc_w 962, 3) := by decide +kernel
theorem d_M_take_456 : decode b_M_take 456 = .ok (.sipush 4200, 3) := by decide +kernel
theorem d_M_take_459 : decode b_M_take 459 = .ok (.sipush 4200, 3) := by decide +kernel
theorem d_M_take_462 : decode b_M_take 462 = .ok (.iload 10, 2) := by decide +kernel
theorem d_M_take_464 : decode b_M_take 464 = .ok (.iadd, 1) := by decide +kernel
theorem d_M_take_465 : decode b_M_take 465 = .ok (.iconst 4, 1) := by decide +kernel
theorem d_M_take_466 : decode b_M_take 466 = .ok (.invokevirtual 522, 3) := by decide +kernel
theorem d_M_take_469 : decode b_M_take 469 = .ok (.ifCond .ne 25, 3) := by decide +kernel
theorem d_M_take_472 : decode b_M_take 472 = .ok (.aload_n 0, 1) := by decide +kernel
theorem d_M_take_473 : decode b_M_take 473 = .ok (.bipush 26, 2) := by decide +kernel
theorem d_M_take_475 : decode b_M_take 475 = .ok (.ldc_w 962, 3) := by decide +kernel
theorem d_M_take_478 : decode b_M_take 478 = .ok (.sipush 4200, 3) := by decide +kernel
theorem d_M_take_481 : decode b_M_take 481 = .ok (.sipush 4200, 3) := by decide +kernel
theorem d_M_take_484 : decode b_M_take 484 = .ok (.iload 10, 2) := by decide +kernel
theorem d_M_take_486 : decode b_M_take 486 = .ok (.iadd, 1) := by decide +kernel
theorem d_M_take_487 : decode b_M_take 487 = .ok (.iconst 4, 1) := by decide +kernel
theorem d_M_take_488 : decode b_M_take 488 = .ok (.invokevirtual 522, 3) := by decide +kernel
theorem d_M_take_491 : decode b_M_take 491 = .ok (.ifCond .eq 7, 3) := by decide +kernel
theorem d_M_take_494 : decode b_M_take 494 = .ok (.iconst 1, 1) := by decide +kernel
theorem d_M_take_495 : decode b_M_take 495 = .ok (.goto 4, 3) := by decide +kernel
theorem d_M_take_498 : decode b_M_take 498 = .ok (.iconst 0, 1) := by decide +kernel
theorem d_M_take_499 : decode b_M_take 499 = .ok (.istore 11, 2) := by decide +kernel
theorem d_M_take_501 : decode b_M_take 501 = .ok (.iload 11, 2) := by decide +kernel
theorem d_M_take_503 : decode b_M_take 503 = .ok (.ifCond .ne 6, 3) := by decide +kernel
theorem d_M_take_506 : decode b_M_take 506 = .ok (.bipush (-60), 2) := by decide +kernel
theorem d_M_take_508 : decode b_M_take 508 = .ok (.ireturn, 1) := by decide +kernel
theorem d_M_take_509 : decode b_M_take 509 = .ok (.aload_n 0, 1) := by decide +kernel
theorem d_M_take_510 : decode b_M_take 510 = .ok (.iconst 4, 1) := by decide +kernel
theorem d_M_take_511 : decode b_M_take 511 = .ok (.iconst 2, 1) := by decide +kernel
theorem d_M_take_512 : decode b_M_take 512 = .ok (.invokevirtual 665, 3) := by decide +kernel
theorem d_M_take_515 : decode b_M_take 515 = .ok (.aload_n 0, 1) := by decide +kernel
theorem d_M_take_516 : decode b_M_take 516 = .ok (.getfield 236, 3) := by decide +kernel
theorem d_M_take_519 : decode b_M_take 519 = .ok (.iload_n 1, 1) := by decide +kernel
theorem d_M_take_520 : decode b_M_take 520 = .ok (.laload, 1) := by decide +kernel
theorem d_M_take_521 : decode b_M_take 521 = .ok (.lcmp, 1) := by decide +kernel
theorem d_M_take_522 : decode b_M_take 522 = .ok (.ifCond .eq 6, 3) := by decide +kernel
theorem d_M_take_525 : decode b_M_take 525 = .ok (.bipush (-41), 2) := by decide +kernel
theorem d_M_take_527 : decode b_M_take 527 = .ok (.ireturn, 1) := by decide +kernel
theorem d_M_take_528 : decode b_M_take 528 = .ok (.aload_n 0, 1) := by decide +kernel
theorem d_M_take_529 : decode b_M_take 529 = .ok (.iload_n 1, 1) := by decide +kernel
theorem d_M_take_530 : decode b_M_take 530 = .ok (.iload_n 3, 1) := by decide +kernel
theorem d_M_take_531 : decode b_M_take 531 = .ok (.invokevirtual 964, 3) := by decide +kernel
theorem d_M_take_534 : decode b_M_take 534 = .ok (.ireturn, 1) := by decide +kernel
abbrev b_M_taken : ByteArray := prog_14_method_141_code
def y_M_taken : MethodName := ⟨R_M, "taken", "(II)I"⟩
abbrev k_M_taken : Cond := .code y_M_taken b_M_taken 8 (some .int)
theorem ki_M_taken : k_M_taken ∈ lw_tg := List.mem_filter.mpr ⟨List.mem_append_right _ (List.mem_append_right _ (List.mem_append_right _ (List.mem_append_right _ (List.mem_append_right _ (List.mem_append_right _ (List.mem_append_right _ (List.mem_append_right _ (List.mem_append_right _ (List.mem_append_right _ (List.mem_append_right _ (List.mem_append_right _ (List.mem_append_left _ (List.mem_of_getElem? (i := 155) rfl))))))))))))), rfl⟩
theorem ks_M_taken : Cond.instanceMethod y_M_taken ∈ lw_tg := in_t 2794 (by decide +kernel)
theorem kx_M_taken : Cond.selects R_M y_M_taken y_M_taken ∈ lw_tg := List.mem_filter.mpr ⟨List.mem_append_left _ (List.mem_of_getElem? (i := 180) (by decide +kernel)), rfl⟩
theorem kl_M_taken : Cond.methodLink R_M 964 y_M_taken ∈ lw_tg := in_t 2792 (by decide +kernel)
theorem hd_M_taken : y_M_taken.cls = R_M ∧ y_M_taken.cls ≠ "java/lang/invoke/MethodHandle" ∧ y_M_taken.cls ≠ "java/lang/invoke/VarHandle" ∧ (parseMethodDescriptor y_M_taken.desc).map (fun d => d.parameters.length) = some 2 := by decide +kernel
theorem d_M_taken_0 : decode b_M_taken 0 = .ok (.aload_n 0, 1) := by decide +kernel
theorem d_M_taken_1 : decode b_M_taken 1 = .ok (.aload_n 0, 1) := by decide +kernel
theorem d_M_taken_2 : decode b_M_taken 2 = .ok (.iconst 0, 1) := by decide +kernel
theorem d_M_taken_3 : decode b_M_taken 3 = .ok (.iconst 5, 1) := by decide +kernel
theorem d_M_taken_4 : decode b_M_taken 4 = .ok (.invokevirtual 536, 3) := by decide +kernel
theorem d_M_taken_7 : decode b_M_taken 7 = .ok (.aload_n 0, 1) := by decide +kernel
theorem d_M_taken_8 : decode b_M_taken 8 = .ok (.iconst 0, 1) := by decide +kernel
theorem d_M_taken_9 : decode b_M_taken 9 = .ok (.iconst 5, 1) := by decide +kernel
theorem d_M_taken_10 : decode b_M_taken 10 = .ok (.invokevirtual 539, 3) := by decide +kernel
theorem d_M_taken_13 : decode b_M_taken 13 = .ok (.bipush 97, 2) := by decide +kernel
theorem d_M_taken_15 : decode b_M_taken 15 = .ok (.invokevirtual 480, 3) := by decide +kernel
theorem d_M_taken_18 : decode b_M_taken 18 = .ok (.pop, 1) := by decide +kernel
theorem d_M_taken_19 : decode b_M_taken 19 = .ok (.aload_n 0, 1) := by decide +kernel
theorem d_M_taken_20 : decode b_M_taken 20 = .ok (.ldc_w 520, 3) := by decide +kernel
theorem d_M_taken_23 : decode b_M_taken 23 = .ok (.aload_n 0, 1) := by decide +kernel
theorem d_M_taken_24 : decode b_M_taken 24 = .ok (.getfield 470, 3) := by decide +kernel
theorem d_M_taken_27 : decode b_M_taken 27 = .ok (.aload_n 0, 1) := by decide +kernel
theorem d_M_taken_28 : decode b_M_taken 28 = .ok (.iconst 0, 1) := by decide +kernel
theorem d_M_taken_29 : decode b_M_taken 29 = .ok (.iconst 5, 1) := by decide +kernel
theorem d_M_taken_30 : decode b_M_taken 30 = .ok (.invokevirtual 539, 3) := by decide +kernel
theorem d_M_taken_33 : decode b_M_taken 33 = .ok (.iconst 3, 1) := by decide +kernel
theorem d_M_taken_34 : decode b_M_taken 34 = .ok (.invokevirtual 487, 3) := by decide +kernel
theorem d_M_taken_37 : decode b_M_taken 37 = .ok (.pop, 1) := by decide +kernel
theorem d_M_taken_38 : decode b_M_taken 38 = .ok (.iload_n 2, 1) := by decide +kernel
theorem d_M_taken_39 : decode b_M_taken 39 = .ok (.iconst 2, 1) := by decide +kernel
theorem d_M_taken_40 : decode b_M_taken 40 = .ok (.if_icmp .ge 67, 3) := by decide +kernel
theorem d_M_taken_43 : decode b_M_taken 43 = .ok (.aload_n 0, 1) := by decide +kernel
theorem d_M_taken_44 : decode b_M_taken 44 = .ok (.aload_n 0, 1) := by decide +kernel
theorem d_M_taken_45 : decode b_M_taken 45 = .ok (.iconst 0, 1) := by decide +kernel
theorem d_M_taken_46 : decode b_M_taken 46 = .ok (.iconst 3, 1) := by decide +kernel
theorem d_M_taken_47 : decode b_M_taken 47 = .ok (.invokevirtual 536, 3) := by decide +kernel
theorem d_M_taken_50 : decode b_M_taken 50 = .ok (.aload_n 0, 1) := by decide +kernel
theorem d_M_taken_51 : decode b_M_taken 51 = .ok (.iconst 0, 1) := by decide +kernel
theorem d_M_taken_52 : decode b_M_taken 52 = .ok (.iconst 3, 1) := by decide +kernel
theorem d_M_taken_53 : decode b_M_taken 53 = .ok (.invokevirtual 539, 3) := by decide +kernel
theorem d_M_taken_56 : decode b_M_taken 56 = .ok (.ldc_w 621, 3) := by decide +kernel
theorem d_M_taken_59 : decode b_M_taken 59 = .ok (.invokevirtual 678, 3) := by decide +kernel
theorem d_M_taken_62 : decode b_M_taken 62 = .ok (.ifCond .eq 40, 3) := by decide +kernel
theorem d_M_taken_65 : decode b_M_taken 65 = .ok (.aload_n 0, 1) := by decide +kernel
theorem d_M_taken_66 : decode b_M_taken 66 = .ok (.aload_n 0, 1) := by decide +kernel
theorem d_M_taken_67 : decode b_M_taken 67 = .ok (.iconst 0, 1) := by decide +kernel
theorem d_M_taken_68 : decode b_M_taken 68 = .ok (.iconst 4, 1) := by decide +kernel
theorem d_M_taken_69 : decode b_M_taken 69 = .ok (.invokevirtual 536, 3) := by decide +kernel
theorem d_M_taken_72 : decode b_M_taken 72 = .ok (.aload_n 0, 1) := by decide +kernel
theorem d_M_taken_73 : decode b_M_taken 73 = .ok (.iconst 0, 1) := by decide +kernel
theorem d_M_taken_74 : decode b_M_taken 74 = .ok (.iconst 4, 1) := by decide +kernel
theorem d_M_taken_75 : decode b_M_taken 75 = .ok (.invokevirtual 539, 3) := by decide +kernel
theorem d_M_taken_78 : decode b_M_taken 78 = .ok (.aload_n 0, 1) := by decide +kernel
theorem d_M_taken_79 : decode b_M_taken 79 = .ok (.getfield 169, 3) := by decide +kernel
theorem d_M_taken_82 : decode b_M_taken 82 = .ok (.bipush 40, 2) := by decide +kernel
theorem d_M_taken_84 : decode b_M_taken 84 = .ok (.iload_n 1, 1) := by decide +kernel
theorem d_M_taken_85 : decode b_M_taken 85 = .ok (.imul, 1) := by decide +kernel
theorem d_M_taken_86 : decode b_M_taken 86 = .ok (.aload_n 0, 1) := by decide +kernel
theorem d_M_taken_87 : decode b_M_taken 87 = .ok (.getfield 172, 3) := by decide +kernel
theorem d_M_taken_90 : decode b_M_taken 90 = .ok (.iload_n 1, 1) := by decide +kernel
theorem d_M_taken_91 : decode b_M_taken 91 = .ok (.iaload, 1) := by decide +kernel
theorem d_M_taken_92 : decode b_M_taken 92 = .ok (.invokevirtual 967, 3) := by decide +kernel
theorem d_M_taken_95 : decode b_M_taken 95 = .ok (.ifCond .eq 7, 3) := by decide +kernel
theorem d_M_taken_98 : decode b_M_taken 98 = .ok (.iconst 1, 1) := by decide +kernel
theorem d_M_taken_99 : decode b_M_taken 99 = .ok (.goto 4, 3) := by decide +kernel
theorem d_M_taken_102 : decode b_M_taken 102 = .ok (.iconst 0, 1) := by decide +kernel
theorem d_M_taken_103 : decode b_M_taken 103 = .ok (.istore_n 3, 1) := by decide +kernel
theorem d_M_taken_104 : decode b_M_taken 104 = .ok (.goto 128, 3) := by decide +kernel
theorem d_M_taken_107 : decode b_M_taken 107 = .ok (.aload_n 0, 1) := by decide +kernel
theorem d_M_taken_108 : decode b_M_taken 108 = .ok (.aload_n 0, 1) := by decide +kernel
theorem d_M_taken_109 : decode b_M_taken 109 = .ok (.iconst 0, 1) := by decide +kernel
theorem d_M_taken_110 : decode b_M_taken 110 = .ok (.iconst 3, 1) := by decide +kernel
theorem d_M_taken_111 : decode b_M_taken 111 = .ok (.invokevirtual 536, 3) := by decide +kernel
theorem d_M_taken_114 : decode b_M_taken 114 = .ok (.aload_n 0, 1) := by decide +kernel
theorem d_M_taken_115 : decode b_M_taken 115 = .ok (.iconst 0, 1) := by decide +kernel
theorem d_M_taken_116 : decode b_M_taken 116 = .ok (.iconst 3, 1) := by decide +kernel
theorem d_M_taken_117 : decode b_M_taken 117 = .ok (.invokevirtual 539, 3) := by decide +kernel
theorem d_M_taken_120 : decode b_M_taken 120 = .ok (.aload_n 0, 1) := by decide +kernel
theorem d_M_taken_121 : decode b_M_taken 121 = .ok (.getfield 248, 3) := by decide +kernel
theorem d_M_taken_124 : decode b_M_taken 124 = .ok (.sipush 400, 3) := by decide +kernel
theorem d_M_taken_127 : decode b_M_taken 127 = .ok (.iload_n 1, 1) := by decide +kernel
theorem d_M_taken_128 : decode b_M_taken 128 = .ok (.imul, 1) := by decide +kernel
theorem d_M_taken_129 : decode b_M_taken 129 = .ok (.aload_n 0, 1) := by decide +kernel
theorem d_M_taken_130 : decode b_M_taken 130 = .ok (.getfield 251, 3) := by decide +kernel
theorem d_M_taken_133 : decode b_M_taken 133 = .ok (.iload_n 1, 1) := by decide +kernel
theorem d_M_taken_134 : decode b_M_taken 134 = .ok (.iaload, 1) := by decide +kernel
theorem d_M_taken_135 : decode b_M_taken 135 = .ok (.invokevirtual 971, 3) := by decide +kernel
theorem d_M_taken_138 : decode b_M_taken 138 = .ok (.istore_n 3, 1) := by decide +kernel
theorem d_M_taken_139 : decode b_M_taken 139 = .ok (.iconst 0, 1) := by decide +kernel
theorem d_M_taken_140 : decode b_M_taken 140 = .ok (.istore 4, 2) := by decide +kernel
theorem d_M_taken_142 : decode b_M_taken 142 = .ok (.iload 4, 2) := by decide +kernel
theorem d_M_taken_144 : decode b_M_taken 144 = .ok (.aload_n 0, 1) := by decide +kernel
theorem d_M_taken_145 : decode b_M_taken 145 = .ok (.getfield 254, 3) := by decide +kernel
theorem d_M_taken_148 : decode b_M_taken 148 = .ok (.iload_n 1, 1) := by decide +kernel
theorem d_M_taken_149 : decode b_M_taken 149 = .ok (.iaload, 1) := by decide +kernel
theorem d_M_taken_150 : decode b_M_taken 150 = .ok (.if_icmp .ge 40, 3) := by decide +kernel
theorem d_M_taken_153 : decode b_M_taken 153 = .ok (.aload_n 0, 1) := by decide +kernel
theorem d_M_taken_154 : decode b_M_taken 154 = .ok (.getfield 10, 3) := by decide +kernel
theorem d_M_taken_157 : decode b_M_taken 157 = .ok (.sipush 13200, 3) := by decide +kernel
theorem d_M_taken_160 : decode b_M_taken 160 = .ok (.iload 4, 2) := by decide +kernel
theorem d_M_taken_162 : decode b_M_taken 162 = .ok (.iadd, 1) := by decide +kernel
theorem d_M_taken_163 : decode b_M_taken 163 = .ok (.aload_n 0, 1) := by decide +kernel
theorem d_M_taken_164 : decode b_M_taken 164 = .ok (.getfield 248, 3) := by decide +kernel
theorem d_M_taken_167 : decode b_M_taken 167 = .ok (.sipush 400, 3) := by decide +kernel
theorem d_M_taken_170 : decode b_M_taken 170 = .ok (.iload_n 1, 1) := by decide +kernel
theorem d_M_taken_171 : decode b_M_taken 171 = .ok (.imul, 1) := by decide +kernel
theorem d_M_taken_172 : decode b_M_taken 172 = .ok (.aload_n 0, 1) := by decide +kernel
theorem d_M_taken_173 : decode b_M_taken 173 = .ok (.getfield 251, 3) := by decide +kernel
theorem d_M_taken_176 : decode b_M_taken 176 = .ok (.iload_n 1, 1) := by decide +kernel
theorem d_M_taken_177 : decode b_M_taken 177 = .ok (.iaload, 1) := by decide +kernel
theorem d_M_taken_178 : decode b_M_taken 178 = .ok (.iadd, 1) := by decide +kernel
theorem d_M_taken_179 : decode b_M_taken 179 = .ok (.iload 4, 2) := by decide +kernel
theorem d_M_taken_181 : decode b_M_taken 181 = .ok (.iadd, 1) := by decide +kernel
theorem d_M_taken_182 : decode b_M_taken 182 = .ok (.baload, 1) := by decide +kernel
theorem d_M_taken_183 : decode b_M_taken 183 = .ok (.bastore, 1) := by decide +kernel
theorem d_M_taken_184 : decode b_M_taken 184 = .ok (.iinc 4 1, 3) := by decide +kernel
theorem d_M_taken_187 : decode b_M_taken 187 = .ok (.goto (-45), 3) := by decide +kernel
theorem d_M_taken_190 : decode b_M_taken 190 = .ok (.iload_n 3, 1) := by decide +kernel
theorem d_M_taken_191 : decode b_M_taken 191 = .ok (.ifCond .eq 39, 3) := by decide +kernel
theorem d_M_taken_194 : decode b_M_taken 194 = .ok (.aload_n 0, 1) := by decide +kernel
theorem d_M_taken_195 : decode b_M_taken 195 = .ok (.aload_n 0, 1) := by decide +kernel
theorem d_M_taken_196 : decode b_M_taken 196 = .ok (.iconst 0, 1) := by decide +kernel
theorem d_M_taken_197 : decode b_M_taken 197 = .ok (.iconst 4, 1) := by decide +kernel
theorem d_M_taken_198 : decode b_M_taken 198 = .ok (.invokevirtual 536, 3) := by decide +kernel
theorem d_M_taken_201 : decode b_M_taken 201 = .ok (.aload_n 0, 1) := by decide +kernel
theorem d_M_taken_202 : decode b_M_taken 202 = .ok (.iconst 0, 1) := by decide +kernel
theorem d_M_taken_203 : decode b_M_taken 203 = .ok (.iconst 4, 1) := by decide +kernel
theorem d_M_taken_204 : decode b_M_taken 204 = .ok (.invokevirtual 539, 3) := by decide +kernel
theorem d_M_taken_207 : decode b_M_taken 207 = .ok (.sipush 13200, 3) := by decide +kernel
theorem d_M_taken_210 : decode b_M_taken 210 = .ok (.sipush 13200, 3) := by decide +kernel
theorem d_M_taken_213 : decode b_M_taken 213 = .ok (.aload_n 0, 1) := by decide +kernel
theorem d_M_taken_214 : decode b_M_taken 214 = .ok (.getfield 254, 3) := by decide +kernel
theorem d_M_taken_217 : decode b_M_taken 217 = .ok (.iload_n 1, 1) := by decide +kernel
theorem d_M_taken_218 : decode b_M_taken 218 = .ok (.iaload, 1) := by decide +kernel
theorem d_M_taken_219 : decode b_M_taken 219 = .ok (.iadd, 1) := by decide +kernel
theorem d_M_taken_220 : decode b_M_taken 220 = .ok (.invokevirtual 790, 3) := by decide +kernel
theorem d_M_taken_223 : decode b_M_taken 223 = .ok (.ifCond .eq 7, 3) := by decide +kernel
theorem d_M_taken_226 : decode b_M_taken 226 = .ok (.iconst 1, 1) := by decide +kernel
theorem d_M_taken_227 : decode b_M_taken 227 = .ok (.goto 4, 3) := by decide +kernel
theorem d_M_taken_230 : decode b_M_taken 230 = .ok (.iconst 0, 1) := by decide +kernel
theorem d_M_taken_231 : decode b_M_taken 231 = .ok (.istore_n 3, 1) := by decide +kernel
theorem d_M_taken_232 : decode b_M_taken 232 = .ok (.iload_n 3, 1) := by decide +kernel
theorem d_M_taken_233 : decode b_M_taken 233 = .ok (.ifCond .eq 62, 3) := by decide +kernel
theorem d_M_taken_236 : decode b_M_taken 236 = .ok (.aload_n 0, 1) := by decide +kernel
theorem d_M_taken_237 : decode b_M_taken 237 = .ok (.aload_n 0, 1) := by decide +kernel
theorem d_M_taken_238 : decode b_M_taken 238 = .ok (.iconst 4, 1) := by decide +kernel
theorem d_M_taken_239 : decode b_M_taken 239 = .ok (.bipush 9, 2) := by decide +kernel
theorem d_M_taken_241 : decode b_M_taken 241 = .ok (.invokevirtual 536, 3) := by decide +kernel
theorem d_M_taken_244 : decode b_M_taken 244 = .ok (.aload_n 0, 1) := by decide +kernel
theorem d_M_taken_245 : decode b_M_taken 245 = .ok (.iconst 4, 1) := by decide +kernel
theorem d_M_taken_246 : decode b_M_taken 246 = .ok (.bipush 9, 2) := by decide +kernel
theorem d_M_taken_248 : decode b_M_taken 248 = .ok (.invokevirtual 539, 3) := by decide +kernel
theorem d_M_taken_251 : decode b_M_taken 251 = .ok (.ldc_w 621, 3) := by decide +kernel
theorem d_M_taken_254 : decode b_M_taken 254 = .ok (.invokevirtual 678, 3) := by decide +kernel
theorem d_M_taken_257 : decode b_M_taken 257 = .ok (.ifCond .eq 38, 3) := by decide +kernel
theorem d_M_taken_260 : decode b_M_taken 260 = .ok (.aload_n 0, 1) := by decide +kernel
theorem d_M_taken_261 : decode b_M_taken 261 = .ok (.aload_n 0, 1) := by decide +kernel
theorem d_M_taken_262 : decode b_M_taken 262 = .ok (.iconst 4, 1) := by decide +kernel
theorem d_M_taken_263 : decode b_M_taken 263 = .ok (.bipush 10, 2) := by decide +kernel
theorem d_M_taken_265 : decode b_M_taken 265 = .ok (.invokevirtual 536, 3) := by decide +kernel
theorem d_M_taken_268 : decode b_M_taken 268 = .ok (.aload_n 0, 1) := by decide +kernel
theorem d_M_taken_269 : decode b_M_taken 269 = .ok (.iconst 4, 1) := by decide +kernel
theorem d_M_taken_270 : decode b_M_taken 270 = .ok (.bipush 10, 2) := by decide +kernel
theorem d_M_taken_272 : decode b_M_taken 272 = .ok (.invokevirtual 539, 3) := by decide +kernel
theorem d_M_taken_275 : decode b_M_taken 275 = .ok (.aload_n 0, 1) := by decide +kernel
theorem d_M_taken_276 : decode b_M_taken 276 = .ok (.getfield 245, 3) := by decide +kernel
theorem d_M_taken_279 : decode b_M_taken 279 = .ok (.bipush 40, 2) := by decide +kernel
theorem d_M_taken_281 : decode b_M_taken 281 = .ok (.iload_n 1, 1) := by decide +kernel
theorem d_M_taken_282 : decode b_M_taken 282 = .ok (.imul, 1) := by decide +kernel
theorem d_M_taken_283 : decode b_M_taken 283 = .ok (.aload_n 0, 1) := by decide +kernel
theorem d_M_taken_284 : decode b_M_taken 284 = .ok (.getfield 233, 3) := by decide +kernel
theorem d_M_taken_287 : decode b_M_taken 287 = .ok (.iload_n 1, 1) := by decide +kernel
theorem d_M_taken_288 : decode b_M_taken 288 = .ok (.iaload, 1) := by decide +kernel
theorem d_M_taken_289 : decode b_M_taken 289 = .ok (.invokevirtual 967, 3) := by decide +kernel
theorem d_M_taken_292 : decode b_M_taken 292 = .ok (.ifCond .ne 6, 3) := by decide +kernel
theorem d_M_taken_295 : decode b_M_taken 295 = .ok (.bipush (-41), 2) := by decide +kernel
theorem d_M_taken_297 : decode b_M_taken 297 = .ok (.ireturn, 1) := by decide +kernel
theorem d_M_taken_298 : decode b_M_taken 298 = .ok (.aload_n 0, 1) := by decide +kernel
theorem d_M_taken_299 : decode b_M_taken 299 = .ok (.aload_n 0, 1) := by decide +kernel
theorem d_M_taken_300 : decode b_M_taken 300 = .ok (.iconst 4, 1) := by decide +kernel
theorem d_M_taken_301 : decode b_M_taken 301 = .ok (.bipush 9, 2) := by decide +kernel
theorem d_M_taken_303 : decode b_M_taken 303 = .ok (.invokevirtual 536, 3) := by decide +kernel
theorem d_M_taken_306 : decode b_M_taken 306 = .ok (.aload_n 0, 1) := by decide +kernel
theorem d_M_taken_307 : decode b_M_taken 307 = .ok (.iconst 4, 1) := by decide +kernel
theorem d_M_taken_308 : decode b_M_taken 308 = .ok (.bipush 9, 2) := by decide +kernel
theorem d_M_taken_310 : decode b_M_taken 310 = .ok (.invokevirtual 539, 3) := by decide +kernel
theorem d_M_taken_313 : decode b_M_taken 313 = .ok (.aload_n 0, 1) := by decide +kernel
theorem d_M_taken_314 : decode b_M_taken 314 = .ok (.iconst 3, 1) := by decide +kernel
theorem d_M_taken_315 : decode b_M_taken 315 = .ok (.iconst 1, 1) := by decide +kernel
theorem d_M_taken_316 : decode b_M_taken 316 = .ok (.invokevirtual 536, 3) := by decide +kernel
theorem d_M_taken_319 : decode b_M_taken 319 = .ok (.aload_n 0, 1) := by decide +kernel
theorem d_M_taken_320 : decode b_M_taken 320 = .ok (.iconst 3, 1) := by decide +kernel
theorem d_M_taken_321 : decode b_M_taken 321 = .ok (.iconst 1, 1) := by decide +kernel
theorem d_M_taken_322 : decode b_M_taken 322 = .ok (.invokevirtual 539, 3) := by decide +kernel
theorem d_M_taken_325 : decode b_M_taken 325 = .ok (.invokevirtual 549, 3) := by decide +kernel
theorem d_M_taken_328 : decode b_M_taken 328 = .ok (.ifCond .eq 36, 3) := by decide +kernel
theorem d_M_taken_331 : decode b_M_taken 331 = .ok (.aload_n 0, 1) := by decide +kernel
theorem d_M_taken_332 : decode b_M_taken 332 = .ok (.aload_n 0, 1) := by decide +kernel
theorem d_M_taken_333 : decode b_M_taken 333 = .ok (.iconst 4, 1) := by decide +kernel
theorem d_M_taken_334 : decode b_M_taken 334 = .ok (.bipush 10, 2) := by decide +kernel
theorem d_M_taken_336 : decode b_M_taken 336 = .ok (.invokevirtual 536, 3) := by decide +kernel
theorem d_M_taken_339 : decode b_M_taken 339 = .ok (.aload_n 0, 1) := by decide +kernel
theorem d_M_taken_340 : decode b_M_taken 340 = .ok (.iconst 4, 1) := by decide +kernel
theorem d_M_taken_341 : decode b_M_taken 341 = .ok (.bipush 10, 2) := by decide +kernel
theorem d_M_taken_343 : decode b_M_taken 343 = .ok (.invokevirtual 539, 3) := by decide +kernel
theorem d_M_taken_346 : decode b_M_taken 346 = .ok (.aload_n 0, 1) := by decide +kernel
theorem d_M_taken_347 : decode b_M_taken 347 = .ok (.iconst 3, 1) := by decide +kernel
theorem d_M_taken_348 : decode b_M_taken 348 = .ok (.iconst 2, 1) := by decide +kernel
theorem d_M_taken_349 : decode b_M_taken 349 = .ok (.invokevirtual 536, 3) := by decide +kernel
theorem d_M_taken_352 : decode b_M_taken 352 = .ok (.aload_n 0, 1) := by decide +kernel
theorem d_M_taken_353 : decode b_M_taken 353 = .ok (.iconst 3, 1) := by decide +kernel
theorem d_M_taken_354 : decode b_M_taken 354 = .ok (.iconst 2, 1) := by decide +kernel
theorem d_M_taken_355 : decode b_M_taken 355 = .ok (.invokevirtual 539, 3) := by decide +kernel
theorem d_M_taken_358 : decode b_M_taken 358 = .ok (.invokevirtual 790, 3) := by decide +kernel
theorem d_M_taken_361 : decode b_M_taken 361 = .ok (.ifCond .ne 6, 3) := by decide +kernel
theorem d_M_taken_364 : decode b_M_taken 364 = .ok (.bipush (-41), 2) := by decide +kernel
theorem d_M_taken_366 : decode b_M_taken 366 = .ok (.ireturn, 1) := by decide +kernel
theorem d_M_taken_367 : decode b_M_taken 367 = .ok (.aload_n 0, 1) := by decide +kernel
theorem d_M_taken_368 : decode b_M_taken 368 = .ok (.iconst 4, 1) := by decide +kernel
theorem d_M_taken_369 : decode b_M_taken 369 = .ok (.iconst 0, 1) := by decide +kernel
theorem d_M_taken_370 : decode b_M_taken 370 = .ok (.aload_n 0, 1) := by decide +kernel
theorem d_M_taken_371 : decode b_M_taken 371 = .ok (.getfield 140, 3) := by decide +kernel
theorem d_M_taken_374 : decode b_M_taken 374 = .ok (.invokevirtual 781, 3) := by decide +kernel
theorem d_M_taken_377 : decode b_M_taken 377 = .ok (.istore 4, 2) := by decide +kernel
theorem d_M_taken_379 : decode b_M_taken 379 = .ok (.iload 4, 2) := by decide +kernel
theorem d_M_taken_381 : decode b_M_taken 381 = .ok (.ifCond .ne 6, 3) := by decide +kernel
theorem d_M_taken_384 : decode b_M_taken 384 = .ok (.bipush (-14), 2) := by decide +kernel
theorem d_M_taken_386 : decode b_M_taken 386 = .ok (.ireturn, 1) := by decide +kernel
theorem d_M_taken_387 : decode b_M_taken 387 = .ok (.aload_n 0, 1) := by decide +kernel
theorem d_M_taken_388 : decode b_M_taken 388 = .ok (.getfield 239, 3) := by decide +kernel
theorem d_M_taken_391 : decode b_M_taken 391 = .ok (.iload_n 1, 1) := by decide +kernel
theorem d_M_taken_392 : decode b_M_taken 392 = .ok (.baload, 1) := by decide +kernel
theorem d_M_taken_393 : decode b_M_taken 393 = .ok (.ifCond .ne 26, 3) := by decide +kernel
theorem d_M_taken_396 : decode b_M_taken 396 = .ok (.aload_n 0, 1) := by decide +kernel
theorem d_M_taken_397 : decode b_M_taken 397 = .ok (.aload_n 0, 1) := by decide +kernel
theorem d_M_taken_398 : decode b_M_taken 398 = .ok (.iconst 4, 1) := by decide +kernel
theorem d_M_taken_399 : decode b_M_taken 399 = .ok (.bipush 6, 2) := by decide +kernel
theorem d_M_taken_401 : decode b_M_taken 401 = .ok (.iconst 5, 1) := by decide +kernel
theorem d_M_taken_402 : decode b_M_taken 402 = .ok (.invokevirtual 816, 3) := by decide +kernel
theorem d_M_taken_405 : decode b_M_taken 405 = .ok (.aload_n 0, 1) := by decide +kernel
theorem d_M_taken_406 : decode b_M_taken 406 = .ok (.iload_n 1, 1) := by decide +kernel
theorem d_M_taken_407 : decode b_M_taken 407 = .ok (.invokevirtual 927, 3) := by decide +kernel
theorem d_M_taken_410 : decode b_M_taken 410 = .ok (.invokevirtual 771, 3) := by decide +kernel
theorem d_M_taken_413 : decode b_M_taken 413 = .ok (.ifCond .eq 6, 3) := by decide +kernel
theorem d_M_taken_416 : decode b_M_taken 416 = .ok (.bipush (-37), 2) := by decide +kernel
theorem d_M_taken_418 : decode b_M_taken 418 = .ok (.ireturn, 1) := by decide +kernel
theorem d_M_taken_419 : decode b_M_taken 419 = .ok (.iconst 0, 1) := by decide +kernel
theorem d_M_taken_420 : decode b_M_taken 420 = .ok (.istore 5, 2) := by decide +kernel
theorem d_M_taken_422 : decode b_M_taken 422 = .ok (.iload 5, 2) := by decide +kernel
theorem d_M_taken_424 : decode b_M_taken 424 = .ok (.bipush 8, 2) := by decide +kernel
theorem d_M_taken_426 : decode b_M_taken 426 = .ok (.if_icmp .ge 24, 3) := by decide +kernel
theorem d_M_taken_429 : decode b_M_taken 429 = .ok (.aload_n 0, 1) := by decide +kernel
theorem d_M_taken_430 : decode b_M_taken 430 = .ok (.getfield 184, 3) := by decide +kernel
theorem d_M_taken_433 : decode b_M_taken 433 = .ok (.bipush 8, 2) := by decide +kernel
theorem d_M_taken_435 : decode b_M_taken 435 = .ok (.iload_n 1, 1) := by decide +kernel
theorem d_M_taken_436 : decode b_M_taken 436 = .ok (.imul, 1) := by decide +kernel
theorem d_M_taken_437 : decode b_M_taken 437 = .ok (.iload 5, 2) := by decide +kernel
theorem d_M_taken_439 : decode b_M_taken 439 = .ok (.iadd, 1) := by decide +kernel
theorem d_M_taken_440 : decode b_M_taken 440 = .ok (.baload, 1) := by decide +kernel
theorem d_M_taken_441 : decode b_M_taken 441 = .ok (.ifCond .eq 9, 3) := by decide +kernel
theorem d_M_taken_444 : decode b_M_taken 444 = .ok (.iinc 5 1, 3) := by decide +kernel
theorem d_M_taken_447 : decode b_M_taken 447 = .ok (.goto (-25), 3) := by decide +kernel
theorem d_M_taken_450 : decode b_M_taken 450 = .ok (.iload 5, 2) := by decide +kernel
theorem d_M_taken_452 : decode b_M_taken 452 = .ok (.bipush 8, 2) := by decide +kernel
theorem d_M_taken_454 : decode b_M_taken 454 = .ok (.if_icmp .ne 6, 3) := by decide +kernel
theorem d_M_taken_457 : decode b_M_taken 457 = .ok (.bipush (-2), 2) := by decide +kernel
theorem d_M_taken_459 : decode b_M_taken 459 = .ok (.ireturn, 1) := by decide +kernel
theorem d_M_taken_460 : decode b_M_taken 460 = .ok (.bipush 8, 2) := by decide +kernel
theorem d_M_taken_462 : decode b_M_taken 462 = .ok (.iload_n 1, 1) := by decide +kernel
theorem d_M_taken_463 : decode b_M_taken 463 = .ok (.imul, 1) := by decide +kernel
theorem d_M_taken_464 : decode b_M_taken 464 = .ok (.iload 5, 2) := by decide +kernel
theorem d_M_taken_466 : decode b_M_taken 466 = .ok (.iadd, 1) := by decide +kernel
theorem d_M_taken_467 : decode b_M_taken 467 = .ok (.istore 6, 2) := by decide +kernel
theorem d_M_taken_469 : decode b_M_taken 469 = .ok (.aload_n 0, 1) := by decide +kernel
theorem d_M_taken_470 : decode b_M_taken 470 = .ok (.getfield 184, 3) := by decide +kernel
theorem d_M_taken_473 : decode b_M_taken 473 = .ok (.iload 6, 2) := by decide +kernel
theorem d_M_taken_475 : decode b_M_taken 475 = .ok (.iconst 1, 1) := by decide +kernel
theorem d_M_taken_476 : decode b_M_taken 476 = .ok (.bastore, 1) := by decide +kernel
theorem d_M_taken_477 : decode b_M_taken 477 = .ok (.aload_n 0, 1) := by decide +kernel
theorem d_M_taken_478 : decode b_M_taken 478 = .ok (.getfield 200, 3) := by decide +kernel
theorem d_M_taken_481 : decode b_M_taken 481 = .ok (.iload 6, 2) := by decide +kernel
theorem d_M_taken_483 : decode b_M_taken 483 = .ok (.iload 4, 2) := by decide +kernel
theorem d_M_taken_485 : decode b_M_taken 485 = .ok (.iastore, 1) := by decide +kernel
theorem d_M_taken_486 : decode b_M_taken 486 = .ok (.iconst 0, 1) := by decide +kernel
theorem d_M_taken_487 : decode b_M_taken 487 = .ok (.istore 7, 2) := by decide +kernel
theorem d_M_taken_489 : decode b_M_taken 489 = .ok (.iload 7, 2) := by decide +kernel
theorem d_M_taken_491 : decode b_M_taken 491 = .ok (.bipush 32, 2) := by decide +kernel
theorem d_M_taken_493 : decode b_M_taken 493 = .ok (.if_icmp .ge 29, 3) := by decide +kernel
theorem d_M_taken_496 : decode b_M_taken 496 = .ok (.aload_n 0, 1) := by decide +kernel
theorem d_M_taken_497 : decode b_M_taken 497 = .ok (.getfield 191, 3) := by decide +kernel
theorem d_M_taken_500 : decode b_M_taken 500 = .ok (.bipush 32, 2) := by decide +kernel
theorem d_M_taken_502 : decode b_M_taken 502 = .ok (.iload 6, 2) := by decide +kernel
theorem d_M_taken_504 : decode b_M_taken 504 = .ok (.imul, 1) := by decide +kernel
theorem d_M_taken_505 : decode b_M_taken 505 = .ok (.iload 7, 2) := by decide +kernel
theorem d_M_taken_507 : decode b_M_taken 507 = .ok (.iadd, 1) := by decide +kernel
theorem d_M_taken_508 : decode b_M_taken 508 = .ok (.aload_n 0, 1) := by decide +kernel
theorem d_M_taken_509 : decode b_M_taken 509 = .ok (.getfield 140, 3) := by decide +kernel
theorem d_M_taken_512 : decode b_M_taken 512 = .ok (.iload 7, 2) := by decide +kernel
theorem d_M_taken_514 : decode b_M_taken 514 = .ok (.baload, 1) := by decide +kernel
theorem d_M_taken_515 : decode b_M_taken 515 = .ok (.bastore, 1) := by decide +kernel
theorem d_M_taken_516 : decode b_M_taken 516 = .ok (.iinc 7 1, 3) := by decide +kernel
theorem d_M_taken_519 : decode b_M_taken 519 = .ok (.goto (-30), 3) := by decide +kernel
theorem d_M_taken_522 : decode b_M_taken 522 = .ok (.aload_n 0, 1) := by decide +kernel
theorem d_M_taken_523 : decode b_M_taken 523 = .ok (.getfield 197, 3) := by decide +kernel
theorem d_M_taken_526 : decode b_M_taken 526 = .ok (.iload 6, 2) := by decide +kernel
theorem d_M_taken_528 : decode b_M_taken 528 = .ok (.aload_n 0, 1) := by decide +kernel
theorem d_M_taken_529 : decode b_M_taken 529 = .ok (.iconst 4, 1) := by decide +kernel
theorem d_M_taken_530 : decode b_M_taken 530 = .ok (.iconst 4, 1) := by decide +kernel
theorem d_M_taken_531 : decode b_M_taken 531 = .ok (.invokevirtual 704, 3) := by decide +kernel
theorem d_M_taken_534 : decode b_M_taken 534 = .ok (.iastore, 1) := by decide +kernel
theorem d_M_taken_535 : decode b_M_taken 535 = .ok (.aload_n 0, 1) := by decide +kernel
theorem d_M_taken_536 : decode b_M_taken 536 = .ok (.getfield 203, 3) := by decide +kernel
theorem d_M_taken_539 : decode b_M_taken 539 = .ok (.iload 6, 2) := by decide +kernel
theorem d_M_taken_541 : decode b_M_taken 541 = .ok (.aload_n 0, 1) := by decide +kernel
theorem d_M_taken_542 : decode b_M_taken 542 = .ok (.iconst 4, 1) := by decide +kernel
theorem d_M_taken_543 : decode b_M_taken 543 = .ok (.iconst 5, 1) := by decide +kernel
theorem d_M_taken_544 : decode b_M_taken 544 = .ok (.invokevirtual 731, 3) := by decide +kernel
theorem d_M_taken_547 : decode b_M_taken 547 = .ok (.lastore, 1) := by decide +kernel
theorem d_M_taken_548 : decode b_M_taken 548 = .ok (.aload_n 0, 1) := by decide +kernel
theorem d_M_taken_549 : decode b_M_taken 549 = .ok (.getfield 206, 3) := by decide +kernel
theorem d_M_taken_552 : decode b_M_taken 552 = .ok (.iload 6, 2) := by decide +kernel
theorem d_M_taken_554 : decode b_M_taken 554 = .ok (.aload_n 0, 1) := by decide +kernel
theorem d_M_taken_555 : decode b_M_taken 555 = .ok (.iconst 4, 1) := by decide +kernel
theorem d_M_taken_556 : decode b_M_taken 556 = .ok (.bipush 6, 2) := by decide +kernel
theorem d_M_taken_558 : decode b_M_taken 558 = .ok (.invokevirtual 675, 3) := by decide +kernel
theorem d_M_taken_561 : decode b_M_taken 561 = .ok (.ifCond .eq 13, 3) := by decide +kernel
theorem d_M_taken_564 : decode b_M_taken 564 = .ok (.aload_n 0, 1) := by decide +kernel
theorem d_M_taken_565 : decode b_M_taken 565 = .ok (.iconst 4, 1) := by decide +kernel
theorem d_M_taken_566 : decode b_M_taken 566 = .ok (.bipush 6, 2) := by decide +kernel
theorem d_M_taken_568 : decode b_M_taken 568 = .ok (.invokevirtual 731, 3) := by decide +kernel
theorem d_M_taken_571 : decode b_M_taken 571 = .ok (.goto 6, 3) := by decide +kernel
theorem d_M_taken_574 : decode b_M_taken 574 = .ok (.ldc2_w 459, 3) := by decide +kernel
theorem d_M_taken_577 : decode b_M_taken 577 = .ok (.lastore, 1) := by decide +kernel
theorem d_M_taken_578 : decode b_M_taken 578 = .ok (.aload_n 0, 1) := by decide +kernel
theorem d_M_taken_579 : decode b_M_taken 579 = .ok (.getfield 209, 3) := by decide +kernel
theorem d_M_taken_582 : decode b_M_taken 582 = .ok (.iload 6, 2) := by decide +kernel
theorem d_M_taken_584 : decode b_M_taken 584 = .ok (.aload_n 0, 1) := by decide +kernel
theorem d_M_taken_585 : decode b_M_taken 585 = .ok (.iconst 4, 1) := by decide +kernel
theorem d_M_taken_586 : decode b_M_taken 586 = .ok (.bipush 7, 2) := by decide +kernel
theorem d_M_taken_588 : decode b_M_taken 588 = .ok (.invokevirtual 731, 3) := by decide +kernel
theorem d_M_taken_591 : decode b_M_taken 591 = .ok (.lastore, 1) := by decide +kernel
theorem d_M_taken_592 : decode b_M_taken 592 = .ok (.aload_n 0, 1) := by decide +kernel
theorem d_M_taken_593 : decode b_M_taken 593 = .ok (.getfield 212, 3) := by decide +kernel
theorem d_M_taken_596 : decode b_M_taken 596 = .ok (.iload 6, 2) := by decide +kernel
theorem d_M_taken_598 : decode b_M_taken 598 = .ok (.aload_n 0, 1) := by decide +kernel
theorem d_M_taken_599 : decode b_M_taken 599 = .ok (.iconst 4, 1) := by decide +kernel
theorem d_M_taken_600 : decode b_M_taken 600 = .ok (.bipush 8, 2) := by decide +kernel
theorem d_M_taken_602 : decode b_M_taken 602 = .ok (.invokevirtual 675, 3) := by decide +kernel
theorem d_M_taken_605 : decode b_M_taken 605 = .ok (.ifCond .eq 13, 3) := by decide +kernel
theorem d_M_taken_608 : decode b_M_taken 608 = .ok (.aload_n 0, 1) := by decide +kernel
theorem d_M_taken_609 : decode b_M_taken 609 = .ok (.iconst 4, 1) := by decide +kernel
theorem d_M_taken_610 : decode b_M_taken 610 = .ok (.bipush 8, 2) := by decide +kernel
theorem d_M_taken_612 : decode b_M_taken 612 = .ok (.invokevirtual 731, 3) := by decide +kernel
theorem d_M_taken_615 : decode b_M_taken 615 = .ok (.goto 6, 3) := by decide +kernel
theorem d_M_taken_618 : decode b_M_taken 618 = .ok (.ldc2_w 459, 3) := by decide +kernel
theorem d_M_taken_621 : decode b_M_taken 621 = .ok (.lastore, 1) := by decide +kernel
theorem d_M_taken_622 : decode b_M_taken 622 = .ok (.aload_n 0, 1) := by decide +kernel
theorem d_M_taken_623 : decode b_M_taken 623 = .ok (.getfield 194, 3) := by decide +kernel
theorem d_M_taken_626 : decode b_M_taken 626 = .ok (.iload 6, 2) := by decide +kernel
theorem d_M_taken_628 : decode b_M_taken 628 = .ok (.aload_n 0, 1) := by decide +kernel
theorem d_M_taken_629 : decode b_M_taken 629 = .ok (.iconst 0, 1) := by decide +kernel
theorem d_M_taken_630 : decode b_M_taken 630 = .ok (.iconst 5, 1) := by decide +kernel
theorem d_M_taken_631 : decode b_M_taken 631 = .ok (.invokevirtual 539, 3) := by decide +kernel
theorem d_M_taken_634 : decode b_M_taken 634 = .ok (.aload_n 0, 1) := by decide +kernel
theorem d_M_taken_635 : decode b_M_taken 635 = .ok (.iconst 0, 1) := by decide +kernel
theorem d_M_taken_636 : decode b_M_taken 636 = .ok (.iconst 5, 1) := by decide +kernel
theorem d_M_taken_637 : decode b_M_taken 637 = .ok (.invokevirtual 536, 3) := by decide +kernel
theorem d_M_taken_640 : decode b_M_taken 640 = .ok (.isub, 1) := by decide +kernel
theorem d_M_taken_641 : decode b_M_taken 641 = .ok (.iastore, 1) := by decide +kernel
theorem d_M_taken_642 : decode b_M_taken 642 = .ok (.iconst 0, 1) := by decide +kernel
theorem d_M_taken_643 : decode b_M_taken 643 = .ok (.istore 7, 2) := by decide +kernel
theorem d_M_taken_645 : decode b_M_taken 645 = .ok (.iload 7, 2) := by decide +kernel
theorem d_M_taken_647 : decode b_M_taken 647 = .ok (.aload_n 0, 1) := by decide +kernel
theorem d_M_taken_648 : decode b_M_taken 648 = .ok (.getfield 194, 3) := by decide +kernel
theorem d_M_taken_651 : decode b_M_taken 651 = .ok (.iload 6, 2) := by decide +kernel
theorem d_M_taken_653 : decode b_M_taken 653 = .ok (.iaload, 1) := by decide +kernel
theorem d_M_taken_654 : decode b_M_taken 654 = .ok (.if_icmp .ge 37, 3) := by decide +kernel
theorem d_M_taken_657 : decode b_M_taken 657 = .ok (.aload_n 0, 1) := by decide +kernel
theorem d_M_taken_658 : decode b_M_taken 658 = .ok (.getfield 188, 3) := by decide +kernel
theorem d_M_taken_661 : decode b_M_taken 661 = .ok (.sipush 4200, 3) := by decide +kernel
theorem d_M_taken_664 : decode b_M_taken 664 = .ok (.iload 6, 2) := by decide +kernel
theorem d_M_taken_666 : decode b_M_taken 666 = .ok (.imul, 1) := by decide +kernel
theorem d_M_taken_667 : decode b_M_taken 667 = .ok (.iload 7, 2) := by decide +kernel
theorem d_M_taken_669 : decode b_M_taken 669 = .ok (.iadd, 1) := by decide +kernel
theorem d_M_taken_670 : decode b_M_taken 670 = .ok (.aload_n 0, 1) := by decide +kernel
theorem d_M_taken_671 : decode b_M_taken 671 = .ok (.getfield 10, 3) := by decide +kernel
theorem d_M_taken_674 : decode b_M_taken 674 = .ok (.aload_n 0, 1) := by decide +kernel
theorem d_M_taken_675 : decode b_M_taken 675 = .ok (.iconst 0, 1) := by decide +kernel
theorem d_M_taken_676 : decode b_M_taken 676 = .ok (.iconst 5, 1) := by decide +kernel
theorem d_M_taken_677 : decode b_M_taken 677 = .ok (.invokevirtual 536, 3) := by decide +kernel
theorem d_M_taken_680 : decode b_M_taken 680 = .ok (.iload 7, 2) := by decide +kernel
theorem d_M_taken_682 : decode b_M_taken 682 = .ok (.iadd, 1) := by decide +kernel
theorem d_M_taken_683 : decode b_M_taken 683 = .ok (.baload, 1) := by decide +kernel
theorem d_M_taken_684 : decode b_M_taken 684 = .ok (.bastore, 1) := by decide +kernel
theorem d_M_taken_685 : decode b_M_taken 685 = .ok (.iinc 7 1, 3) := by decide +kernel
theorem d_M_taken_688 : decode b_M_taken 688 = .ok (.goto (-43), 3) := by decide +kernel
theorem d_M_taken_691 : decode b_M_taken 691 = .ok (.aload_n 0, 1) := by decide +kernel
theorem d_M_taken_692 : decode b_M_taken 692 = .ok (.getfield 218, 3) := by decide +kernel
theorem d_M_taken_695 : decode b_M_taken 695 = .ok (.iload 6, 2) := by decide +kernel
theorem d_M_taken_697 : decode b_M_taken 697 = .ok (.aload_n 0, 1) := by decide +kernel
theorem d_M_taken_698 : decode b_M_taken 698 = .ok (.iconst 0, 1) := by decide +kernel
theorem d_M_taken_699 : decode b_M_taken 699 = .ok (.iconst 3, 1) := by decide +kernel
theorem d_M_taken_700 : decode b_M_taken 700 = .ok (.invokevirtual 539, 3) := by decide +kernel
theorem d_M_taken_703 : decode b_M_taken 703 = .ok (.aload_n 0, 1) := by decide +kernel
theorem d_M_taken_704 : decode b_M_taken 704 = .ok (.iconst 0, 1) := by decide +kernel
theorem d_M_taken_705 : decode b_M_taken 705 = .ok (.iconst 3, 1) := by decide +kernel
theorem d_M_taken_706 : decode b_M_taken 706 = .ok (.invokevirtual 536, 3) := by decide +kernel
theorem d_M_taken_709 : decode b_M_taken 709 = .ok (.isub, 1) := by decide +kernel
theorem d_M_taken_710 : decode b_M_taken 710 = .ok (.iastore, 1) := by decide +kernel
theorem d_M_taken_711 : decode b_M_taken 711 = .ok (.aload_n 0, 1) := by decide +kernel
theorem d_M_taken_712 : decode b_M_taken 712 = .ok (.getfield 221, 3) := by decide +kernel
theorem d_M_taken_715 : decode b_M_taken 715 = .ok (.iload 6, 2) := by decide +kernel
theorem d_M_taken_717 : decode b_M_taken 717 = .ok (.aload_n 0, 1) := by decide +kernel
theorem d_M_taken_718 : decode b_M_taken 718 = .ok (.iconst 0, 1) := by decide +kernel
theorem d_M_taken_719 : decode b_M_taken 719 = .ok (.iconst 4, 1) := by decide +kernel
theorem d_M_taken_720 : decode b_M_taken 720 = .ok (.invokevirtual 539, 3) := by decide +kernel
theorem d_M_taken_723 : decode b_M_taken 723 = .ok (.aload_n 0, 1) := by decide +kernel
theorem d_M_taken_724 : decode b_M_taken 724 = .ok (.iconst 0, 1) := by decide +kernel
theorem d_M_taken_725 : decode b_M_taken 725 = .ok (.iconst 4, 1) := by decide +kernel
theorem d_M_taken_726 : decode b_M_taken 726 = .ok (.invokevirtual 536, 3) := by decide +kernel
theorem d_M_taken_729 : decode b_M_taken 729 = .ok (.isub, 1) := by decide +kernel
theorem d_M_taken_730 : decode b_M_taken 730 = .ok (.iastore, 1) := by decide +kernel
theorem d_M_taken_731 : decode b_M_taken 731 = .ok (.iconst 0, 1) := by decide +kernel
theorem d_M_taken_732 : decode b_M_taken 732 = .ok (.istore 7, 2) := by decide +kernel
theorem d_M_taken_734 : decode b_M_taken 734 = .ok (.iload 7, 2) := by decide +kernel
theorem d_M_taken_736 : decode b_M_taken 736 = .ok (.aload_n 0, 1) := by decide +kernel
theorem d_M_taken_737 : decode b_M_taken 737 = .ok (.getfield 218, 3) := by decide +kernel
theorem d_M_taken_740 : decode b_M_taken 740 = .ok (.iload 6, 2) := by decide +kernel
theorem d_M_taken_742 : decode b_M_taken 742 = .ok (.iaload, 1) := by decide +kernel
theorem d_M_taken_743 : decode b_M_taken 743 = .ok (.if_icmp .ge 37, 3) := by decide +kernel
theorem d_M_taken_746 : decode b_M_taken 746 = .ok (.aload_n 0, 1) := by decide +kernel
theorem d_M_taken_747 : decode b_M_taken 747 = .ok (.getfield 215, 3) := by decide +kernel
theorem d_M_taken_750 : decode b_M_taken 750 = .ok (.sipush 400, 3) := by decide +kernel
theorem d_M_taken_753 : decode b_M_taken 753 = .ok (.iload 6, 2) := by decide +kernel
theorem d_M_taken_755 : decode b_M_taken 755 = .ok (.imul, 1) := by decide +kernel
theorem d_M_taken_756 : decode b_M_taken 756 = .ok (.iload 7, 2) := by decide +kernel
theorem d_M_taken_758 : decode b_M_taken 758 = .ok (.iadd, 1) := by decide +kernel
theorem d_M_taken_759 : decode b_M_taken 759 = .ok (.aload_n 0, 1) := by decide +kernel
theorem d_M_taken_760 : decode b_M_taken 760 = .ok (.getfield 10, 3) := by decide +kernel
theorem d_M_taken_763 : decode b_M_taken 763 = .ok (.aload_n 0, 1) := by decide +kernel
theorem d_M_taken_764 : decode b_M_taken 764 = .ok (.iconst 0, 1) := by decide +kernel
theorem d_M_taken_765 : decode b_M_taken 765 = .ok (.iconst 3, 1) := by decide +kernel
theorem d_M_taken_766 : decode b_M_taken 766 = .ok (.invokevirtual 536, 3) := by decide +kernel
theorem d_M_taken_769 : decode b_M_taken 769 = .ok (.iload 7, 2) := by decide +kernel
theorem d_M_taken_771 : decode b_M_taken 771 = .ok (.iadd, 1) := by decide +kernel
theorem d_M_taken_772 : decode b_M_taken 772 = .ok (.baload, 1) := by decide +kernel
theorem d_M_taken_773 : decode b_M_taken 773 = .ok (.bastore, 1) := by decide +kernel
theorem d_M_taken_774 : decode b_M_taken 774 = .ok (.iinc 7 1, 3) := by decide +kernel
theorem d_M_taken_777 : decode b_M_taken 777 = .ok (.goto (-43), 3) := by decide +kernel
theorem d_M_taken_780 : decode b_M_taken 780 = .ok (.iconst 0, 1) := by decide +kernel
theorem d_M_taken_781 : decode b_M_taken 781 = .ok (.istore 7, 2) := by decide +kernel
theorem d_M_taken_783 : decode b_M_taken 783 = .ok (.iload 7, 2) := by decide +kernel
theorem d_M_taken_785 : decode b_M_taken 785 = .ok (.aload_n 0, 1) := by decide +kernel
theorem d_M_taken_786 : decode b_M_taken 786 = .ok (.getfield 221, 3) := by decide +kernel
theorem d_M_taken_789 : decode b_M_taken 789 = .ok (.iload 6, 2) := by decide +kernel
theorem d_M_taken_791 : decode b_M_taken 791 = .ok (.iaload, 1) := by decide +kernel
theorem d_M_taken_792 : decode b_M_taken 792 = .ok (.if_icmp .ge 45, 3) := by decide +kernel
theorem d_M_taken_795 : decode b_M_taken 795 = .ok (.aload_n 0, 1) := by decide +kernel
theorem d_M_taken_796 : decode b_M_taken 796 = .ok (.getfield 215, 3) := by decide +kernel
theorem d_M_taken_799 : decode b_M_taken 799 = .ok (.sipush 400, 3) := by decide +kernel
theorem d_M_taken_802 : decode b_M_taken 802 = .ok (.iload 6, 2) := by decide +kernel
theorem d_M_taken_804 : decode b_M_taken 804 = .ok (.imul, 1) := by decide +kernel
theorem d_M_taken_805 : decode b_M_taken 805 = .ok (.aload_n 0, 1) := by decide +kernel
theorem d_M_taken_806 : decode b_M_taken 806 = .ok (.getfield 218, 3) := by decide +kernel
theorem d_M_taken_809 : decode b_M_taken 809 = .ok (.iload 6, 2) := by decide +kernel
theorem d_M_taken_811 : decode b_M_taken 811 = .ok (.iaload, 1) := by decide +kernel
theorem d_M_taken_812 : decode b_M_taken 812 = .ok (.iadd, 1) := by decide +kernel
theorem d_M_taken_813 : decode b_M_taken 813 = .ok (.iload 7, 2) := by decide +kernel
theorem d_M_taken_815 : decode b_M_taken 815 = .ok (.iadd, 1) := by decide +kernel
theorem d_M_taken_816 : decode b_M_taken 816 = .ok (.aload_n 0, 1) := by decide +kernel
theorem d_M_taken_817 : decode b_M_taken 817 = .ok (.getfield 10, 3) := by decide +kernel
theorem d_M_taken_820 : decode b_M_taken 820 = .ok (.aload_n 0, 1) := by decide +kernel
theorem d_M_taken_821 : decode b_M_taken 821 = .ok (.iconst 0, 1) := by decide +kernel
theorem d_M_taken_822 : decode b_M_taken 822 = .ok (.iconst 4, 1) := by decide +kernel
theorem d_M_taken_823 : decode b_M_taken 823 = .ok (.invokevirtual 536, 3) := by decide +kernel
theorem d_M_taken_826 : decode b_M_taken 826 = .ok (.iload 7, 2) := by decide +kernel
theorem d_M_taken_828 : decode b_M_taken 828 = .ok (.iadd, 1) := by decide +kernel
theorem d_M_taken_829 : decode b_M_taken 829 = .ok (.baload, 1) := by decide +kernel
theorem d_M_taken_830 : decode b_M_taken 830 = .ok (.bastore, 1) := by decide +kernel
theorem d_M_taken_831 : decode b_M_taken 831 = .ok (.iinc 7 1, 3) := by decide +kernel
theorem d_M_taken_834 : decode b_M_taken 834 = .ok (.goto (-51), 3) := by decide +kernel
theorem d_M_taken_837 : decode b_M_taken 837 = .ok (.iload 5, 2) := by decide +kernel
theorem d_M_taken_839 : decode b_M_taken 839 = .ok (.ireturn, 1) := by decide +kernel
abbrev b_M_present : ByteArray := prog_14_method_142_code
def y_M_present : MethodName := ⟨R_M, "present", "(III)I"⟩
abbrev k_M_present : Cond := .code y_M_present b_M_present 9 (some .int)
theorem ki_M_present : k_M_present ∈ lw_tg := List.mem_filter.mpr ⟨List.mem_append_right _ (List.mem_append_right _ (List.mem_append_right _ (List.mem_append_right _ (List.mem_append_right _ (List.mem_append_right _ (List.mem_append_right _ (List.mem_append_right _ (List.mem_append_right _ (List.mem_append_right _ (List.mem_append_right _ (List.mem_append_right _ (List.mem_append_left _ (List.mem_of_getElem? (i := 167) rfl))))))))))))), rfl⟩
theorem ks_M_present : Cond.instanceMethod y_M_present ∈ lw_tg := in_t 2805 (by decide +kernel)
theorem kx_M_present : Cond.selects R_M y_M_present y_M_present ∈ lw_tg := in_t 2806 (by decide +kernel)
theorem hd_M_present : y_M_present.cls = R_M ∧ y_M_present.cls ≠ "java/lang/invoke/MethodHandle" ∧ y_M_present.cls ≠ "java/lang/invoke/VarHandle" ∧ (parseMethodDescriptor y_M_present.desc).map (fun d => d.parameters.length) = some 3 := by decide +kernel
theorem d_M_present_0 : decode b_M_present 0 = .ok (.aload_n 0, 1) := by decide +kernel
theorem d_M_present_1 : decode b_M_present 1 = .ok (.iload_n 1, 1) := by decide +kernel
theorem d_M_present_2 : decode b_M_present 2 = .ok (.iload_n 2, 1) := by decide +kernel
theorem d_M_present_3 : decode b_M_present 3 = .ok (.invokevirtual 923, 3) := by decide +kernel
theorem d_M_present_6 : decode b_M_present 6 = .ok (.ifCond .eq 12, 3) := by decide +kernel
theorem d_M_present_9 : decode b_M_present 9 = .ok (.iload_n 3, 1) := by decide +kernel
theorem d_M_present_10 : decode b_M_present 10 = .ok (.ifCond .lt 8, 3) := by decide +kernel
theorem d_M_present_13 : decode b_M_present 13 = .ok (.iload_n 3, 1) := by decide +kernel
theorem d_M_present_14 : decode b_M_present 14 = .ok (.iconst 3, 1) := by decide +kernel
theorem d_M_present_15 : decode b_M_present 15 = .ok (.if_icmp .le 5, 3) := by decide +kernel
theorem d_M_present_18 : decode b_M_present 18 = .ok (.iconst (-1), 1) := by decide +kernel
theorem d_M_present_19 : decode b_M_present 19 = .ok (.ireturn, 1) := by decide +kernel
theorem d_M_present_20 : decode b_M_present 20 = .ok (.bipush 8, 2) := by decide +kernel
theorem d_M_present_22 : decode b_M_present 22 = .ok (.iload_n 1, 1) := by decide +kernel
theorem d_M_present_23 : decode b_M_present 23 = .ok (.imul, 1) := by decide +kernel
theorem d_M_present_24 : decode b_M_present 24 = .ok (.iload_n 2, 1) := by decide +kernel
theorem d_M_present_25 : decode b_M_present 25 = .ok (.iadd, 1) := by decide +kernel
theorem d_M_present_26 : decode b_M_present 26 = .ok (.istore 4, 2) := by decide +kernel
theorem d_M_present_28 : decode b_M_present 28 = .ok (.aload_n 0, 1) := by decide +kernel
theorem d_M_present_29 : decode b_M_present 29 = .ok (.iload_n 1, 1) := by decide +kernel
theorem d_M_present_30 : decode b_M_present 30 = .ok (.invokevirtual 927, 3) := by decide +kernel
theorem d_M_present_33 : decode b_M_present 33 = .ok (.lstore 5, 2) := by decide +kernel
theorem d_M_present_35 : decode b_M_present 35 = .ok (.iload_n 3, 1) := by decide +kernel
theorem d_M_present_36 : decode b_M_present 36 = .ok (.iconst 2, 1) := by decide +kernel
theorem d_M_present_37 : decode b_M_present 37 = .ok (.iand, 1) := by decide +kernel
theorem d_M_present_38 : decode b_M_present 38 = .ok (.iconst 2, 1) := by decide +kernel
theorem d_M_present_39 : decode b_M_present 39 = .ok (.if_icmp .ne 7, 3) := by decide +kernel
theorem d_M_present_42 : decode b_M_present 42 = .ok (.iconst 1, 1) := by decide +kernel
theorem d_M_present_43 : decode b_M_present 43 = .ok (.goto 4, 3) := by decide +kernel
theorem d_M_present_46 : decode b_M_present 46 = .ok (.iconst 0, 1) := by decide +kernel
theorem d_M_present_47 : decode b_M_present 47 = .ok (.istore 7, 2) := by decide +kernel
theorem d_M_present_49 : decode b_M_present 49 = .ok (.aload_n 0, 1) := by decide +kernel
theorem d_M_present_50 : decode b_M_present 50 = .ok (.getfield 263, 3) := by decide +kernel
theorem d_M_present_53 : decode b_M_present 53 = .ok (.iload_n 1, 1) := by decide +kernel
theorem d_M_present_54 : decode b_M_present 54 = .ok (.iconst 0, 1) := by decide +kernel
theorem d_M_present_55 : decode b_M_present 55 = .ok (.iastore, 1) := by decide +kernel
theorem d_M_present_56 : decode b_M_present 56 = .ok (.iload 7, 2) := by decide +kernel
theorem d_M_present_58 : decode b_M_present 58 = .ok (.ifCond .eq 66, 3) := by decide +kernel
theorem d_M_present_61 : decode b_M_present 61 = .ok (.aload_n 0, 1) := by decide +kernel
theorem d_M_present_62 : decode b_M_present 62 = .ok (.getfield 263, 3) := by decide +kernel
theorem d_M_present_65 : decode b_M_present 65 = .ok (.iload_n 1, 1) := by decide +kernel
theorem d_M_present_66 : decode b_M_present 66 = .ok (.aload_n 0, 1) := by decide +kernel
theorem d_M_present_67 : decode b_M_present 67 = .ok (.getfield 200, 3) := by decide +kernel
theorem d_M_present_70 : decode b_M_present 70 = .ok (.iload 4, 2) := by decide +kernel
theorem d_M_present_72 : decode b_M_present 72 = .ok (.iaload, 1) := by decide +kernel
theorem d_M_present_73 : decode b_M_present 73 = .ok (.iastore, 1) := by decide +kernel
theorem d_M_present_74 : decode b_M_present 74 = .ok (.aload_n 0, 1) := by decide +kernel
theorem d_M_present_75 : decode b_M_present 75 = .ok (.aload_n 0, 1) := by decide +kernel
theorem d_M_present_76 : decode b_M_present 76 = .ok (.getfield 200, 3) := by decide +kernel
theorem d_M_present_79 : decode b_M_present 79 = .ok (.iload 4, 2) := by decide +kernel
theorem d_M_present_81 : decode b_M_present 81 = .ok (.iaload, 1) := by decide +kernel
theorem d_M_present_82 : decode b_M_present 82 = .ok (.aload_n 0, 1) := by decide +kernel
theorem d_M_present_83 : decode b_M_present 83 = .ok (.getfield 143, 3) := by decide +kernel
theorem d_M_present_86 : decode b_M_present 86 = .ok (.invokevirtual 857, 3) := by decide +kernel
theorem d_M_present_89 : decode b_M_present 89 = .ok (.iconst 0, 1) := by decide +kernel
theorem d_M_present_90 : decode b_M_present 90 = .ok (.istore 8, 2) := by decide +kernel
theorem d_M_present_92 : decode b_M_present 92 = .ok (.iload 8, 2) := by decide +kernel
theorem d_M_present_94 : decode b_M_present 94 = .ok (.bipush 32, 2) := by decide +kernel
theorem d_M_present_96 : decode b_M_present 96 = .ok (.if_icmp .ge 28, 3) := by decide +kernel
theorem d_M_present_99 : decode b_M_present 99 = .ok (.aload_n 0, 1) := by decide +kernel
theorem d_M_present_100 : decode b_M_present 100 = .ok (.getfield 275, 3) := by decide +kernel
theorem d_M_present_103 : decode b_M_present 103 = .ok (.bipush 32, 2) := by decide +kernel
theorem d_M_present_105 : decode b_M_present 105 = .ok (.iload_n 1, 1) := by decide +kernel
theorem d_M_present_106 : decode b_M_present 106 = .ok (.imul, 1) := by decide +kernel
theorem d_M_present_107 : decode b_M_present 107 = .ok (.iload 8, 2) := by decide +kernel
theorem d_M_present_109 : decode b_M_present 109 = .ok (.iadd, 1) := by decide +kernel
theorem d_M_present_110 : decode b_M_present 110 = .ok (.aload_n 0, 1) := by decide +kernel
theorem d_M_present_111 : decode b_M_present 111 = .ok (.getfield 143, 3) := by decide +kernel
theorem d_M_present_114 : decode b_M_present 114 = .ok (.iload 8, 2) := by decide +kernel
theorem d_M_present_116 : decode b_M_present 116 = .ok (.baload, 1) := by decide +kernel
theorem d_M_present_117 : decode b_M_present 117 = .ok (.bastore, 1) := by decide +kernel
theorem d_M_present_118 : decode b_M_present 118 = .ok (.iinc 8 1, 3) := by decide +kernel
theorem d_M_present_121 : decode b_M_present 121 = .ok (.goto (-29), 3) := by decide +kernel
theorem d_M_present_124 : decode b_M_present 124 = .ok (.aload_n 0, 1) := by decide +kernel
theorem d_M_present_125 : decode b_M_present 125 = .ok (.getfield 281, 3) := by decide +kernel
theorem d_M_present_128 : decode b_M_present 128 = .ok (.iload_n 1, 1) := by decide +kernel
theorem d_M_present_129 : decode b_M_present 129 = .ok (.aload_n 0, 1) := by decide +kernel
theorem d_M_present_130 : decode b_M_present 130 = .ok (.invokevirtual 930, 3) := by decide +kernel
theorem d_M_present_133 : decode b_M_present 133 = .ok (.ldc_w 974, 3) := by decide +kernel
theorem d_M_present_136 : decode b_M_present 136 = .ok (.iand, 1) := by decide +kernel
theorem d_M_present_137 : decode b_M_present 137 = .ok (.i2l, 1) := by decide +kernel
theorem d_M_present_138 : decode b_M_present 138 = .ok (.lastore, 1) := by decide +kernel
theorem d_M_present_139 : decode b_M_present 139 = .ok (.aload_n 0, 1) := by decide +kernel
theorem d_M_present_140 : decode b_M_present 140 = .ok (.getfield 260, 3) := by decide +kernel
theorem d_M_present_143 : decode b_M_present 143 = .ok (.iload_n 1, 1) := by decide +kernel
theorem d_M_present_144 : decode b_M_present 144 = .ok (.aload_n 0, 1) := by decide +kernel
theorem d_M_present_145 : decode b_M_present 145 = .ok (.getfield 200, 3) := by decide +kernel
theorem d_M_present_148 : decode b_M_present 148 = .ok (.iload 4, 2) := by decide +kernel
theorem d_M_present_150 : decode b_M_present 150 = .ok (.iaload, 1) := by decide +kernel
theorem d_M_present_151 : decode b_M_present 151 = .ok (.iastore, 1) := by decide +kernel
theorem d_M_present_152 : decode b_M_present 152 = .ok (.iconst 0, 1) := by decide +kernel
theorem d_M_present_153 : decode b_M_present 153 = .ok (.istore 8, 2) := by decide +kernel
theorem d_M_present_155 : decode b_M_present 155 = .ok (.iload 8, 2) := by decide +kernel
theorem d_M_present_157 : decode b_M_present 157 = .ok (.bipush 32, 2) := by decide +kernel
theorem d_M_present_159 : decode b_M_present 159 = .ok (.if_icmp .ge 48, 3) := by decide +kernel
theorem d_M_present_162 : decode b_M_present 162 = .ok (.aload_n 0, 1) := by decide +kernel
theorem d_M_present_163 : decode b_M_present 163 = .ok (.getfield 137, 3) := by decide +kernel
theorem d_M_present_166 : decode b_M_present 166 = .ok (.iload 8, 2) := by decide +kernel
theorem d_M_present_168 : decode b_M_present 168 = .ok (.aload_n 0, 1) := by decide +kernel
theorem d_M_present_169 : decode b_M_present 169 = .ok (.getfield 191, 3) := by decide +kernel
theorem d_M_present_172 : decode b_M_present 172 = .ok (.bipush 32, 2) := by decide +kernel
theorem d_M_present_174 : decode b_M_present 174 = .ok (.iload 4, 2) := by decide +kernel
theorem d_M_present_176 : decode b_M_present 176 = .ok (.imul, 1) := by decide +kernel
theorem d_M_present_177 : decode b_M_present 177 = .ok (.iload 8, 2) := by decide +kernel
theorem d_M_present_179 : decode b_M_present 179 = .ok (.iadd, 1) := by decide +kernel
theorem d_M_present_180 : decode b_M_present 180 = .ok (.baload, 1) := by decide +kernel
theorem d_M_present_181 : decode b_M_present 181 = .ok (.bastore, 1) := by decide +kernel
theorem d_M_present_182 : decode b_M_present 182 = .ok (.aload_n 0, 1) := by decide +kernel
theorem d_M_present_183 : decode b_M_present 183 = .ok (.getfield 272, 3) := by decide +kernel
theorem d_M_present_186 : decode b_M_present 186 = .ok (.bipush 32, 2) := by decide +kernel
theorem d_M_present_188 : decode b_M_present 188 = .ok (.iload_n 1, 1) := by decide +kernel
theorem d_M_present_189 : decode b_M_present 189 = .ok (.imul, 1) := by decide +kernel
theorem d_M_present_190 : decode b_M_present 190 = .ok (.iload 8, 2) := by decide +kernel
theorem d_M_present_192 : decode b_M_present 192 = .ok (.iadd, 1) := by decide +kernel
theorem d_M_present_193 : decode b_M_present 193 = .ok (.aload_n 0, 1) := by decide +kernel
theorem d_M_present_194 : decode b_M_present 194 = .ok (.getfield 137, 3) := by decide +kernel
theorem d_M_present_197 : decode b_M_present 197 = .ok (.iload 8, 2) := by decide +kernel
theorem d_M_present_199 : decode b_M_present 199 = .ok (.baload, 1) := by decide +kernel
theorem d_M_present_200 : decode b_M_present 200 = .ok (.bastore, 1) := by decide +kernel
theorem d_M_present_201 : decode b_M_present 201 = .ok (.iinc 8 1, 3) := by decide +kernel
theorem d_M_present_204 : decode b_M_present 204 = .ok (.goto (-49), 3) := by decide +kernel
theorem d_M_present_207 : decode b_M_present 207 = .ok (.aload_n 0, 1) := by decide +kernel
theorem d_M_present_208 : decode b_M_present 208 = .ok (.getfield 278, 3) := by decide +kernel
theorem d_M_present_211 : decode b_M_present 211 = .ok (.iload_n 1, 1) := by decide +kernel
theorem d_M_present_212 : decode b_M_present 212 = .ok (.lload 5, 2) := by decide +kernel
theorem d_M_present_214 : decode b_M_present 214 = .ok (.lastore, 1) := by decide +kernel
theorem d_M_present_215 : decode b_M_present 215 = .ok (.aload_n 0, 1) := by decide +kernel
theorem d_M_present_216 : decode b_M_present 216 = .ok (.getfield 266, 3) := by decide +kernel
theorem d_M_present_219 : decode b_M_present 219 = .ok (.iload_n 1, 1) := by decide +kernel
theorem d_M_present_220 : decode b_M_present 220 = .ok (.aload_n 0, 1) := by decide +kernel
theorem d_M_present_221 : decode b_M_present 221 = .ok (.getfield 178, 3) := by decide +kernel
theorem d_M_present_224 : decode b_M_present 224 = .ok (.iload_n 1, 1) := by decide +kernel
theorem d_M_present_225 : decode b_M_present 225 = .ok (.iaload, 1) := by decide +kernel
theorem d_M_present_226 : decode b_M_present 226 = .ok (.ldc_w 644, 3) := by decide +kernel
theorem d_M_present_229 : decode b_M_present 229 = .ok (.irem, 1) := by decide +kernel
theorem d_M_present_230 : decode b_M_present 230 = .ok (.iastore, 1) := by decide +kernel
theorem d_M_present_231 : decode b_M_present 231 = .ok (.aload_n 0, 1) := by decide +kernel
theorem d_M_present_232 : decode b_M_present 232 = .ok (.getfield 284, 3) := by decide +kernel
theorem d_M_present_235 : decode b_M_present 235 = .ok (.iload_n 1, 1) := by decide +kernel
theorem d_M_present_236 : decode b_M_present 236 = .ok (.lconst 0, 1) := by decide +kernel
theorem d_M_present_237 : decode b_M_present 237 = .ok (.lastore, 1) := by decide +kernel
theorem d_M_present_238 : decode b_M_present 238 = .ok (.aload_n 0, 1) := by decide +kernel
theorem d_M_present_239 : decode b_M_present 239 = .ok (.getfield 257, 3) := by decide +kernel
theorem d_M_present_242 : decode b_M_present 242 = .ok (.iload_n 1, 1) := by decide +kernel
theorem d_M_present_243 : decode b_M_present 243 = .ok (.iload_n 3, 1) := by decide +kernel
theorem d_M_present_244 : decode b_M_present 244 = .ok (.iconst 1, 1) := by decide +kernel
theorem d_M_present_245 : decode b_M_present 245 = .ok (.iand, 1) := by decide +kernel
theorem d_M_present_246 : decode b_M_present 246 = .ok (.iconst 1, 1) := by decide +kernel
theorem d_M_present_247 : decode b_M_present 247 = .ok (.if_icmp .ne 7, 3) := by decide +kernel
theorem d_M_present_250 : decode b_M_present 250 = .ok (.iconst 1, 1) := by decide +kernel
theorem d_M_present_251 : decode b_M_present 251 = .ok (.goto 4, 3) := by decide +kernel
theorem d_M_present_254 : decode b_M_present 254 = .ok (.iconst 0, 1) := by decide +kernel
theorem d_M_present_255 : decode b_M_present 255 = .ok (.bastore, 1) := by decide +kernel
theorem d_M_present_256 : decode b_M_present 256 = .ok (.aload_n 0, 1) := by decide +kernel
theorem d_M_present_257 : decode b_M_present 257 = .ok (.dup, 1) := by decide +kernel
theorem d_M_present_258 : decode b_M_present 258 = .ok (.getfield 975, 3) := by decide +kernel
theorem d_M_present_261 : decode b_M_present 261 = .ok (.iconst 1, 1) := by decide +kernel
theorem d_M_present_262 : decode b_M_present 262 = .ok (.iadd, 1) := by decide +kernel
theorem d_M_present_263 : decode b_M_present 263 = .ok (.putfield 975, 3) := by decide +kernel
theorem d_M_present_266 : decode b_M_present 266 = .ok (.aload_n 0, 1) := by decide +kernel
theorem d_M_present_267 : decode b_M_present 267 = .ok (.getfield 269, 3) := by decide +kernel
theorem d_M_present_270 : decode b_M_present 270 = .ok (.iload_n 1, 1) := by decide +kernel
theorem d_M_present_271 : decode b_M_present 271 = .ok (.aload_n 0, 1) := by decide +kernel
theorem d_M_present_272 : decode b_M_present 272 = .ok (.getfield 975, 3) := by decide +kernel
theorem d_M_present_275 : decode b_M_present 275 = .ok (.iastore, 1) := by decide +kernel
theorem d_M_present_276 : decode b_M_present 276 = .ok (.aload_n 0, 1) := by decide +kernel
theorem d_M_present_277 : decode b_M_present 277 = .ok (.invokevirtual 861, 3) := by decide +kernel
theorem d_M_present_280 : decode b_M_present 280 = .ok (.aload_n 0, 1) := by decide +kernel
theorem d_M_present_281 : decode b_M_present 281 = .ok (.bipush 7, 2) := by decide +kernel
theorem d_M_present_283 : decode b_M_present 283 = .ok (.aload_n 0, 1) := by decide +kernel
theorem d_M_present_284 : decode b_M_present 284 = .ok (.getfield 281, 3) := by decide +kernel
theorem d_M_present_287 : decode b_M_present 287 = .ok (.iload_n 1, 1) := by decide +kernel
theorem d_M_present_288 : decode b_M_present 288 = .ok (.laload, 1) := by decide +kernel
theorem d_M_present_289 : decode b_M_present 289 = .ok (.invokevirtual 588, 3) := by decide +kernel
theorem d_M_present_292 : decode b_M_present 292 = .ok (.iload 7, 2) := by decide +kernel
theorem d_M_present_294 : decode b_M_present 294 = .ok (.ifCond .eq 20, 3) := by decide +kernel
theorem d_M_present_297 : decode b_M_present 297 = .ok (.aload_n 0, 1) := by decide +kernel
theorem d_M_present_298 : decode b_M_present 298 = .ok (.bipush 6, 2) := by decide +kernel
theorem d_M_present_300 : decode b_M_present 300 = .ok (.aload_n 0, 1) := by decide +kernel
theorem d_M_present_301 : decode b_M_present 301 = .ok (.getfield 200, 3) := by decide +kernel
theorem d_M_present_304 : decode b_M_present 304 = .ok (.iload 4, 2) := by decide +kernel
theorem d_M_present_306 : decode b_M_present 306 = .ok (.iaload, 1) := by decide +kernel
theorem d_M_present_307 : decode b_M_present 307 = .ok (.aload_n 0, 1) := by decide +kernel
theorem d_M_present_308 : decode b_M_present 308 = .ok (.getfield 143, 3) := by decide +kernel
theorem d_M_present_311 : decode b_M_present 311 = .ok (.invokevirtual 887, 3) := by decide +kernel
theorem d_M_present_314 : decode b_M_present 314 = .ok (.aload_n 0, 1) := by decide +kernel
theorem d_M_present_315 : decode b_M_present 315 = .ok (.iload_n 1, 1) := by decide +kernel
theorem d_M_present_316 : decode b_M_present 316 = .ok (.iload 4, 2) := by decide +kernel
theorem d_M_present_318 : decode b_M_present 318 = .ok (.lload 5, 2) := by decide +kernel
theorem d_M_present_320 : decode b_M_present 320 = .ok (.iconst 0, 1) := by decide +kernel
theorem d_M_present_321 : decode b_M_present 321 = .ok (.invokevirtual 946, 3) := by decide +kernel
theorem d_M_present_324 : decode b_M_present 324 = .ok (.aload_n 0, 1) := by decide +kernel
theorem d_M_present_325 : decode b_M_present 325 = .ok (.aload_n 0, 1) := by decide +kernel
theorem d_M_present_326 : decode b_M_present 326 = .ok (.getfield 137, 3) := by decide +kernel
theorem d_M_present_329 : decode b_M_present 329 = .ok (.aload_n 0, 1) := by decide +kernel
theorem d_M_present_330 : decode b_M_present 330 = .ok (.getfield 200, 3) := by decide +kernel
theorem d_M_present_333 : decode b_M_present 333 = .ok (.iload 4, 2) := by decide +kernel
theorem d_M_present_335 : decode b_M_present 335 = .ok (.iaload, 1) := by decide +kernel
theorem d_M_present_336 : decode b_M_present 336 = .ok (.bipush 11, 2) := by decide +kernel
theorem d_M_present_338 : decode b_M_present 338 = .ok (.aload_n 0, 1) := by decide +kernel
theorem d_M_present_339 : decode b_M_present 339 = .ok (.getfield 553, 3) := by decide +kernel
theorem d_M_present_342 : decode b_M_present 342 = .ok (.ldc 9, 2) := by decide +kernel
theorem d_M_present_344 : decode b_M_present 344 = .ok (.invokevirtual 867, 3) := by decide +kernel
theorem d_M_present_347 : decode b_M_present 347 = .ok (.aload_n 0, 1) := by decide +kernel
theorem d_M_present_348 : decode b_M_present 348 = .ok (.iload 4, 2) := by decide +kernel
theorem d_M_present_350 : decode b_M_present 350 = .ok (.iload_n 3, 1) := by decide +kernel
theorem d_M_present_351 : decode b_M_present 351 = .ok (.iconst 1, 1) := by decide +kernel
theorem d_M_present_352 : decode b_M_present 352 = .ok (.iand, 1) := by decide +kernel
theorem d_M_present_353 : decode b_M_present 353 = .ok (.iconst 1, 1) := by decide +kernel
theorem d_M_present_354 : decode b_M_present 354 = .ok (.if_icmp .ne 10, 3) := by decide +kernel
theorem d_M_present_357 : decode b_M_present 357 = .ok (.iconst 2, 1) := by decide +kernel
theorem d_M_present_358 : decode b_M_present 358 = .ok (.invokestatic 701, 3) := by decide +kernel
theorem d_M_present_361 : decode b_M_present 361 = .ok (.goto 4, 3) := by decide +kernel
theorem d_M_present_364 : decode b_M_present 364 = .ok (.iconst 0, 1) := by decide +kernel
theorem d_M_present_365 : decode b_M_present 365 = .ok (.invokevirtual 950, 3) := by decide +kernel
theorem d_M_present_368 : decode b_M_present 368 = .ok (.aload_n 0, 1) := by decide +kernel
theorem d_M_present_369 : decode b_M_present 369 = .ok (.getfield 178, 3) := by decide +kernel
theorem d_M_present_372 : decode b_M_present 372 = .ok (.iload_n 1, 1) := by decide +kernel
theorem d_M_present_373 : decode b_M_present 373 = .ok (.dup2, 1) := by decide +kernel
theorem d_M_present_374 : decode b_M_present 374 = .ok (.iaload, 1) := by decide +kernel
theorem d_M_present_375 : decode b_M_present 375 = .ok (.iconst 1, 1) := by decide +kernel
theorem d_M_present_376 : decode b_M_present 376 = .ok (.iadd, 1) := by decide +kernel
theorem d_M_present_377 : decode b_M_present 377 = .ok (.iastore, 1) := by decide +kernel
theorem d_M_present_378 : decode b_M_present 378 = .ok (.aload_n 0, 1) := by decide +kernel
theorem d_M_present_379 : decode b_M_present 379 = .ok (.invokevirtual 905, 3) := by decide +kernel
theorem d_M_present_382 : decode b_M_present 382 = .ok (.aload_n 0, 1) := by decide +kernel
theorem d_M_present_383 : decode b_M_present 383 = .ok (.getfield 348, 3) := by decide +kernel
theorem d_M_present_386 : decode b_M_present 386 = .ok (.ireturn, 1) := by decide +kernel
