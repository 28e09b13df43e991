abbrev b_M_toRoom : ByteArray := prog_14_method_135_code
def y_M_toRoom : MethodName := ⟨R_M, "toRoom", "()I"⟩
abbrev k_M_toRoom : Cond := .code y_M_toRoom b_M_toRoom 3 (some .int)
theorem ki_M_toRoom : k_M_toRoom ∈ lw_tg := in_t 2771 (by decide +kernel)
theorem ks_M_toRoom : Cond.instanceMethod y_M_toRoom ∈ lw_tg := in_t 2770 (by decide +kernel)
theorem kx_M_toRoom : Cond.selects R_M y_M_toRoom y_M_toRoom ∈ lw_tg := List.mem_filter.mpr ⟨List.mem_append_left _ (List.mem_of_getElem? (i := 176) (by decide +kernel)), rfl⟩
theorem kl_M_toRoom : Cond.methodLink R_M 943 y_M_toRoom ∈ lw_tg := in_t 2768 (by decide +kernel)
theorem hd_M_toRoom : y_M_toRoom.cls = R_M ∧ y_M_toRoom.cls ≠ "java/lang/invoke/MethodHandle" ∧ y_M_toRoom.cls ≠ "java/lang/invoke/VarHandle" ∧ (parseMethodDescriptor y_M_toRoom.desc).map (fun d => d.parameters.length) = some 0 := by decide +kernel
theorem d_M_toRoom_0 : decode b_M_toRoom 0 = .ok (.ldc 9, 2) := by decide +kernel
theorem d_M_toRoom_2 : decode b_M_toRoom 2 = .ok (.aload_n 0, 1) := by decide +kernel
theorem d_M_toRoom_3 : decode b_M_toRoom 3 = .ok (.getfield 553, 3) := by decide +kernel
theorem d_M_toRoom_6 : decode b_M_toRoom 6 = .ok (.isub, 1) := by decide +kernel
theorem d_M_toRoom_7 : decode b_M_toRoom 7 = .ok (.istore_n 1, 1) := by decide +kernel
theorem d_M_toRoom_8 : decode b_M_toRoom 8 = .ok (.iconst 0, 1) := by decide +kernel
theorem d_M_toRoom_9 : decode b_M_toRoom 9 = .ok (.istore_n 2, 1) := by decide +kernel
theorem d_M_toRoom_10 : decode b_M_toRoom 10 = .ok (.iload_n 2, 1) := by decide +kernel
theorem d_M_toRoom_11 : decode b_M_toRoom 11 = .ok (.iload_n 1, 1) := by decide +kernel
theorem d_M_toRoom_12 : decode b_M_toRoom 12 = .ok (.if_icmp .ge 30, 3) := by decide +kernel
theorem d_M_toRoom_15 : decode b_M_toRoom 15 = .ok (.aload_n 0, 1) := by decide +kernel
theorem d_M_toRoom_16 : decode b_M_toRoom 16 = .ok (.getfield 10, 3) := by decide +kernel
theorem d_M_toRoom_19 : decode b_M_toRoom 19 = .ok (.sipush 13200, 3) := by decide +kernel
theorem d_M_toRoom_22 : decode b_M_toRoom 22 = .ok (.iload_n 2, 1) := by decide +kernel
theorem d_M_toRoom_23 : decode b_M_toRoom 23 = .ok (.iadd, 1) := by decide +kernel
theorem d_M_toRoom_24 : decode b_M_toRoom 24 = .ok (.aload_n 0, 1) := by decide +kernel
theorem d_M_toRoom_25 : decode b_M_toRoom 25 = .ok (.getfield 10, 3) := by decide +kernel
theorem d_M_toRoom_28 : decode b_M_toRoom 28 = .ok (.aload_n 0, 1) := by decide +kernel
theorem d_M_toRoom_29 : decode b_M_toRoom 29 = .ok (.getfield 553, 3) := by decide +kernel
theorem d_M_toRoom_32 : decode b_M_toRoom 32 = .ok (.iload_n 2, 1) := by decide +kernel
theorem d_M_toRoom_33 : decode b_M_toRoom 33 = .ok (.iadd, 1) := by decide +kernel
theorem d_M_toRoom_34 : decode b_M_toRoom 34 = .ok (.baload, 1) := by decide +kernel
theorem d_M_toRoom_35 : decode b_M_toRoom 35 = .ok (.bastore, 1) := by decide +kernel
theorem d_M_toRoom_36 : decode b_M_toRoom 36 = .ok (.iinc 2 1, 3) := by decide +kernel
theorem d_M_toRoom_39 : decode b_M_toRoom 39 = .ok (.goto (-29), 3) := by decide +kernel
theorem d_M_toRoom_42 : decode b_M_toRoom 42 = .ok (.iload_n 1, 1) := by decide +kernel
theorem d_M_toRoom_43 : decode b_M_toRoom 43 = .ok (.ireturn, 1) := by decide +kernel
abbrev b_M_authenticator : ByteArray := prog_14_method_136_code
def y_M_authenticator : MethodName := ⟨R_M, "authenticator", "(IIJZ)V"⟩
abbrev k_M_authenticator : Cond := .code y_M_authenticator b_M_authenticator 7 none
theorem ki_M_authenticator : k_M_authenticator ∈ lw_tg := in_t 2775 (by decide +kernel)
theorem ks_M_authenticator : Cond.instanceMethod y_M_authenticator ∈ lw_tg := in_t 2774 (by decide +kernel)
theorem kx_M_authenticator : Cond.selects R_M y_M_authenticator y_M_authenticator ∈ lw_tg := List.mem_filter.mpr ⟨List.mem_append_left _ (List.mem_of_getElem? (i := 177) (by decide +kernel)), rfl⟩
theorem kl_M_authenticator : Cond.methodLink R_M 946 y_M_authenticator ∈ lw_tg := in_t 2772 (by decide +kernel)
theorem hd_M_authenticator : y_M_authenticator.cls = R_M ∧ y_M_authenticator.cls ≠ "java/lang/invoke/MethodHandle" ∧ y_M_authenticator.cls ≠ "java/lang/invoke/VarHandle" ∧ (parseMethodDescriptor y_M_authenticator.desc).map (fun d => d.parameters.length) = some 4 := by decide +kernel
theorem d_M_authenticator_0 : decode b_M_authenticator 0 = .ok (.aload_n 0, 1) := by decide +kernel
theorem d_M_authenticator_1 : decode b_M_authenticator 1 = .ok (.iconst 5, 1) := by decide +kernel
theorem d_M_authenticator_2 : decode b_M_authenticator 2 = .ok (.lload_n 3, 1) := by decide +kernel
theorem d_M_authenticator_3 : decode b_M_authenticator 3 = .ok (.invokevirtual 884, 3) := by decide +kernel
theorem d_M_authenticator_6 : decode b_M_authenticator 6 = .ok (.aload_n 0, 1) := by decide +kernel
theorem d_M_authenticator_7 : decode b_M_authenticator 7 = .ok (.iconst 4, 1) := by decide +kernel
theorem d_M_authenticator_8 : decode b_M_authenticator 8 = .ok (.aload_n 0, 1) := by decide +kernel
theorem d_M_authenticator_9 : decode b_M_authenticator 9 = .ok (.getfield 178, 3) := by decide +kernel
theorem d_M_authenticator_12 : decode b_M_authenticator 12 = .ok (.iload_n 1, 1) := by decide +kernel
theorem d_M_authenticator_13 : decode b_M_authenticator 13 = .ok (.iaload, 1) := by decide +kernel
theorem d_M_authenticator_14 : decode b_M_authenticator 14 = .ok (.ldc_w 644, 3) := by decide +kernel
theorem d_M_authenticator_17 : decode b_M_authenticator 17 = .ok (.irem, 1) := by decide +kernel
theorem d_M_authenticator_18 : decode b_M_authenticator 18 = .ok (.i2l, 1) := by decide +kernel
theorem d_M_authenticator_19 : decode b_M_authenticator 19 = .ok (.invokevirtual 588, 3) := by decide +kernel
theorem d_M_authenticator_22 : decode b_M_authenticator 22 = .ok (.iload 5, 2) := by decide +kernel
theorem d_M_authenticator_24 : decode b_M_authenticator 24 = .ok (.ifCond .eq 50, 3) := by decide +kernel
theorem d_M_authenticator_27 : decode b_M_authenticator 27 = .ok (.aload_n 0, 1) := by decide +kernel
theorem d_M_authenticator_28 : decode b_M_authenticator 28 = .ok (.getfield 553, 3) := by decide +kernel
theorem d_M_authenticator_31 : decode b_M_authenticator 31 = .ok (.istore 6, 2) := by decide +kernel
theorem d_M_authenticator_33 : decode b_M_authenticator 33 = .ok (.aload_n 0, 1) := by decide +kernel
theorem d_M_authenticator_34 : decode b_M_authenticator 34 = .ok (.iconst 1, 1) := by decide +kernel
theorem d_M_authenticator_35 : decode b_M_authenticator 35 = .ok (.aload_n 0, 1) := by decide +kernel
theorem d_M_authenticator_36 : decode b_M_authenticator 36 = .ok (.getfield 287, 3) := by decide +kernel
theorem d_M_authenticator_39 : decode b_M_authenticator 39 = .ok (.iconst 0, 1) := by decide +kernel
theorem d_M_authenticator_40 : decode b_M_authenticator 40 = .ok (.bipush 12, 2) := by decide +kernel
theorem d_M_authenticator_42 : decode b_M_authenticator 42 = .ok (.invokevirtual 584, 3) := by decide +kernel
theorem d_M_authenticator_45 : decode b_M_authenticator 45 = .ok (.aload_n 0, 1) := by decide +kernel
theorem d_M_authenticator_46 : decode b_M_authenticator 46 = .ok (.iconst 0, 1) := by decide +kernel
theorem d_M_authenticator_47 : decode b_M_authenticator 47 = .ok (.aload_n 0, 1) := by decide +kernel
theorem d_M_authenticator_48 : decode b_M_authenticator 48 = .ok (.getfield 200, 3) := by decide +kernel
theorem d_M_authenticator_51 : decode b_M_authenticator 51 = .ok (.iload_n 2, 1) := by decide +kernel
theorem d_M_authenticator_52 : decode b_M_authenticator 52 = .ok (.iaload, 1) := by decide +kernel
theorem d_M_authenticator_53 : decode b_M_authenticator 53 = .ok (.iconst 2, 1) := by decide +kernel
theorem d_M_authenticator_54 : decode b_M_authenticator 54 = .ok (.isub, 1) := by decide +kernel
theorem d_M_authenticator_55 : decode b_M_authenticator 55 = .ok (.i2l, 1) := by decide +kernel
theorem d_M_authenticator_56 : decode b_M_authenticator 56 = .ok (.invokevirtual 588, 3) := by decide +kernel
theorem d_M_authenticator_59 : decode b_M_authenticator 59 = .ok (.aload_n 0, 1) := by decide +kernel
theorem d_M_authenticator_60 : decode b_M_authenticator 60 = .ok (.bipush 48, 2) := by decide +kernel
theorem d_M_authenticator_62 : decode b_M_authenticator 62 = .ok (.iload 6, 2) := by decide +kernel
theorem d_M_authenticator_64 : decode b_M_authenticator 64 = .ok (.invokevirtual 559, 3) := by decide +kernel
theorem d_M_authenticator_67 : decode b_M_authenticator 67 = .ok (.aload_n 0, 1) := by decide +kernel
theorem d_M_authenticator_68 : decode b_M_authenticator 68 = .ok (.iconst 3, 1) := by decide +kernel
theorem d_M_authenticator_69 : decode b_M_authenticator 69 = .ok (.iload 6, 2) := by decide +kernel
theorem d_M_authenticator_71 : decode b_M_authenticator 71 = .ok (.invokevirtual 567, 3) := by decide +kernel
theorem d_M_authenticator_74 : decode b_M_authenticator 74 = .ok (.aload_n 0, 1) := by decide +kernel
theorem d_M_authenticator_75 : decode b_M_authenticator 75 = .ok (.iconst 2, 1) := by decide +kernel
theorem d_M_authenticator_76 : decode b_M_authenticator 76 = .ok (.aload_n 0, 1) := by decide +kernel
theorem d_M_authenticator_77 : decode b_M_authenticator 77 = .ok (.getfield 215, 3) := by decide +kernel
theorem d_M_authenticator_80 : decode b_M_authenticator 80 = .ok (.sipush 400, 3) := by decide +kernel
theorem d_M_authenticator_83 : decode b_M_authenticator 83 = .ok (.iload_n 2, 1) := by decide +kernel
theorem d_M_authenticator_84 : decode b_M_authenticator 84 = .ok (.imul, 1) := by decide +kernel
theorem d_M_authenticator_85 : decode b_M_authenticator 85 = .ok (.aload_n 0, 1) := by decide +kernel
theorem d_M_authenticator_86 : decode b_M_authenticator 86 = .ok (.getfield 218, 3) := by decide +kernel
theorem d_M_authenticator_89 : decode b_M_authenticator 89 = .ok (.iload_n 2, 1) := by decide +kernel
theorem d_M_authenticator_90 : decode b_M_authenticator 90 = .ok (.iaload, 1) := by decide +kernel
theorem d_M_authenticator_91 : decode b_M_authenticator 91 = .ok (.iadd, 1) := by decide +kernel
theorem d_M_authenticator_92 : decode b_M_authenticator 92 = .ok (.aload_n 0, 1) := by decide +kernel
theorem d_M_authenticator_93 : decode b_M_authenticator 93 = .ok (.getfield 221, 3) := by decide +kernel
theorem d_M_authenticator_96 : decode b_M_authenticator 96 = .ok (.iload_n 2, 1) := by decide +kernel
theorem d_M_authenticator_97 : decode b_M_authenticator 97 = .ok (.iaload, 1) := by decide +kernel
theorem d_M_authenticator_98 : decode b_M_authenticator 98 = .ok (.invokevirtual 953, 3) := by decide +kernel
theorem d_M_authenticator_101 : decode b_M_authenticator 101 = .ok (.aload_n 0, 1) := by decide +kernel
theorem d_M_authenticator_102 : decode b_M_authenticator 102 = .ok (.iconst 1, 1) := by decide +kernel
theorem d_M_authenticator_103 : decode b_M_authenticator 103 = .ok (.aload_n 0, 1) := by decide +kernel
theorem d_M_authenticator_104 : decode b_M_authenticator 104 = .ok (.getfield 215, 3) := by decide +kernel
theorem d_M_authenticator_107 : decode b_M_authenticator 107 = .ok (.sipush 400, 3) := by decide +kernel
theorem d_M_authenticator_110 : decode b_M_authenticator 110 = .ok (.iload_n 2, 1) := by decide +kernel
theorem d_M_authenticator_111 : decode b_M_authenticator 111 = .ok (.imul, 1) := by decide +kernel
theorem d_M_authenticator_112 : decode b_M_authenticator 112 = .ok (.aload_n 0, 1) := by decide +kernel
theorem d_M_authenticator_113 : decode b_M_authenticator 113 = .ok (.getfield 218, 3) := by decide +kernel
theorem d_M_authenticator_116 : decode b_M_authenticator 116 = .ok (.iload_n 2, 1) := by decide +kernel
theorem d_M_authenticator_117 : decode b_M_authenticator 117 = .ok (.iaload, 1) := by decide +kernel
theorem d_M_authenticator_118 : decode b_M_authenticator 118 = .ok (.invokevirtual 953, 3) := by decide +kernel
theorem d_M_authenticator_121 : decode b_M_authenticator 121 = .ok (.aload_n 0, 1) := by decide +kernel
theorem d_M_authenticator_122 : decode b_M_authenticator 122 = .ok (.iconst 0, 1) := by decide +kernel
theorem d_M_authenticator_123 : decode b_M_authenticator 123 = .ok (.ldc2_w 669, 3) := by decide +kernel
theorem d_M_authenticator_126 : decode b_M_authenticator 126 = .ok (.invokevirtual 588, 3) := by decide +kernel
theorem d_M_authenticator_129 : decode b_M_authenticator 129 = .ok (.aload_n 0, 1) := by decide +kernel
theorem d_M_authenticator_130 : decode b_M_authenticator 130 = .ok (.bipush 48, 2) := by decide +kernel
theorem d_M_authenticator_132 : decode b_M_authenticator 132 = .ok (.ldc 9, 2) := by decide +kernel
theorem d_M_authenticator_134 : decode b_M_authenticator 134 = .ok (.invokevirtual 559, 3) := by decide +kernel
theorem d_M_authenticator_137 : decode b_M_authenticator 137 = .ok (.aload_n 0, 1) := by decide +kernel
theorem d_M_authenticator_138 : decode b_M_authenticator 138 = .ok (.bipush 98, 2) := by decide +kernel
theorem d_M_authenticator_140 : decode b_M_authenticator 140 = .ok (.ldc 9, 2) := by decide +kernel
theorem d_M_authenticator_142 : decode b_M_authenticator 142 = .ok (.invokevirtual 559, 3) := by decide +kernel
theorem d_M_authenticator_145 : decode b_M_authenticator 145 = .ok (.return_, 1) := by decide +kernel
abbrev b_M_apReq : ByteArray := prog_14_method_137_code
def y_M_apReq : MethodName := ⟨R_M, "apReq", "(II)V"⟩
abbrev k_M_apReq : Cond := .code y_M_apReq b_M_apReq 3 none
theorem ki_M_apReq : k_M_apReq ∈ lw_tg := in_t 2783 (by decide +kernel)
theorem ks_M_apReq : Cond.instanceMethod y_M_apReq ∈ lw_tg := in_t 2782 (by decide +kernel)
theorem kx_M_apReq : Cond.selects R_M y_M_apReq y_M_apReq ∈ lw_tg := List.mem_filter.mpr ⟨List.mem_append_left _ (List.mem_of_getElem? (i := 179) (by decide +kernel)), rfl⟩
theorem kl_M_apReq : Cond.methodLink R_M 950 y_M_apReq ∈ lw_tg := in_t 2780 (by decide +kernel)
theorem hd_M_apReq : y_M_apReq.cls = R_M ∧ y_M_apReq.cls ≠ "java/lang/invoke/MethodHandle" ∧ y_M_apReq.cls ≠ "java/lang/invoke/VarHandle" ∧ (parseMethodDescriptor y_M_apReq.desc).map (fun d => d.parameters.length) = some 2 := by decide +kernel
theorem d_M_apReq_0 : decode b_M_apReq 0 = .ok (.aload_n 0, 1) := by decide +kernel
theorem d_M_apReq_1 : decode b_M_apReq 1 = .ok (.invokevirtual 861, 3) := by decide +kernel
theorem d_M_apReq_4 : decode b_M_apReq 4 = .ok (.aload_n 0, 1) := by decide +kernel
theorem d_M_apReq_5 : decode b_M_apReq 5 = .ok (.iconst 4, 1) := by decide +kernel
theorem d_M_apReq_6 : decode b_M_apReq 6 = .ok (.aload_n 0, 1) := by decide +kernel
theorem d_M_apReq_7 : decode b_M_apReq 7 = .ok (.getfield 200, 3) := by decide +kernel
theorem d_M_apReq_10 : decode b_M_apReq 10 = .ok (.iload_n 1, 1) := by decide +kernel
theorem d_M_apReq_11 : decode b_M_apReq 11 = .ok (.iaload, 1) := by decide +kernel
theorem d_M_apReq_12 : decode b_M_apReq 12 = .ok (.lconst 0, 1) := by decide +kernel
theorem d_M_apReq_13 : decode b_M_apReq 13 = .ok (.invokevirtual 870, 3) := by decide +kernel
theorem d_M_apReq_16 : decode b_M_apReq 16 = .ok (.aload_n 0, 1) := by decide +kernel
theorem d_M_apReq_17 : decode b_M_apReq 17 = .ok (.iconst 3, 1) := by decide +kernel
theorem d_M_apReq_18 : decode b_M_apReq 18 = .ok (.aload_n 0, 1) := by decide +kernel
theorem d_M_apReq_19 : decode b_M_apReq 19 = .ok (.getfield 188, 3) := by decide +kernel
theorem d_M_apReq_22 : decode b_M_apReq 22 = .ok (.sipush 4200, 3) := by decide +kernel
theorem d_M_apReq_25 : decode b_M_apReq 25 = .ok (.iload_n 1, 1) := by decide +kernel
theorem d_M_apReq_26 : decode b_M_apReq 26 = .ok (.imul, 1) := by decide +kernel
theorem d_M_apReq_27 : decode b_M_apReq 27 = .ok (.aload_n 0, 1) := by decide +kernel
theorem d_M_apReq_28 : decode b_M_apReq 28 = .ok (.getfield 194, 3) := by decide +kernel
theorem d_M_apReq_31 : decode b_M_apReq 31 = .ok (.iload_n 1, 1) := by decide +kernel
theorem d_M_apReq_32 : decode b_M_apReq 32 = .ok (.iaload, 1) := by decide +kernel
theorem d_M_apReq_33 : decode b_M_apReq 33 = .ok (.invokevirtual 953, 3) := by decide +kernel
theorem d_M_apReq_36 : decode b_M_apReq 36 = .ok (.aload_n 0, 1) := by decide +kernel
theorem d_M_apReq_37 : decode b_M_apReq 37 = .ok (.iconst 2, 1) := by decide +kernel
theorem d_M_apReq_38 : decode b_M_apReq 38 = .ok (.iload_n 2, 1) := by decide +kernel
theorem d_M_apReq_39 : decode b_M_apReq 39 = .ok (.invokevirtual 890, 3) := by decide +kernel
theorem d_M_apReq_42 : decode b_M_apReq 42 = .ok (.aload_n 0, 1) := by decide +kernel
theorem d_M_apReq_43 : decode b_M_apReq 43 = .ok (.iconst 1, 1) := by decide +kernel
theorem d_M_apReq_44 : decode b_M_apReq 44 = .ok (.ldc2_w 799, 3) := by decide +kernel
theorem d_M_apReq_47 : decode b_M_apReq 47 = .ok (.invokevirtual 588, 3) := by decide +kernel
theorem d_M_apReq_50 : decode b_M_apReq 50 = .ok (.aload_n 0, 1) := by decide +kernel
theorem d_M_apReq_51 : decode b_M_apReq 51 = .ok (.iconst 0, 1) := by decide +kernel
theorem d_M_apReq_52 : decode b_M_apReq 52 = .ok (.ldc2_w 669, 3) := by decide +kernel
theorem d_M_apReq_55 : decode b_M_apReq 55 = .ok (.invokevirtual 588, 3) := by decide +kernel
theorem d_M_apReq_58 : decode b_M_apReq 58 = .ok (.aload_n 0, 1) := by decide +kernel
theorem d_M_apReq_59 : decode b_M_apReq 59 = .ok (.bipush 48, 2) := by decide +kernel
theorem d_M_apReq_61 : decode b_M_apReq 61 = .ok (.ldc 9, 2) := by decide +kernel
theorem d_M_apReq_63 : decode b_M_apReq 63 = .ok (.invokevirtual 559, 3) := by decide +kernel
theorem d_M_apReq_66 : decode b_M_apReq 66 = .ok (.aload_n 0, 1) := by decide +kernel
theorem d_M_apReq_67 : decode b_M_apReq 67 = .ok (.bipush 110, 2) := by decide +kernel
theorem d_M_apReq_69 : decode b_M_apReq 69 = .ok (.ldc 9, 2) := by decide +kernel
theorem d_M_apReq_71 : decode b_M_apReq 71 = .ok (.invokevirtual 559, 3) := by decide +kernel
theorem d_M_apReq_74 : decode b_M_apReq 74 = .ok (.return_, 1) := by decide +kernel
abbrev b_M_isParts : ByteArray := prog_14_method_138_code
def y_M_isParts : MethodName := ⟨R_M, "isParts", "(II[BII)Z"⟩
abbrev k_M_isParts : Cond := .code y_M_isParts b_M_isParts 8 (some .boolean)
theorem ki_M_isParts : k_M_isParts ∈ lw_tg := in_t 2799 (by decide +kernel)
theorem ks_M_isParts : Cond.instanceMethod y_M_isParts ∈ lw_tg := in_t 2798 (by decide +kernel)
theorem kx_M_isParts : Cond.selects R_M y_M_isParts y_M_isParts ∈ lw_tg := List.mem_filter.mpr ⟨List.mem_append_left _ (List.mem_of_getElem? (i := 181) (by decide +kernel)), rfl⟩
theorem kl_M_isParts : Cond.methodLink R_M 967 y_M_isParts ∈ lw_tg := in_t 2796 (by decide +kernel)
theorem hd_M_isParts : y_M_isParts.cls = R_M ∧ y_M_isParts.cls ≠ "java/lang/invoke/MethodHandle" ∧ y_M_isParts.cls ≠ "java/lang/invoke/VarHandle" ∧ (parseMethodDescriptor y_M_isParts.desc).map (fun d => d.parameters.length) = some 5 := by decide +kernel
theorem d_M_isParts_0 : decode b_M_isParts 0 = .ok (.aload_n 0, 1) := by decide +kernel
theorem d_M_isParts_1 : decode b_M_isParts 1 = .ok (.iload_n 1, 1) := by decide +kernel
theorem d_M_isParts_2 : decode b_M_isParts 2 = .ok (.iload_n 2, 1) := by decide +kernel
theorem d_M_isParts_3 : decode b_M_isParts 3 = .ok (.invokevirtual 546, 3) := by decide +kernel
theorem d_M_isParts_6 : decode b_M_isParts 6 = .ok (.istore 6, 2) := by decide +kernel
theorem d_M_isParts_8 : decode b_M_isParts 8 = .ok (.aload_n 0, 1) := by decide +kernel
theorem d_M_isParts_9 : decode b_M_isParts 9 = .ok (.bipush 11, 2) := by decide +kernel
theorem d_M_isParts_11 : decode b_M_isParts 11 = .ok (.iconst 1, 1) := by decide +kernel
theorem d_M_isParts_12 : decode b_M_isParts 12 = .ok (.invokevirtual 539, 3) := by decide +kernel
theorem d_M_isParts_15 : decode b_M_isParts 15 = .ok (.istore 7, 2) := by decide +kernel
theorem d_M_isParts_17 : decode b_M_isParts 17 = .ok (.aload_n 0, 1) := by decide +kernel
theorem d_M_isParts_18 : decode b_M_isParts 18 = .ok (.invokevirtual 861, 3) := by decide +kernel
theorem d_M_isParts_21 : decode b_M_isParts 21 = .ok (.aload_n 0, 1) := by decide +kernel
theorem d_M_isParts_22 : decode b_M_isParts 22 = .ok (.aload_n 3, 1) := by decide +kernel
theorem d_M_isParts_23 : decode b_M_isParts 23 = .ok (.iload 4, 2) := by decide +kernel
theorem d_M_isParts_25 : decode b_M_isParts 25 = .ok (.iload 5, 2) := by decide +kernel
theorem d_M_isParts_27 : decode b_M_isParts 27 = .ok (.invokevirtual 595, 3) := by decide +kernel
theorem d_M_isParts_30 : decode b_M_isParts 30 = .ok (.aload_n 0, 1) := by decide +kernel
theorem d_M_isParts_31 : decode b_M_isParts 31 = .ok (.bipush 48, 2) := by decide +kernel
theorem d_M_isParts_33 : decode b_M_isParts 33 = .ok (.ldc 9, 2) := by decide +kernel
theorem d_M_isParts_35 : decode b_M_isParts 35 = .ok (.invokevirtual 559, 3) := by decide +kernel
theorem d_M_isParts_38 : decode b_M_isParts 38 = .ok (.aload_n 0, 1) := by decide +kernel
theorem d_M_isParts_39 : decode b_M_isParts 39 = .ok (.iload 6, 2) := by decide +kernel
theorem d_M_isParts_41 : decode b_M_isParts 41 = .ok (.iload 7, 2) := by decide +kernel
theorem d_M_isParts_43 : decode b_M_isParts 43 = .ok (.aload_n 0, 1) := by decide +kernel
theorem d_M_isParts_44 : decode b_M_isParts 44 = .ok (.getfield 553, 3) := by decide +kernel
theorem d_M_isParts_47 : decode b_M_isParts 47 = .ok (.ldc 9, 2) := by decide +kernel
theorem d_M_isParts_49 : decode b_M_isParts 49 = .ok (.invokevirtual 549, 3) := by decide +kernel
theorem d_M_isParts_52 : decode b_M_isParts 52 = .ok (.ireturn, 1) := by decide +kernel
abbrev b_M_isBytes : ByteArray := prog_14_method_139_code
def y_M_isBytes : MethodName := ⟨R_M, "isBytes", "(II[BII)Z"⟩
abbrev k_M_isBytes : Cond := .code y_M_isBytes b_M_isBytes 7 (some .boolean)
theorem ki_M_isBytes : k_M_isBytes ∈ lw_tg := in_t 2803 (by decide +kernel)
theorem ks_M_isBytes : Cond.instanceMethod y_M_isBytes ∈ lw_tg := in_t 2802 (by decide +kernel)
theorem kx_M_isBytes : Cond.selects R_M y_M_isBytes y_M_isBytes ∈ lw_tg := List.mem_filter.mpr ⟨List.mem_append_left _ (List.mem_of_getElem? (i := 182) (by decide +kernel)), rfl⟩
theorem kl_M_isBytes : Cond.methodLink R_M 971 y_M_isBytes ∈ lw_tg := in_t 2800 (by decide +kernel)
theorem hd_M_isBytes : y_M_isBytes.cls = R_M ∧ y_M_isBytes.cls ≠ "java/lang/invoke/MethodHandle" ∧ y_M_isBytes.cls ≠ "java/lang/invoke/VarHandle" ∧ (parseMethodDescriptor y_M_isBytes.desc).map (fun d => d.parameters.length) = some 5 := by decide +kernel
theorem d_M_isBytes_0 : decode b_M_isBytes 0 = .ok (.iload_n 2, 1) := by decide +kernel
theorem d_M_isBytes_1 : decode b_M_isBytes 1 = .ok (.iload_n 1, 1) := by decide +kernel
theorem d_M_isBytes_2 : decode b_M_isBytes 2 = .ok (.isub, 1) := by decide +kernel
theorem d_M_isBytes_3 : decode b_M_isBytes 3 = .ok (.iload 5, 2) := by decide +kernel
theorem d_M_isBytes_5 : decode b_M_isBytes 5 = .ok (.if_icmp .eq 5, 3) := by decide +kernel
theorem d_M_isBytes_8 : decode b_M_isBytes 8 = .ok (.iconst 0, 1) := by decide +kernel
theorem d_M_isBytes_9 : decode b_M_isBytes 9 = .ok (.ireturn, 1) := by decide +kernel
theorem d_M_isBytes_10 : decode b_M_isBytes 10 = .ok (.iconst 0, 1) := by decide +kernel
theorem d_M_isBytes_11 : decode b_M_isBytes 11 = .ok (.istore 6, 2) := by decide +kernel
theorem d_M_isBytes_13 : decode b_M_isBytes 13 = .ok (.iload 6, 2) := by decide +kernel
theorem d_M_isBytes_15 : decode b_M_isBytes 15 = .ok (.iload 5, 2) := by decide +kernel
theorem d_M_isBytes_17 : decode b_M_isBytes 17 = .ok (.if_icmp .ge 30, 3) := by decide +kernel
theorem d_M_isBytes_20 : decode b_M_isBytes 20 = .ok (.aload_n 0, 1) := by decide +kernel
theorem d_M_isBytes_21 : decode b_M_isBytes 21 = .ok (.getfield 10, 3) := by decide +kernel
theorem d_M_isBytes_24 : decode b_M_isBytes 24 = .ok (.iload_n 1, 1) := by decide +kernel
theorem d_M_isBytes_25 : decode b_M_isBytes 25 = .ok (.iload 6, 2) := by decide +kernel
theorem d_M_isBytes_27 : decode b_M_isBytes 27 = .ok (.iadd, 1) := by decide +kernel
theorem d_M_isBytes_28 : decode b_M_isBytes 28 = .ok (.baload, 1) := by decide +kernel
theorem d_M_isBytes_29 : decode b_M_isBytes 29 = .ok (.aload_n 3, 1) := by decide +kernel
theorem d_M_isBytes_30 : decode b_M_isBytes 30 = .ok (.iload 4, 2) := by decide +kernel
theorem d_M_isBytes_32 : decode b_M_isBytes 32 = .ok (.iload 6, 2) := by decide +kernel
theorem d_M_isBytes_34 : decode b_M_isBytes 34 = .ok (.iadd, 1) := by decide +kernel
theorem d_M_isBytes_35 : decode b_M_isBytes 35 = .ok (.baload, 1) := by decide +kernel
theorem d_M_isBytes_36 : decode b_M_isBytes 36 = .ok (.if_icmp .eq 5, 3) := by decide +kernel
theorem d_M_isBytes_39 : decode b_M_isBytes 39 = .ok (.iconst 0, 1) := by decide +kernel
theorem d_M_isBytes_40 : decode b_M_isBytes 40 = .ok (.ireturn, 1) := by decide +kernel
theorem d_M_isBytes_41 : decode b_M_isBytes 41 = .ok (.iinc 6 1, 3) := by decide +kernel
theorem d_M_isBytes_44 : decode b_M_isBytes 44 = .ok (.goto (-31), 3) := by decide +kernel
theorem d_M_isBytes_47 : decode b_M_isBytes 47 = .ok (.iconst 1, 1) := by decide +kernel
theorem d_M_isBytes_48 : decode b_M_isBytes 48 = .ok (.ireturn, 1) := by decide +kernel
abbrev b_M_take : ByteArray := prog_14_method_140_code
def y_M_take : MethodName := ⟨R_M, "take", "(I)I"⟩
abbrev k_M_take : Cond := .code y_M_take b_M_take 12 (some .int)
theorem ki_M_take : k_M_take ∈ lw_tg := in_t 2787 (by decide +kernel)
theorem ks_M_take : Cond.instanceMethod y_M_take ∈ lw_tg := in_t 2785 (by decide +kernel)
theorem kx_M_take : Cond.selects R_M y_M_take y_M_take ∈ lw_tg := in_t 2786 (by decide +kernel)
theorem hd_M_take : y_M_take.cls = R_M ∧ y_M_take.cls ≠ "java/lang/invoke/MethodHandle" ∧ y_M_take.cls ≠ "java/lang/invoke/VarHandle" ∧ (parseMethodDescriptor y_M_take.desc).map (fun d => d.parameters.length) = some 1 := by decide +kernel
theorem d_M_take_0 : decode b_M_take 0 = .ok (.aload_n 0, 1) := by decide +kernel
theorem d_M_take_1 : decode b_M_take 1 = .ok (.getfield 332, 3) := by decide +kernel
theorem d_M_take_4 : decode b_M_take 4 = .ok (.istore_n 2, 1) := by decide +kernel
theorem d_M_take_5 : decode b_M_take 5 = .ok (.aload_n 0, 1) := by decide +kernel
theorem d_M_take_6 : decode b_M_take 6 = .ok (.iconst 0, 1) := by decide +kernel
theorem d_M_take_7 : decode b_M_take 7 = .ok (.putfield 332, 3) := by decide +kernel
theorem d_M_take_10 : decode b_M_take 10 = .ok (.aload_n 0, 1) := by decide +kernel
theorem d_M_take_11 : decode b_M_take 11 = .ok (.iload_n 1, 1) := by decide +kernel
theorem d_M_take_12 : decode b_M_take 12 = .ok (.invokevirtual 916, 3) := by decide +kernel
theorem d_M_take_15 : decode b_M_take 15 = .ok (.ifCond .ne 5, 3) := by decide +kernel
theorem d_M_take_18 : decode b_M_take 18 = .ok (.iconst (-1), 1) := by decide +kernel
theorem d_M_take_19 : decode b_M_take 19 = .ok (.ireturn, 1) := by decide +kernel
theorem d_M_take_20 : decode b_M_take 20 = .ok (.aload_n 0, 1) := by decide +kernel
theorem d_M_take_21 : decode b_M_take 21 = .ok (.getfield 224, 3) := by decide +kernel
theorem d_M_take_24 : decode b_M_take 24 = .ok (.iload_n 1, 1) := by decide +kernel
theorem d_M_take_25 : decode b_M_take 25 = .ok (.iaload, 1) := by decide +kernel
theorem d_M_take_26 : decode b_M_take 26 = .ok (.ifCond .ge 6, 3) := by decide +kernel
theorem d_M_take_29 : decode b_M_take 29 = .ok (.bipush (-3), 2) := by decide +kernel
theorem d_M_take_31 : decode b_M_take 31 = .ok (.ireturn, 1) := by decide +kernel
theorem d_M_take_32 : decode b_M_take 32 = .ok (.aload_n 0, 1) := by decide +kernel
theorem d_M_take_33 : decode b_M_take 33 = .ok (.getfield 224, 3) := by decide +kernel
theorem d_M_take_36 : decode b_M_take 36 = .ok (.iload_n 1, 1) := by decide +kernel
theorem d_M_take_37 : decode b_M_take 37 = .ok (.iaload, 1) := by decide +kernel
theorem d_M_take_38 : decode b_M_take 38 = .ok (.istore_n 3, 1) := by decide +kernel
theorem d_M_take_39 : decode b_M_take 39 = .ok (.aload_n 0, 1) := by decide +kernel
theorem d_M_take_40 : decode b_M_take 40 = .ok (.getfield 224, 3) := by decide +kernel
theorem d_M_take_43 : decode b_M_take 43 = .ok (.iload_n 1, 1) := by decide +kernel
theorem d_M_take_44 : decode b_M_take 44 = .ok (.iconst (-1), 1) := by decide +kernel
theorem d_M_take_45 : decode b_M_take 45 = .ok (.iastore, 1) := by decide +kernel
theorem d_M_take_46 : decode b_M_take 46 = .ok (.iload_n 2, 1) := by decide +kernel
theorem d_M_take_47 : decode b_M_take 47 = .ok (.ifCond .ne 7, 3) := by decide +kernel
theorem d_M_take_50 : decode b_M_take 50 = .ok (.iconst 0, 1) := by decide +kernel
theorem d_M_take_51 : decode b_M_take 51 = .ok (.goto 13, 3) := by decide +kernel
theorem d_M_take_54 : decode b_M_take 54 = .ok (.aload_n 0, 1) := by decide +kernel
theorem d_M_take_55 : decode b_M_take 55 = .ok (.getfield 10, 3) := by decide +kernel
theorem d_M_take_58 : decode b_M_take 58 = .ok (.iconst 0, 1) := by decide +kernel
theorem d_M_take_59 : decode b_M_take 59 = .ok (.baload, 1) := by decide +kernel
theorem d_M_take_60 : decode b_M_take 60 = .ok (.sipush 255, 3) := by decide +kernel
theorem d_M_take_63 : decode b_M_take 63 = .ok (.iand, 1) := by decide +kernel
theorem d_M_take_64 : decode b_M_take 64 = .ok (.istore 4, 2) := by decide +kernel
theorem d_M_take_66 : decode b_M_take 66 = .ok (.iload 4, 2) := by decide +kernel
theorem d_M_take_68 : decode b_M_take 68 = .ok (.bipush 126, 2) := by decide +kernel
theorem d_M_take_70 : decode b_M_take 70 = .ok (.if_icmp .ne 56, 3) := by decide +kernel
theorem d_M_take_73 : decode b_M_take 73 = .ok (.aload_n 0, 1) := by decide +kernel
theorem d_M_take_74 : decode b_M_take 74 = .ok (.bipush 30, 2) := by decide +kernel
theorem d_M_take_76 : decode b_M_take 76 = .ok (.ldc_w 956, 3) := by decide +kernel
theorem d_M_take_79 : decode b_M_take 79 = .ok (.iconst 0, 1) := by decide +kernel
theorem d_M_take_80 : decode b_M_take 80 = .ok (.iload_n 2, 1) := by decide +kernel
theorem d_M_take_81 : decode b_M_take 81 = .ok (.iconst 0, 1) := by decide +kernel
theorem d_M_take_82 : decode b_M_take 82 = .ok (.invokevirtual 522, 3) := by decide +kernel
theorem d_M_take_85 : decode b_M_take 85 = .ok (.ifCond .ne 6, 3) := by decide +kernel
theorem d_M_take_88 : decode b_M_take 88 = .ok (.bipush (-60), 2) := by decide +kernel
theorem d_M_take_90 : decode b_M_take 90 = .ok (.ireturn, 1) := by decide +kernel
theorem d_M_take_91 : decode b_M_take 91 = .ok (.aload_n 0, 1) := by decide +kernel
theorem d_M_take_92 : decode b_M_take 92 = .ok (.iconst 0, 1) := by decide +kernel
theorem d_M_take_93 : decode b_M_take 93 = .ok (.bipush 6, 2) := by decide +kernel
theorem d_M_take_95 : decode b_M_take 95 = .ok (.invokevirtual 665, 3) := by decide +kernel
theorem d_M_take_98 : decode b_M_take 98 = .ok (.lstore 5, 2) := by decide +kernel
theorem d_M_take_100 : decode b_M_take 100 = .ok (.lload 5, 2) := by decide +kernel
theorem d_M_take_102 : decode b_M_take 102 = .ok (.lconst 1, 1) := by decide +kernel
theorem d_M_take_103 : decode b_M_take 103 = .ok (.lcmp, 1) := by decide +kernel
theorem d_M_take_104 : decode b_M_take 104 = .ok (.ifCond .lt 12, 3) := by decide +kernel
theorem d_M_take_107 : decode b_M_take 107 = .ok (.lload 5, 2) := by decide +kernel
theorem d_M_take_109 : decode b_M_take 109 = .ok (.ldc2_w 958, 3) := by decide +kernel
theorem d_M_take_112 : decode b_M_take 112 = .ok (.lcmp, 1) := by decide +kernel
theorem d_M_take_113 : decode b_M_take 113 = .ok (.ifCond .le 8, 3) := by decide +kernel
theorem d_M_take_116 : decode b_M_take 116 = .ok (.bipush (-60), 2) := by decide +kernel
theorem d_M_take_118 : decode b_M_take 118 = .ok (.goto 7, 3) := by decide +kernel
theorem d_M_take_121 : decode b_M_take 121 = .ok (.lload 5, 2) := by decide +kernel
theorem d_M_take_123 : decode b_M_take 123 = .ok (.lneg, 1) := by decide +kernel
theorem d_M_take_124 : decode b_M_take 124 = .ok (.l2i, 1) := by decide +kernel
theorem d_M_take_125 : decode b_M_take 125 = .ok (.ireturn, 1) := by decide +kernel
theorem d_M_take_126 : decode b_M_take 126 = .ok (.iload 4, 2) := by decide +kernel
theorem d_M_take_128 : decode b_M_take 128 = .ok (.bipush 107, 2) := by decide +kernel
theorem d_M_take_130 : decode b_M_take 130 = .ok (.if_icmp .ne 7, 3) := by decide +kernel
theorem d_M_take_133 : decode b_M_take 133 = .ok (.iconst 1, 1) := by decide +kernel
theorem d_M_take_134 : decode b_M_take 134 = .ok (.goto 4, 3) := by decide +kernel
theorem d_M_take_137 : decode b_M_take 137 = .ok (.iconst 0, 1) := by decide +kernel
theorem d_M_take_138 : decode b_M_take 138 = .ok (.istore 5, 2) := by decide +kernel
theorem d_M_take_140 : decode b_M_take 140 = .ok (.iload 5, 2) := by decide +kernel
theorem d_M_take_142 : decode b_M_take 142 = .ok (.ifCond .ne 10, 3) := by decide +kernel
theorem d_M_take_145 : decode b_M_take 145 = .ok (.iload 4, 2) := by decide +kernel
theorem d_M_take_147 : decode b_M_take 147 = .ok (.bipush 109, 2) := by decide +kernel
theorem d_M_take_149 : decode b_M_take 149 = .ok (.if_icmp .ne 28, 3) := by decide +kernel
theorem d_M_take_152 : decode b_M_take 152 = .ok (.aload_n 0, 1) := by decide +kernel
theorem d_M_take_153 : decode b_M_take 153 = .ok (.iload 5, 2) := by decide +kernel
theorem d_M_take_155 : decode b_M_take 155 = .ok (.ifCond .eq 8, 3) := by decide +kernel
theorem d_M_take_158 : decode b_M_take 158 = .ok (.bipush 11, 2) := by decide +kernel
theorem d_M_take_160 : decode b_M_take 160 = .ok (.goto 5, 3) := by decide +kernel
theorem d_M_take_163 : decode b_M_take 163 = .ok (.bipush 13, 2) := by decide +kernel
theorem d_M_take_165 : decode b_M_take 165 = .ok (.ldc_w 960, 3) := by decide +kernel
theorem d_M_take_168 : decode b_M_take 168 = .ok (.iconst 0, 1) := by decide +kernel
theorem d_M_take_169 : decode b_M_take 169 = .ok (.iload_n 2, 1) := by decide +kernel
theorem d_M_take_170 : decode b_M_take 170 = .ok (.iconst 0, 1) := by decide +kernel
theorem d_M_take_171 : decode b_M_take 171 = .ok (.invokevirtual 522, 3) := by decide +kernel
theorem d_M_take_174 : decode b_M_take 174 = .ok (.ifCond .ne 6, 3) := by decide +kernel
theorem d_M_take_177 : decode b_M_take 177 = .ok (.bipush (-60), 2) := by decide +kernel
theorem d_M_take_179 : decode b_M_take 179 = .ok (.ireturn, 1) := by decide +kernel
theorem d_M_take_180 : decode b_M_take 180 = .ok (.iload 5, 2) := by decide +kernel
theorem d_M_take_182 : decode b_M_take 182 = .ok (.iload_n 3, 1) := by decide +kernel
theorem d_M_take_183 : decode b_M_take 183 = .ok (.iconst 2, 1) := by decide +kernel
theorem d_M_take_184 : decode b_M_take 184 = .ok (.if_icmp .ge 7, 3) := by decide +kernel
theorem d_M_take_187 : decode b_M_take 187 = .ok (.iconst 1, 1) := by decide +kernel
theorem d_M_take_188 : decode b_M_take 188 = .ok (.goto 4, 3) := by decide +kernel
theorem d_M_take_191 : decode b_M_take 191 = .ok (.iconst 0, 1) := by decide +kernel
theorem d_M_take_192 : decode b_M_take 192 = .ok (.if_icmp .eq 6, 3) := by decide +kernel
theorem d_M_take_195 : decode b_M_take 195 = .ok (.bipush (-40), 2) := by decide +kernel
theorem d_M_take_197 : decode b_M_take 197 = .ok (.ireturn, 1) := by decide +kernel
theorem d_M_take_198 : decode b_M_take 198 = .ok (.aload_n 0, 1) := by decide +kernel
theorem d_M_take_199 : decode b_M_take 199 = .ok (.ldc_w 516, 3) := by decide +kernel
theorem d_M_take_202 : decode b_M_take 202 = .ok (.aload_n 0, 1) := by decide +kernel
theorem d_M_take_203 : decode b_M_take 203 = .ok (.iconst 0, 1) := by decide +kernel
theorem d_M_take_204 : decode b_M_take 204 = .ok (.bipush 6, 2) := by decide +kernel
theorem d_M_take_206 : decode b_M_take 206 = .ok (.invokevirtual 536, 3) := by decide +kernel
theorem d_M_take_209 : decode b_M_take 209 = .ok (.aload_n 0, 1) := by decide +kernel
theorem d_M_take_210 : decode b_M_take 210 = .ok (.iconst 0, 1) := by decide +kernel
theorem d_M_take_211 : decode b_M_take 211 = .ok (.bipush 6, 2) := by decide +kernel
theorem d_M_take_213 : decode b_M_take 213 = .ok (.invokevirtual 539, 3) := by decide +kernel
theorem d_M_take_216 : decode b_M_take 216 = .ok (.bipush 6, 2) := by decide +kernel
theorem d_M_take_218 : decode b_M_take 218 = .ok (.invokevirtual 487, 3) := by decide +kernel
theorem d_M_take_221 : decode b_M_take 221 = .ok (.pop, 1) := by decide +kernel
theorem d_M_take_222 : decode b_M_take 222 = .ok (.aload_n 0, 1) := by decide +kernel
theorem d_M_take_223 : decode b_M_take 223 = .ok (.bipush 6, 2) := by decide +kernel
theorem d_M_take_225 : decode b_M_take 225 = .ok (.iconst 0, 1) := by decide +kernel
theorem d_M_take_226 : decode b_M_take 226 = .ok (.invokevirtual 665, 3) := by decide +kernel
theorem d_M_take_229 : decode b_M_take 229 = .ok (.lstore 6, 2) := by decide +kernel
theorem d_M_take_231 : decode b_M_take 231 = .ok (.aload_n 0, 1) := by decide +kernel
theorem d_M_take_232 : decode b_M_take 232 = .ok (.getfield 227, 3) := by decide +kernel
theorem d_M_take_235 : decode b_M_take 235 = .ok (.iload_n 1, 1) := by decide +kernel
theorem d_M_take_236 : decode b_M_take 236 = .ok (.iaload, 1) := by decide +kernel
theorem d_M_take_237 : decode b_M_take 237 = .ok (.istore 8, 2) := by decide +kernel
theorem d_M_take_239 : decode b_M_take 239 = .ok (.lload 6, 2) := by decide +kernel
theorem d_M_take_241 : decode b_M_take 241 = .ok (.ldc2_w 697, 3) := by decide +kernel
theorem d_M_take_244 : decode b_M_take 244 = .ok (.lcmp, 1) := by decide +kernel
theorem d_M_take_245 : decode b_M_take 245 = .ok (.ifCond .ne 17, 3) := by decide +kernel
theorem d_M_take_248 : decode b_M_take 248 = .ok (.iload 8, 2) := by decide +kernel
theorem d_M_take_250 : decode b_M_take 250 = .ok (.iconst 2, 1) := by decide +kernel
theorem d_M_take_251 : decode b_M_take 251 = .ok (.if_icmp .eq 7, 3) := by decide +kernel
theorem d_M_take_254 : decode b_M_take 254 = .ok (.iconst 1, 1) := by decide +kernel
theorem d_M_take_255 : decode b_M_take 255 = .ok (.goto 27, 3) := by decide +kernel
theorem d_M_take_258 : decode b_M_take 258 = .ok (.iconst 0, 1) := by decide +kernel
theorem d_M_take_259 : decode b_M_take 259 = .ok (.goto 23, 3) := by decide +kernel
theorem d_M_take_262 : decode b_M_take 262 = .ok (.lload 6, 2) := by decide +kernel
theorem d_M_take_264 : decode b_M_take 264 = .ok (.ldc2_w 699, 3) := by decide +kernel
theorem d_M_take_267 : decode b_M_take 267 = .ok (.lcmp, 1) := by decide +kernel
theorem d_M_take_268 : decode b_M_take 268 = .ok (.ifCond .ne 13, 3) := by decide +kernel
theorem d_M_take_271 : decode b_M_take 271 = .ok (.iload 8, 2) := by decide +kernel
theorem d_M_take_273 : decode b_M_take 273 = .ok (.iconst 1, 1) := by decide +kernel
theorem d_M_take_274 : decode b_M_take 274 = .ok (.if_icmp .eq 7, 3) := by decide +kernel
theorem d_M_take_277 : decode b_M_take 277 = .ok (.iconst 1, 1) := by decide +kernel
theorem d_M_take_278 : decode b_M_take 278 = .ok (.goto 4, 3) := by decide +kernel
theorem d_M_take_281 : decode b_M_take 281 = .ok (.iconst 0, 1) := by decide +kernel
theorem d_M_take_282 : decode b_M_take 282 = .ok (.istore 9, 2) := by decide +kernel
theorem d_M_take_284 : decode b_M_take 284 = .ok (.iload_n 3, 1) := by decide +kernel
theorem d_M_take_285 : decode b_M_take 285 = .ok (.iconst 2, 1) := by decide +kernel
theorem d_M_take_286 : decode b_M_take 286 = .ok (.if_icmp .ne 23, 3) := by decide +kernel
theorem d_M_take_289 : decode b_M_take 289 = .ok (.lload 6, 2) := by decide +kernel
theorem d_M_take_291 : decode b_M_take 291 = .ok (.aload_n 0, 1) := by decide +kernel
theorem d_M_take_292 : decode b_M_take 292 = .ok (.getfield 230, 3) := by decide +kernel
theorem d_M_take_295 : decode b_M_take 295 = .ok (.iload_n 1, 1) := by decide +kernel
theorem d_M_take_296 : decode b_M_take 296 = .ok (.iaload, 1) := by decide +kernel
theorem d_M_take_297 : decode b_M_take 297 = .ok (.i2l, 1) := by decide +kernel
theorem d_M_take_298 : decode b_M_take 298 = .ok (.lcmp, 1) := by decide +kernel
theorem d_M_take_299 : decode b_M_take 299 = .ok (.ifCond .ne 7, 3) := by decide +kernel
theorem d_M_take_302 : decode b_M_take 302 = .ok (.iconst 1, 1) := by decide +kernel
theorem d_M_take_303 : decode b_M_take 303 = .ok (.goto 4, 3) := by decide +kernel
theorem d_M_take_306 : decode b_M_take 306 = .ok (.iconst 0, 1) := by decide +kernel
theorem d_M_take_307 : decode b_M_take 307 = .ok (.istore 9, 2) := by decide +kernel
theorem d_M_take_309 : decode b_M_take 309 = .ok (.iload 9, 2) := by decide +kernel
theorem d_M_take_311 : decode b_M_take 311 = .ok (.ifCond .ne 6, 3) := by decide +kernel
theorem d_M_take_314 : decode b_M_take 314 = .ok (.bipush (-14), 2) := by decide +kernel
theorem d_M_take_316 : decode b_M_take 316 = .ok (.ireturn, 1) := by decide +kernel
theorem d_M_take_317 : decode b_M_take 317 = .ok (.iconst 0, 1) := by decide +kernel
theorem d_M_take_318 : decode b_M_take 318 = .ok (.istore 10, 2) := by decide +kernel
theorem d_M_take_320 : decode b_M_take 320 = .ok (.iload 10, 2) := by decide +kernel
theorem d_M_take_322 : decode b_M_take 322 = .ok (.bipush 32, 2) := by decide +kernel
theorem d_M_take_324 : decode b_M_take 324 = .ok (.if_icmp .ge 58, 3) := by decide +kernel
theorem d_M_take_327 : decode b_M_take 327 = .ok (.aload_n 0, 1) := by decide +kernel
theorem d_M_take_328 : decode b_M_take 328 = .ok (.getfield 137, 3) := by decide +kernel
theorem d_M_take_331 : decode b_M_take 331 = .ok (.iload 10, 2) := by decide +kernel
theorem d_M_take_333 : decode b_M_take 333 = .ok (.iload_n 3, 1) := by decide +kernel
theorem d_M_take_334 : decode b_M_take 334 = .ok (.iconst 2, 1) := by decide +kernel
theorem d_M_take_335 : decode b_M_take 335 = .ok (.if_icmp .ge 28, 3) := by decide +kernel
theorem d_M_take_338 : decode b_M_take 338 = .ok (.aload_n 0, 1) := by decide +kernel
theorem d_M_take_339 : decode b_M_take 339 = .ok (.getfield 181, 3) := by decide +kernel
theorem d_M_take_342 : decode b_M_take 342 = .ok (.bipush 64, 2) := by decide +kernel
theorem d_M_take_344 : decode b_M_take 344 = .ok (.iload_n 1, 1) := by decide +kernel
theorem d_M_take_345 : decode b_M_take 345 = .ok (.imul, 1) := by decide +kernel
theorem d_M_take_346 : decode b_M_take 346 = .ok (.bipush 32, 2) := by decide +kernel
theorem d_M_take_348 : decode b_M_take 348 = .ok (.lload 6, 2) := by decide +kernel
theorem d_M_take_350 : decode b_M_take 350 = .ok (.l2i, 1) := by decide +kernel
theorem d_M_take_351 : decode b_M_take 351 = .ok (.bipush 17, 2) := by decide +kernel
theorem d_M_take_353 : decode b_M_take 353 = .ok (.isub, 1) := by decide +kernel
theorem d_M_take_354 : decode b_M_take 354 = .ok (.imul, 1) := by decide +kernel
theorem d_M_take_355 : decode b_M_take 355 = .ok (.iadd, 1) := by decide +kernel
theorem d_M_take_356 : decode b_M_take 356 = .ok (.iload 10, 2) := by decide +kernel
theorem d_M_take_358 : decode b_M_take 358 = .ok (.iadd, 1) := by decide +kernel
theorem d_M_take_359 : decode b_M_take 359 = .ok (.baload, 1) := by decide +kernel
theorem d_M_take_360 : decode b_M_take 360 = .ok (.goto 15, 3) := by decide +kernel
theorem d_M_take_363 : decode b_M_take 363 = .ok (.aload_n 0, 1) := by decide +kernel
theorem d_M_take_364 : decode b_M_take 364 = .ok (.getfield 242, 3) := by decide +kernel
theorem d_M_take_367 : decode b_M_take 367 = .ok (.bipush 32, 2) := by decide +kernel
theorem d_M_take_369 : decode b_M_take 369 = .ok (.iload_n 1, 1) := by decide +kernel
theorem d_M_take_370 : decode b_M_take 370 = .ok (.imul, 1) := by decide +kernel
theorem d_M_take_371 : decode b_M_take 371 = .ok (.iload 10, 2) := by decide +kernel
theorem d_M_take_373 : decode b_M_take 373 = .ok (.iadd, 1) := by decide +kernel
theorem d_M_take_374 : decode b_M_take 374 = .ok (.baload, 1) := by decide +kernel
theorem d_M_take_375 : decode b_M_take 375 = .ok (.bastore, 1) := by decide +kernel
theorem d_M_take_376 : decode b_M_take 376 = .ok (.iinc 10 1, 3) := by decide +kernel
theorem d_M_take_379 : decode b_M_take 379 = .ok (.goto (-59), 3) := by decide +kernel
theorem d_M_take_382 : decode b_M_take 382 = .ok (.aload_n 0, 1) := by decide +kernel
theorem d_M_take_383 : decode b_M_take 383 = .ok (.aload_n 0, 1) := by decide +kernel
theorem d_M_take_384 : decode b_M_take 384 = .ok (.bipush 6, 2) := by decide +kernel
theorem d_M_take_386 : decode b_M_take 386 = .ok (.iconst 2, 1) := by decide +kernel
theorem d_M_take_387 : decode b_M_take 387 = .ok (.invokevirtual 536, 3) := by decide +kernel
theorem d_M_take_390 : decode b_M_take 390 = .ok (.aload_n 0, 1) := by decide +kernel
theorem d_M_take_391 : decode b_M_take 391 = .ok (.bipush 6, 2) := by decide +kernel
theorem d_M_take_393 : decode b_M_take 393 = .ok (.iconst 2, 1) := by decide +kernel
theorem d_M_take_394 : decode b_M_take 394 = .ok (.invokevirtual 539, 3) := by decide +kernel
theorem d_M_take_397 : decode b_M_take 397 = .ok (.iconst 4, 1) := by decide +kernel
theorem d_M_take_398 : decode b_M_take 398 = .ok (.invokevirtual 476, 3) := by decide +kernel
theorem d_M_take_401 : decode b_M_take 401 = .ok (.pop, 1) := by decide +kernel
theorem d_M_take_402 : decode b_M_take 402 = .ok (.aload_n 0, 1) := by decide +kernel
theorem d_M_take_403 : decode b_M_take 403 = .ok (.aload_n 0, 1) := by decide +kernel
theorem d_M_take_404 : decode b_M_take 404 = .ok (.getfield 137, 3) := by decide +kernel
theorem d_M_take_407 : decode b_M_take 407 = .ok (.lload 6, 2) := by decide +kernel
theorem d_M_take_409 : decode b_M_take 409 = .ok (.l2i, 1) := by decide +kernel
theorem d_M_take_410 : decode b_M_take 410 = .ok (.iload_n 3, 1) := by decide +kernel
theorem d_M_take_411 : decode b_M_take 411 = .ok (.iconst 2, 1) := by decide +kernel
theorem d_M_take_412 : decode b_M_take 412 = .ok (.if_icmp .ge 7, 3) := by decide +kernel
theorem d_M_take_415 : decode b_M_take 415 = .ok (.iconst 3, 1) := by decide +kernel
theorem d_M_take_416 : decode b_M_take 416 = .ok (.goto 5, 3) := by decide +kernel
theorem d_M_take_419 : decode b_M_take 419 = .ok (.bipush 9, 2) := by decide +kernel
theorem d_M_take_421 : decode b_M_take 421 = .ok (.aload_n 0, 1) := by decide +kernel
theorem d_M_take_422 : decode b_M_take 422 = .ok (.getfield 470, 3) := by decide +kernel
theorem d_M_take_425 : decode b_M_take 425 = .ok (.aload_n 0, 1) := by decide +kernel
theorem d_M_take_426 : decode b_M_take 426 = .ok (.getfield 473, 3) := by decide +kernel
theorem d_M_take_429 : decode b_M_take 429 = .ok (.sipush 4200, 3) := by decide +kernel
theorem d_M_take_432 : decode b_M_take 432 = .ok (.invokevirtual 765, 3) := by decide +kernel
theorem d_M_take_435 : decode b_M_take 435 = .ok (.istore 10, 2) := by decide +kernel
theorem d_M_take_437 : decode b_M_take 437 = .ok (.iload 10, 2) := by decide +kernel
theorem d_M_take_439 : decode b_M_take 439 = .ok (.ifCond .ge 6, 3) := by decide +kernel
theorem d_M_take_442 : decode b_M_take 442 = .ok (.bipush (-31), 2) := by decide +kernel
theorem d_M_take_444 : decode b_M_take 444 = .ok (.ireturn, 1) := by decide +kernel
theorem d_M_take_445 : decode b_M_take 445 = .ok (.iload_n 3, 1) := by decide +kernel
theorem d_M_take_446 : decode b_M_take 446 = .ok (.iconst 2, 1) := by decide +kernel
theorem d_M_take_447 : decode b_M_take 447 = .ok (.if_icmp .ge 25, 3) := by decide +kernel
theorem d_M_take_450 : decode b_M_take 450 = .ok (.aload_n 0, 1) := by decide +kernel
theorem d_M_take_451 : decode b_M_take 451 = .ok (.bipush 25, 2) := by decide +kernel
theorem d_M_take_453 : decode b_M_take 453 = .ok (.ldc_w 962, 3) := by decide +kernel
theorem d_M_take_456 : decode b_M_take 456 = .ok (.sipush 4200, 3) := by decide +kernel
theorem d_M_take_459 : decode b_M_take 459 = .ok (.sipush 4200, 3) := by decide +kernel
theorem d_M_take_462 : decode b_M_take 462 = .ok (.iload 10, 2) := by decide +kernel
theorem d_M_take_464 : decode b_M_take 464 = .ok (.iadd, 1) := by decide +kernel
theorem d_M_take_465 : decode b_M_take 465 = .ok (.iconst 4, 1) := by decide +kernel
theorem d_M_take_466 : decode b_M_take 466 = .ok (.invokevirtual 522, 3) := by decide +kernel
theorem d_M_take_469 : decode b_M_take 469 = .ok (.ifCond .ne 25, 3) := by decide +kernel
theorem d_M_take_472 : decode b_M_take 472 = .ok (.aload_n 0, 1) := by decide +kernel
theorem d_M_take_473 : decode b_M_take 473 = .ok (.bipush 26, 2) := by decide +kernel
theorem d_M_take_475 : decode b_M_take 475 = .ok (.ldc_w 962, 3) := by decide +kernel
theorem d_M_take_478 : decode b_M_take 478 = .ok (.sipush 4200, 3) := by decide +kernel
theorem d_M_take_481 : decode b_M_take 481 = .ok (.sipush 4200, 3) := by decide +kernel
theorem d_M_take_484 : decode b_M_take 484 = .ok (.iload 10, 2) := by decide +kernel
theorem d_M_take_486 : decode b_M_take 486 = .ok (.iadd, 1) := by decide +kernel
theorem d_M_take_487 : decode b_M_take 487 = .ok (.iconst 4, 1) := by decide +kernel
theorem d_M_take_488 : decode b_M_take 488 = .ok (.invokevirtual 522, 3) := by decide +kernel
theorem d_M_take_491 : decode b_M_take 491 = .ok (.ifCond .eq 7, 3) := by decide +kernel
theorem d_M_take_494 : decode b_M_take 494 = .ok (.iconst 1, 1) := by decide +kernel
theorem d_M_take_495 : decode b_M_take 495 = .ok (.goto 4, 3) := by decide +kernel
theorem d_M_take_498 : decode b_M_take 498 = .ok (.iconst 0, 1) := by decide +kernel
theorem d_M_take_499 : decode b_M_take 499 = .ok (.istore 11, 2) := by decide +kernel
theorem d_M_take_501 : decode b_M_take 501 = .ok (.iload 11, 2) := by decide +kernel
theorem d_M_take_503 : decode b_M_take 503 = .ok (.ifCond .ne 6, 3) := by decide +kernel
theorem d_M_take_506 : decode b_M_take 506 = .ok (.bipush (-60), 2) := by decide +kernel
theorem d_M_take_508 : decode b_M_take 508 = .ok (.ireturn, 1) := by decide +kernel
theorem d_M_take_509 : decode b_M_take 509 = .ok (.aload_n 0, 1) := by decide +kernel
theorem d_M_take_510 : decode b_M_take 510 = .ok (.iconst 4, 1) := by decide +kernel
theorem d_M_take_511 : decode b_M_take 511 = .ok (.iconst 2, 1) := by decide +kernel
theorem d_M_take_512 : decode b_M_take 512 = .ok (.invokevirtual 665, 3) := by decide +kernel
theorem d_M_take_515 : decode b_M_take 515 = .ok (.aload_n 0, 1) := by decide +kernel
theorem d_M_take_516 : decode b_M_take 516 = .ok (.getfield 236, 3) := by decide +kernel
theorem d_M_take_519 : decode b_M_take 519 = .ok (.iload_n 1, 1) := by decide +kernel
theorem d_M_take_520 : decode b_M_take 520 = .ok (.laload, 1) := by decide +kernel
theorem d_M_take_521 : decode b_M_take 521 = .ok (.lcmp, 1) := by decide +kernel
theorem d_M_take_522 : decode b_M_take 522 = .ok (.ifCond .eq 6, 3) := by decide +kernel
theorem d_M_take_525 : decode b_M_take 525 = .ok (.bipush (-41), 2) := by decide +kernel
theorem d_M_take_527 : decode b_M_take 527 = .ok (.ireturn, 1) := by decide +kernel
theorem d_M_take_528 : decode b_M_take 528 = .ok (.aload_n 0, 1) := by decide +kernel
theorem d_M_take_529 : decode b_M_take 529 = .ok (.iload_n 1, 1) := by decide +kernel
theorem d_M_take_530 : decode b_M_take 530 = .ok (.iload_n 3, 1) := by decide +kernel
theorem d_M_take_531 : decode b_M_take 531 = .ok (.invokevirtual 964, 3) := by decide +kernel
theorem d_M_take_534 : decode b_M_take 534 = .ok (.ireturn, 1) := by decide +kernel
abbrev b_M_taken : ByteArray := prog_14_method_141_code
def y_M_taken : MethodName := ⟨R_M, "taken", "(II)I"⟩
abbrev k_M_taken : Cond := .code y_M_taken b_M_taken 8 (some .int)
theorem ki_M_taken : k_M_taken ∈ lw_tg := List.mem_filter.mpr ⟨List.mem_append_right _ (List.mem_append_right _ (List.mem_append_right _ (List.mem_append_right _ (List.mem_append_right _ (List.mem_append_right _ (List.mem_append_right _ (List.mem_append_right _ (List.mem_append_right _ (List.mem_append_right _ (List.mem_append_right _ (List.mem_append_right _ (List.mem_append_left _ (List.mem_of_getElem? (i := 155) rfl))))))))))))), rfl⟩
theorem ks_M_taken : Cond.instanceMethod y_M_taken ∈ lw_tg := in_t 2794 (by decide +kernel)
theorem kx_M_taken : Cond.selects R_M y_M_taken y_M_taken ∈ lw_tg := List.mem_filter.mpr ⟨List.mem_append_left _ (List.mem_of_getElem? (i := 180) (by decide +kernel)), rfl⟩
theorem kl_M_taken : Cond.methodLink R_M 964 y_M_taken ∈ lw_tg := in_t 2792 (by decide +kernel)
theorem hd_M_taken : y_M_taken.cls = R_M ∧ y_M_taken.cls ≠ "java/lang/invoke/MethodHandle" ∧ y_M_taken.cls ≠ "java/lang/invoke/VarHandle" ∧ (parseMethodDescriptor y_M_taken.desc).map (fun d => d.parameters.length) = some 2 := by decide +kernel
theorem d_M_taken_0 : decode b_M_taken 0 = .ok (.aload_n 0, 1) := by decide +kernel
theorem d_M_taken_1 : decode b_M_taken 1 = .ok (.aload_n 0, 1) := by decide +kernel
theorem d_M_taken_2 : decode b_M_taken 2 = .ok (.iconst 0, 1) := by decide +kernel
theorem d_M_taken_3 : decode b_M_taken 3 = .ok (.iconst 5, 1) := by decide +kernel
theorem d_M_taken_4 : decode b_M_taken 4 = .ok (.invokevirtual 536, 3) := by decide +kernel
theorem d_M_taken_7 : decode b_M_taken 7 = .ok (.aload_n 0, 1) := by decide +kernel
theorem d_M_taken_8 : decode b_M_taken 8 = .ok (.iconst 0, 1) := by decide +kernel
theorem d_M_taken_9 : decode b_M_taken 9 = .ok (.iconst 5, 1) := by decide +kernel
theorem d_M_taken_10 : decode b_M_taken 10 = .ok (.invokevirtual 539, 3) := by decide +kernel
theorem d_M_taken_13 : decode b_M_taken 13 = .ok (.bipush 97, 2) := by decide +kernel
theorem d_M_taken_15 : decode b_M_taken 15 = .ok (.invokevirtual 480, 3) := by decide +kernel
theorem d_M_taken_18 : decode b_M_taken 18 = .ok (.pop, 1) := by decide +kernel
theorem d_M_taken_19 : decode b_M_taken 19 = .ok (.aload_n 0, 1) := by decide +kernel
theorem d_M_taken_20 : decode b_M_taken 20 = .ok (.ldc_w 520, 3) := by decide +kernel
theorem d_M_taken_23 : decode b_M_taken 23 = .ok (.aload_n 0, 1) := by decide +kernel
theorem d_M_taken_24 : decode b_M_taken 24 = .ok (.getfield 470, 3) := by decide +kernel
theorem d_M_taken_27 : decode b_M_taken 27 = .ok (.aload_n 0, 1) := by decide +kernel
theorem d_M_taken_28 : decode b_M_taken 28 = .ok (.iconst 0, 1) := by decide +kernel
theorem d_M_taken_29 : decode b_M_taken 29 = .ok (.iconst 5, 1) := by decide +kernel
theorem d_M_taken_30 : decode b_M_taken 30 = .ok (.invokevirtual 539, 3) := by decide +kernel
theorem d_M_taken_33 : decode b_M_taken 33 = .ok (.iconst 3, 1) := by decide +kernel
theorem d_M_taken_34 : decode b_M_taken 34 = .ok (.invokevirtual 487, 3) := by decide +kernel
theorem d_M_taken_37 : decode b_M_taken 37 = .ok (.pop, 1) := by decide +kernel
theorem d_M_taken_38 : decode b_M_taken 38 = .ok (.iload_n 2, 1) := by decide +kernel
theorem d_M_taken_39 : decode b_M_taken 39 = .ok (.iconst 2, 1) := by decide +kernel
theorem d_M_taken_40 : decode b_M_taken 40 = .ok (.if_icmp .ge 67, 3) := by decide +kernel
theorem d_M_taken_43 : decode b_M_taken 43 = .ok (.aload_n 0, 1) := by decide +kernel
theorem d_M_taken_44 : decode b_M_taken 44 = .ok (.aload_n 0, 1) := by decide +kernel
theorem d_M_taken_45 : decode b_M_taken 45 = .ok (.iconst 0, 1) := by decide +kernel
theorem d_M_taken_46 : decode b_M_taken 46 = .ok (.iconst 3, 1) := by decide +kernel
theorem d_M_taken_47 : decode b_M_taken 47 = .ok (.invokevirtual 536, 3) := by decide +kernel
theorem d_M_taken_50 : decode b_M_taken 50 = .ok (.aload_n 0, 1) := by decide +kernel
theorem d_M_taken_51 : decode b_M_taken 51 = .ok (.iconst 0, 1) := by decide +kernel
theorem d_M_taken_52 : decode b_M_taken 52 = .ok (.iconst 3, 1) := by decide +kernel
theorem d_M_taken_53 : decode b_M_taken 53 = .ok (.invokevirtual 539, 3) := by decide +kernel
theorem d_M_taken_56 : decode b_M_taken 56 = .ok (.ldc_w 621, 3) := by decide +kernel
theorem d_M_taken_59 : decode b_M_taken 59 = .ok (.invokevirtual 678, 3) := by decide +kernel
theorem d_M_taken_62 : decode b_M_taken 62 = .ok (.ifCond .eq 40, 3) := by decide +kernel
theorem d_M_taken_65 : decode b_M_taken 65 = .ok (.aload_n 0, 1) := by decide +kernel
theorem d_M_taken_66 : decode b_M_taken 66 = .ok (.aload_n 0, 1) := by decide +kernel
theorem d_M_taken_67 : decode b_M_taken 67 = .ok (.iconst 0, 1) := by decide +kernel
theorem d_M_taken_68 : decode b_M_taken 68 = .ok (.iconst 4, 1) := by decide +kernel
theorem d_M_taken_69 : decode b_M_taken 69 = .ok (.invokevirtual 536, 3) := by decide +kernel
theorem d_M_taken_72 : decode b_M_taken 72 = .ok (.aload_n 0, 1) := by decide +kernel
theorem d_M_taken_73 : decode b_M_taken 73 = .ok (.iconst 0, 1) := by decide +kernel
theorem d_M_taken_74 : decode b_M_taken 74 = .ok (.iconst 4, 1) := by decide +kernel
theorem d_M_taken_75 : decode b_M_taken 75 = .ok (.invokevirtual 539, 3) := by decide +kernel
theorem d_M_taken_78 : decode b_M_taken 78 = .ok (.aload_n 0, 1) := by decide +kernel
theorem d_M_taken_79 : decode b_M_taken 79 = .ok (.getfield 169, 3) := by decide +kernel
theorem d_M_taken_82 : decode b_M_taken 82 = .ok (.bipush 40, 2) := by decide +kernel
theorem d_M_taken_84 : decode b_M_taken 84 = .ok (.iload_n 1, 1) := by decide +kernel
theorem d_M_taken_85 : decode b_M_taken 85 = .ok (.imul, 1) := by decide +kernel
theorem d_M_taken_86 : decode b_M_taken 86 = .ok (.aload_n 0, 1) := by decide +kernel
theorem d_M_taken_87 : decode b_M_taken 87 = .ok (.getfield 172, 3) := by decide +kernel
theorem d_M_taken_90 : decode b_M_taken 90 = .ok (.iload_n 1, 1) := by decide +kernel
theorem d_M_taken_91 : decode b_M_taken 91 = .ok (.iaload, 1) := by decide +kernel
theorem d_M_taken_92 : decode b_M_taken 92 = .ok (.invokevirtual 967, 3) := by decide +kernel
theorem d_M_taken_95 : decode b_M_taken 95 = .ok (.ifCond .eq 7, 3) := by decide +kernel
theorem d_M_taken_98 : decode b_M_taken 98 = .ok (.iconst 1, 1) := by decide +kernel
theorem d_M_taken_99 : decode b_M_taken 99 = .ok (.goto 4, 3) := by decide +kernel
theorem d_M_taken_102 : decode b_M_taken 102 = .ok (.iconst 0, 1) := by decide +kernel
theorem d_M_taken_103 : decode b_M_taken 103 = .ok (.istore_n 3, 1) := by decide +kernel
theorem d_M_taken_104 : decode b_M_taken 104 = .ok (.goto 128, 3) := by decide +kernel
theorem d_M_taken_107 : decode b_M_taken 107 = .ok (.aload_n 0, 1) := by decide +kernel
theorem d_M_taken_108 : decode b_M_taken 108 = .ok (.aload_n 0, 1) := by decide +kernel
theorem d_M_taken_109 : decode b_M_taken 109 = .ok (.iconst 0, 1) := by decide +kernel
theorem d_M_taken_110 : decode b_M_taken 110 = .ok (.iconst 3, 1) := by decide +kernel
theorem d_M_taken_111 : decode b_M_taken 111 = .ok (.invokevirtual 536, 3) := by decide +kernel
theorem d_M_taken_114 : decode b_M_taken 114 = .ok (.aload_n 0, 1) := by decide +kernel
theorem d_M_taken_115 : decode b_M_taken 115 = .ok (.iconst 0, 1) := by decide +kernel
theorem d_M_taken_116 : decode b_M_taken 116 = .ok (.iconst 3, 1) := by decide +kernel
theorem d_M_taken_117 : decode b_M_taken 117 = .ok (.invokevirtual 539, 3) := by decide +kernel
theorem d_M_taken_120 : decode b_M_taken 120 = .ok (.aload_n 0, 1) := by decide +kernel
theorem d_M_taken_121 : decode b_M_taken 121 = .ok (.getfield 248, 3) := by decide +kernel
theorem d_M_taken_124 : decode b_M_taken 124 = .ok (.sipush 400, 3) := by decide +kernel
theorem d_M_taken_127 : decode b_M_taken 127 = .ok (.iload_n 1, 1) := by decide +kernel
theorem d_M_taken_128 : decode b_M_taken 128 = .ok (.imul, 1) := by decide +kernel
theorem d_M_taken_129 : decode b_M_taken 129 = .ok (.aload_n 0, 1) := by decide +kernel
theorem d_M_taken_130 : decode b_M_taken 130 = .ok (.getfield 251, 3) := by decide +kernel
theorem d_M_taken_133 : decode b_M_taken 133 = .ok (.iload_n 1, 1) := by decide +kernel
theorem d_M_taken_134 : decode b_M_taken 134 = .ok (.iaload, 1) := by decide +kernel
theorem d_M_taken_135 : decode b_M_taken 135 = .ok (.invokevirtual 971, 3) := by decide +kernel
theorem d_M_taken_138 : decode b_M_taken 138 = .ok (.istore_n 3, 1) := by decide +kernel
theorem d_M_taken_139 : decode b_M_taken 139 = .ok (.iconst 0, 1) := by decide +kernel
theorem d_M_taken_140 : decode b_M_taken 140 = .ok (.istore 4, 2) := by decide +kernel
theorem d_M_taken_142 : decode b_M_taken 142 = .ok (.iload 4, 2) := by decide +kernel
theorem d_M_taken_144 : decode b_M_taken 144 = .ok (.aload_n 0, 1) := by decide +kernel
theorem d_M_taken_145 : decode b_M_taken 145 = .ok (.getfield 254, 3) := by decide +kernel
theorem d_M_taken_148 : decode b_M_taken 148 = .ok (.iload_n 1, 1) := by decide +kernel
theorem d_M_taken_149 : decode b_M_taken 149 = .ok (.iaload, 1) := by decide +kernel
theorem d_M_taken_150 : decode b_M_taken 150 = .ok (.if_icmp .ge 40, 3) := by decide +kernel
theorem d_M_taken_153 : decode b_M_taken 153 = .ok (.aload_n 0, 1) := by decide +kernel
theorem d_M_taken_154 : decode b_M_taken 154 = .ok (.getfield 10, 3) := by decide +kernel
theorem d_M_taken_157 : decode b_M_taken 157 = .ok (.sipush 13200, 3) := by decide +kernel
theorem d_M_taken_160 : decode b_M_taken 160 = .ok (.iload 4, 2) := by decide +kernel
theorem d_M_taken_162 : decode b_M_taken 162 = .ok (.iadd, 1) := by decide +kernel
theorem d_M_taken_163 : decode b_M_taken 163 = .ok (.aload_n 0, 1) := by decide +kernel
theorem d_M_taken_164 : decode b_M_taken 164 = .ok (.getfield 248, 3) := by decide +kernel
theorem d_M_taken_167 : decode b_M_taken 167 = .ok (.sipush 400, 3) := by decide +kernel
theorem d_M_taken_170 : decode b_M_taken 170 = .ok (.iload_n 1, 1) := by decide +kernel
theorem d_M_taken_171 : decode b_M_taken 171 = .ok (.imul, 1) := by decide +kernel
theorem d_M_taken_172 : decode b_M_taken 172 = .ok (.aload_n 0, 1) := by decide +kernel
theorem d_M_taken_173 : decode b_M_taken 173 = .ok (.getfield 251, 3) := by decide +kernel
theorem d_M_taken_176 : decode b_M_taken 176 = .ok (.iload_n 1, 1) := by decide +kernel
theorem d_M_taken_177 : decode b_M_taken 177 = .ok (.iaload, 1) := by decide +kernel
theorem d_M_taken_178 : decode b_M_taken 178 = .ok (.iadd, 1) := by decide +kernel
theorem d_M_taken_179 : decode b_M_taken 179 = .ok (.iload 4, 2) := by decide +kernel
theorem d_M_taken_181 : decode b_M_taken 181 = .ok (.iadd, 1) := by decide +kernel
theorem d_M_taken_182 : decode b_M_taken 182 = .ok (.baload, 1) := by decide +kernel
theorem d_M_taken_183 : decode b_M_taken 183 = .ok (.bastore, 1) := by decide +kernel
theorem d_M_taken_184 : decode b_M_taken 184 = .ok (.iinc 4 1, 3) := by decide +kernel
theorem d_M_taken_187 : decode b_M_taken 187 = .ok (.goto (-45), 3) := by decide +kernel
theorem d_M_taken_190 : decode b_M_taken 190 = .ok (.iload_n 3, 1) := by decide +kernel
theorem d_M_taken_191 : decode b_M_taken 191 = .ok (.ifCond .eq 39, 3) := by decide +kernel
theorem d_M_taken_194 : decode b_M_taken 194 = .ok (.aload_n 0, 1) := by decide +kernel
theorem d_M_taken_195 : decode b_M_taken 195 = .ok (.aload_n 0, 1) := by decide +kernel
theorem d_M_taken_196 : decode b_M_taken 196 = .ok (.iconst 0, 1) := by decide +kernel
theorem d_M_taken_197 : decode b_M_taken 197 = .ok (.iconst 4, 1) := by decide +kernel
theorem d_M_taken_198 : decode b_M_taken 198 = .ok (.invokevirtual 536, 3) := by decide +kernel
theorem d_M_taken_201 : decode b_M_taken 201 = .ok (.aload_n 0, 1) := by decide +kernel
theorem d_M_taken_202 : decode b_M_taken 202 = .ok (.iconst 0, 1) := by decide +kernel
theorem d_M_taken_203 : decode b_M_taken 203 = .ok (.iconst 4, 1) := by decide +kernel
theorem d_M_taken_204 : decode b_M_taken 204 = .ok (.invokevirtual 539, 3) := by decide +kernel
theorem d_M_taken_207 : decode b_M_taken 207 = .ok (.sipush 13200, 3) := by decide +kernel
theorem d_M_taken_210 : decode b_M_taken 210 = .ok (.sipush 13200, 3) := by decide +kernel
theorem d_M_taken_213 : decode b_M_taken 213 = .ok (.aload_n 0, 1) := by decide +kernel
theorem d_M_taken_214 : decode b_M_taken 214 = .ok (.getfield 254, 3) := by decide +kernel
theorem d_M_taken_217 : decode b_M_taken 217 = .ok (.iload_n 1, 1) := by decide +kernel
theorem d_M_taken_218 : decode b_M_taken 218 = .ok (.iaload, 1) := by decide +kernel
theorem d_M_taken_219 : decode b_M_taken 219 = .ok (.iadd, 1) := by decide +kernel
theorem d_M_taken_220 : decode b_M_taken 220 = .ok (.invokevirtual 790, 3) := by decide +kernel
theorem d_M_taken_223 : decode b_M_taken 223 = .ok (.ifCond .eq 7, 3) := by decide +kernel
theorem d_M_taken_226 : decode b_M_taken 226 = .ok (.iconst 1, 1) := by decide +kernel
theorem d_M_taken_227 : decode b_M_taken 227 = .ok (.goto 4, 3) := by decide +kernel
theorem d_M_taken_230 : decode b_M_taken 230 = .ok (.iconst 0, 1) := by decide +kernel
theorem d_M_taken_231 : decode b_M_taken 231 = .ok (.istore_n 3, 1) := by decide +kernel
theorem d_M_taken_232 : decode b_M_taken 232 = .ok (.iload_n 3, 1) := by decide +kernel
theorem d_M_taken_233 : decode b_M_taken 233 = .ok (.ifCond .eq 62, 3) := by decide +kernel
theorem d_M_taken_236 : decode b_M_taken 236 = .ok (.aload_n 0, 1) := by decide +kernel
theorem d_M_taken_237 : decode b_M_taken 237 = .ok (.aload_n 0, 1) := by decide +kernel
theorem d_M_taken_238 : decode b_M_taken 238 = .ok (.iconst 4, 1) := by decide +kernel
theorem d_M_taken_239 : decode b_M_taken 239 = .ok (.bipush 9, 2) := by decide +kernel
theorem d_M_taken_241 : decode b_M_taken 241 = .ok (.invokevirtual 536, 3) := by decide +kernel
theorem d_M_taken_244 : decode b_M_taken 244 = .ok (.aload_n 0, 1) := by decide +kernel
theorem d_M_taken_245 : decode b_M_taken 245 = .ok (.iconst 4, 1) := by decide +kernel
theorem d_M_taken_246 : decode b_M_taken 246 = .ok (.bipush 9, 2) := by decide +kernel
theorem d_M_taken_248 : decode b_M_taken 248 = .ok (.invokevirtual 539, 3) := by decide +kernel
theorem d_M_taken_251 : decode b_M_taken 251 = .ok (.ldc_w 621, 3) := by decide +kernel
theorem d_M_taken_254 : decode b_M_taken 254 = .ok (.invokevirtual 678, 3) := by decide +kernel
theorem d_M_taken_257 : decode b_M_taken 257 = .ok (.ifCond .eq 38, 3) := by decide +kernel
theorem d_M_taken_260 : decode b_M_taken 260 = .ok (.aload_n 0, 1) := by decide +kernel
theorem d_M_taken_261 : decode b_M_taken 261 = .ok (.aload_n 0, 1) := by decide +kernel
theorem d_M_taken_262 : decode b_M_taken 262 = .ok (.iconst 4, 1) := by decide +kernel
theorem d_M_taken_263 : decode b_M_taken 263 = .ok (.bipush 10, 2) := by decide +kernel
theorem d_M_taken_265 : decode b_M_taken 265 = .ok (.invokevirtual 536, 3) := by decide +kernel
theorem d_M_taken_268 : decode b_M_taken 268 = .ok (.aload_n 0, 1) := by decide +kernel
theorem d_M_taken_269 : decode b_M_taken 269 = .ok (.iconst 4, 1) := by decide +kernel
theorem d_M_taken_270 : decode b_M_taken 270 = .ok (.bipush 10, 2) := by decide +kernel
theorem d_M_taken_272 : decode b_M_taken 272 = .ok (.invokevirtual 539, 3) := by decide +kernel
theorem d_M_taken_275 : decode b_M_taken 275 = .ok (.aload_n 0, 1) := by decide +kernel
theorem d_M_taken_276 : decode b_M_taken 276 = .ok (.getfield 245, 3) := by decide +kernel
theorem d_M_taken_279 : decode b_M_taken 279 = .ok (.bipush 40, 2) := by decide +kernel
theorem d_M_taken_281 : decode b_M_taken 281 = .ok (.iload_n 1, 1) := by decide +kernel
theorem d_M_taken_282 : decode b_M_taken 282 = .ok (.imul, 1) := by decide +kernel
theorem d_M_taken_283 : decode b_M_taken 283 = .ok (.aload_n 0, 1) := by decide +kernel
theorem d_M_taken_284 : decode b_M_taken 284 = .ok (.getfield 233, 3) := by decide +kernel
theorem d_M_taken_287 : decode b_M_taken 287 = .ok (.iload_n 1, 1) := by decide +kernel
theorem d_M_taken_288 : decode b_M_taken 288 = .ok (.iaload, 1) := by decide +kernel
theorem d_M_taken_289 : decode b_M_taken 289 = .ok (.invokevirtual 967, 3) := by decide +kernel
theorem d_M_taken_292 : decode b_M_taken 292 = .ok (.ifCond .ne 6, 3) := by decide +kernel
theorem d_M_taken_295 : decode b_M_taken 295 = .ok (.bipush (-41), 2) := by decide +kernel
theorem d_M_taken_297 : decode b_M_taken 297 = .ok (.ireturn, 1) := by decide +kernel
theorem d_M_taken_298 : decode b_M_taken 298 = .ok (.aload_n 0, 1) := by decide +kernel
theorem d_M_taken_299 : decode b_M_taken 299 = .ok (.aload_n 0, 1) := by decide +kernel
theorem d_M_taken_300 : decode b_M_taken 300 = .ok (.iconst 4, 1) := by decide +kernel
theorem d_M_taken_301 : decode b_M_taken 301 = .ok (.bipush 9, 2) := by decide +kernel
theorem d_M_taken_303 : decode b_M_taken 303 = .ok (.invokevirtual 536, 3) := by decide +kernel
theorem d_M_taken_306 : decode b_M_taken 306 = .ok (.aload_n 0, 1) := by decide +kernel
theorem d_M_taken_307 : decode b_M_taken 307 = .ok (.iconst 4, 1) := by decide +kernel
theorem d_M_taken_308 : decode b_M_taken 308 = .ok (.bipush 9, 2) := by decide +kernel
theorem d_M_taken_310 : decode b_M_taken 310 = .ok (.invokevirtual 539, 3) := by decide +kernel
theorem d_M_taken_313 : decode b_M_taken 313 = .ok (.aload_n 0, 1) := by decide +kernel
theorem d_M_taken_314 : decode b_M_taken 314 = .ok (.iconst 3, 1) := by decide +kernel
theorem d_M_taken_315 : decode b_M_taken 315 = .ok (.iconst 1, 1) := by decide +kernel
theorem d_M_taken_316 : decode b_M_taken 316 = .ok (.invokevirtual 536, 3) := by decide +kernel
theorem d_M_taken_319 : decode b_M_taken 319 = .ok (.aload_n 0, 1) := by decide +kernel
theorem d_M_taken_320 : decode b_M_taken 320 = .ok (.iconst 3, 1) := by decide +kernel
theorem d_M_taken_321 : decode b_M_taken 321 = .ok (.iconst 1, 1) := by decide +kernel
theorem d_M_taken_322 : decode b_M_taken 322 = .ok (.invokevirtual 539, 3) := by decide +kernel
theorem d_M_taken_325 : decode b_M_taken 325 = .ok (.invokevirtual 549, 3) := by decide +kernel
theorem d_M_taken_328 : decode b_M_taken 328 = .ok (.ifCond .eq 36, 3) := by decide +kernel
theorem d_M_taken_331 : decode b_M_taken 331 = .ok (.aload_n 0, 1) := by decide +kernel
theorem d_M_taken_332 : decode b_M_taken 332 = .ok (.aload_n 0, 1) := by decide +kernel
theorem d_M_taken_333 : decode b_M_taken 333 = .ok (.iconst 4, 1) := by decide +kernel
theorem d_M_taken_334 : decode b_M_taken 334 = .ok (.bipush 10, 2) := by decide +kernel
theorem d_M_taken_336 : decode b_M_taken 336 = .ok (.invokevirtual 536, 3) := by decide +kernel
theorem d_M_taken_339 : decode b_M_taken 339 = .ok (.aload_n 0, 1) := by decide +kernel
theorem d_M_taken_340 : decode b_M_taken 340 = .ok (.iconst 4, 1) := by decide +kernel
theorem d_M_taken_341 : decode b_M_taken 341 = .ok (.bipush 10, 2) := by decide +kernel
theorem d_M_taken_343 : decode b_M_taken 343 = .ok (.invokevirtual 539, 3) := by decide +kernel
theorem d_M_taken_346 : decode b_M_taken 346 = .ok (.aload_n 0, 1) := by decide +kernel
theorem d_M_taken_347 : decode b_M_taken 347 = .ok (.iconst 3, 1) := by decide +kernel
theorem d_M_taken_348 : decode b_M_taken 348 = .ok (.iconst 2, 1) := by decide +kernel
theorem d_M_taken_349 : decode b_M_taken 349 = .ok (.invokevirtual 536, 3) := by decide +kernel
theorem d_M_taken_352 : decode b_M_taken 352 = .ok (.aload_n 0, 1) := by decide +kernel
theorem d_M_taken_353 : decode b_M_taken 353 = .ok (.iconst 3, 1) := by decide +kernel
theorem d_M_taken_354 : decode b_M_taken 354 = .ok (.iconst 2, 1) := by decide +kernel
theorem d_M_taken_355 : decode b_M_taken 355 = .ok (.invokevirtual 539, 3) := by decide +kernel
theorem d_M_taken_358 : decode b_M_taken 358 = .ok (.invokevirtual 790, 3) := by decide +kernel
theorem d_M_taken_361 : decode b_M_taken 361 = .ok (.ifCond .ne 6, 3) := by decide +kernel
theorem d_M_taken_364 : decode b_M_taken 364 = .ok (.bipush (-41), 2) := by decide +kernel
theorem d_M_taken_366 : decode b_M_taken 366 = .ok (.ireturn, 1) := by decide +kernel
theorem d_M_taken_367 : decode b_M_taken 367 = .ok (.aload_n 0, 1) := by decide +kernel
theorem d_M_taken_368 : decode b_M_taken 368 = .ok (.iconst 4, 1) := by decide +kernel
theorem d_M_taken_369 : decode b_M_taken 369 = .ok (.iconst 0, 1) := by decide +kernel
theorem d_M_taken_370 : decode b_M_taken 370 = .ok (.aload_n 0, 1) := by decide +kernel
theorem d_M_taken_371 : decode b_M_taken 371 = .ok (.getfield 140, 3) := by decide +kernel
theorem d_M_taken_374 : decode b_M_taken 374 = .ok (.invokevirtual 781, 3) := by decide +kernel
theorem d_M_taken_377 : decode b_M_taken 377 = .ok (.istore 4, 2) := by decide +kernel
theorem d_M_taken_379 : decode b_M_taken 379 = .ok (.iload 4, 2) := by decide +kernel
theorem d_M_taken_381 : decode b_M_taken 381 = .ok (.ifCond .ne 6, 3) := by decide +kernel
theorem d_M_taken_384 : decode b_M_taken 384 = .ok (.bipush (-14), 2) := by decide +kernel
theorem d_M_taken_386 : decode b_M_taken 386 = .ok (.ireturn, 1) := by decide +kernel
theorem d_M_taken_387 : decode b_M_taken 387 = .ok (.aload_n 0, 1) := by decide +kernel
theorem d_M_taken_388 : decode b_M_taken 388 = .ok (.getfield 239, 3) := by decide +kernel
theorem d_M_taken_391 : decode b_M_taken 391 = .ok (.iload_n 1, 1) := by decide +kernel
theorem d_M_taken_392 : decode b_M_taken 392 = .ok (.baload, 1) := by decide +kernel
theorem d_M_taken_393 : decode b_M_taken 393 = .ok (.ifCond .ne 26, 3) := by decide +kernel
theorem d_M_taken_396 : decode b_M_taken 396 = .ok (.aload_n 0, 1) := by decide +kernel
theorem d_M_taken_397 : decode b_M_taken 397 = .ok (.aload_n 0, 1) := by decide +kernel
theorem d_M_taken_398 : decode b_M_taken 398 = .ok (.iconst 4, 1) := by decide +kernel
theorem d_M_taken_399 : decode b_M_taken 399 = .ok (.bipush 6, 2) := by decide +kernel
theorem d_M_taken_401 : decode b_M_taken 401 = .ok (.iconst 5, 1) := by decide +kernel
theorem d_M_taken_402 : decode b_M_taken 402 = .ok (.invokevirtual 816, 3) := by decide +kernel
theorem d_M_taken_405 : decode b_M_taken 405 = .ok (.aload_n 0, 1) := by decide +kernel
theorem d_M_taken_406 : decode b_M_taken 406 = .ok (.iload_n 1, 1) := by decide +kernel
theorem d_M_taken_407 : decode b_M_taken 407 = .ok (.invokevirtual 927, 3) := by decide +kernel
theorem d_M_taken_410 : decode b_M_taken 410 = .ok (.invokevirtual 771, 3) := by decide +kernel
theorem d_M_taken_413 : decode b_M_taken 413 = .ok (.ifCond .eq 6, 3) := by decide +kernel
theorem d_M_taken_416 : decode b_M_taken 416 = .ok (.bipush (-37), 2) := by decide +kernel
theorem d_M_taken_418 : decode b_M_taken 418 = .ok (.ireturn, 1) := by decide +kernel
theorem d_M_taken_419 : decode b_M_taken 419 = .ok (.iconst 0, 1) := by decide +kernel
theorem d_M_taken_420 : decode b_M_taken 420 = .ok (.istore 5, 2) := by decide +kernel
theorem d_M_taken_422 : decode b_M_taken 422 = .ok (.iload 5, 2) := by decide +kernel
theorem d_M_taken_424 : decode b_M_taken 424 = .ok (.bipush 8, 2) := by decide +kernel
theorem d_M_taken_426 : decode b_M_taken 426 = .ok (.if_icmp .ge 24, 3) := by decide +kernel
theorem d_M_taken_429 : decode b_M_taken 429 = .ok (.aload_n 0, 1) := by decide +kernel
theorem d_M_taken_430 : decode b_M_taken 430 = .ok (.getfield 184, 3) := by decide +kernel
theorem d_M_taken_433 : decode b_M_taken 433 = .ok (.bipush 8, 2) := by decide +kernel
theorem d_M_taken_435 : decode b_M_taken 435 = .ok (.iload_n 1, 1) := by decide +kernel
theorem d_M_taken_436 : decode b_M_taken 436 = .ok (.imul, 1) := by decide +kernel
theorem d_M_taken_437 : decode b_M_taken 437 = .ok (.iload 5, 2) := by decide +kernel
theorem d_M_taken_439 : decode b_M_taken 439 = .ok (.iadd, 1) := by decide +kernel
theorem d_M_taken_440 : decode b_M_taken 440 = .ok (.baload, 1) := by decide +kernel
theorem d_M_taken_441 : decode b_M_taken 441 = .ok (.ifCond .eq 9, 3) := by decide +kernel
theorem d_M_taken_444 : decode b_M_taken 444 = .ok (.iinc 5 1, 3) := by decide +kernel
theorem d_M_taken_447 : decode b_M_taken 447 = .ok (.goto (-25), 3) := by decide +kernel
theorem d_M_taken_450 : decode b_M_taken 450 = .ok (.iload 5, 2) := by decide +kernel
theorem d_M_taken_452 : decode b_M_taken 452 = .ok (.bipush 8, 2) := by decide +kernel
theorem d_M_taken_454 : decode b_M_taken 454 = .ok (.if_icmp .ne 6, 3) := by decide +kernel
theorem d_M_taken_457 : decode b_M_taken 457 = .ok (.bipush (-2), 2) := by decide +kernel
theorem d_M_taken_459 : decode b_M_taken 459 = .ok (.ireturn, 1) := by decide +kernel
theorem d_M_taken_460 : decode b_M_taken 460 = .ok (.bipush 8, 2) := by decide +kernel
theorem d_M_taken_462 : decode b_M_taken 462 = .ok (.iload_n 1, 1) := by decide +kernel
theorem d_M_taken_463 : decode b_M_taken 463 = .ok (.imul, 1) := by decide +kernel
theorem d_M_taken_464 : decode b_M_taken 464 = .ok (.iload 5, 2) := by decide +kernel
theorem d_M_taken_466 : decode b_M_taken 466 = .ok (.iadd, 1) := by decide +kernel
theorem d_M_taken_467 : decode b_M_taken 467 = .ok (.istore 6, 2) := by decide +kernel
theorem d_M_taken_469 : decode b_M_taken 469 = .ok (.aload_n 0, 1) := by decide +kernel
theorem d_M_taken_470 : decode b_M_taken 470 = .ok (.getfield 184, 3) := by decide +kernel
theorem d_M_taken_473 : decode b_M_taken 473 = .ok (.iload 6, 2) := by decide +kernel
theorem d_M_taken_475 : decode b_M_taken 475 = .ok (.iconst 1, 1) := by decide +kernel
theorem d_M_taken_476 : decode b_M_taken 476 = .ok (.bastore, 1) := by decide +kernel
theorem d_M_taken_477 : decode b_M_taken 477 = .ok (.aload_n 0, 1) := by decide +kernel
theorem d_M_taken_478 : decode b_M_taken 478 = .ok (.getfield 200, 3) := by decide +kernel
theorem d_M_taken_481 : decode b_M_taken 481 = .ok (.iload 6, 2) := by decide +kernel
theorem d_M_taken_483 : decode b_M_taken 483 = .ok (.iload 4, 2) := by decide +kernel
theorem d_M_taken_485 : decode b_M_taken 485 = .ok (.iastore, 1) := by decide +kernel
theorem d_M_taken_486 : decode b_M_taken 486 = .ok (.iconst 0, 1) := by decide +kernel
theorem d_M_taken_487 : decode b_M_taken 487 = .ok (.istore 7, 2) := by decide +kernel
theorem d_M_taken_489 : decode b_M_taken 489 = .ok (.iload 7, 2) := by decide +kernel
theorem d_M_taken_491 : decode b_M_taken 491 = .ok (.bipush 32, 2) := by decide +kernel
theorem d_M_taken_493 : decode b_M_taken 493 = .ok (.if_icmp .ge 29, 3) := by decide +kernel
theorem d_M_taken_496 : decode b_M_taken 496 = .ok (.aload_n 0, 1) := by decide +kernel
theorem d_M_taken_497 : decode b_M_taken 497 = .ok (.getfield 191, 3) := by decide +kernel
theorem d_M_taken_500 : decode b_M_taken 500 = .ok (.bipush 32, 2) := by decide +kernel
theorem d_M_taken_502 : decode b_M_taken 502 = .ok (.iload 6, 2) := by decide +kernel
theorem d_M_taken_504 : decode b_M_taken 504 = .ok (.imul, 1) := by decide +kernel
theorem d_M_taken_505 : decode b_M_taken 505 = .ok (.iload 7, 2) := by decide +kernel
theorem d_M_taken_507 : decode b_M_taken 507 = .ok (.iadd, 1) := by decide +kernel
theorem d_M_taken_508 : decode b_M_taken 508 = .ok (.aload_n 0, 1) := by decide +kernel
theorem d_M_taken_509 : decode b_M_taken 509 = .ok (.getfield 140, 3) := by decide +kernel
theorem d_M_taken_512 : decode b_M_taken 512 = .ok (.iload 7, 2) := by decide +kernel
theorem d_M_taken_514 : decode b_M_taken 514 = .ok (.baload, 1) := by decide +kernel
theorem d_M_taken_515 : decode b_M_taken 515 = .ok (.bastore, 1) := by decide +kernel
theorem d_M_taken_516 : decode b_M_taken 516 = .ok (.iinc 7 1, 3) := by decide +kernel
theorem d_M_taken_519 : decode b_M_taken 519 = .ok (.goto (-30), 3) := by decide +kernel
theorem d_M_taken_522 : decode b_M_taken 522 = .ok (.aload_n 0, 1) := by decide +kernel
theorem d_M_taken_523 : decode b_M_taken 523 = .ok (.getfield 197, 3) := by decide +kernel
theorem d_M_taken_526 : decode b_M_taken 526 = .ok (.iload 6, 2) := by decide +kernel
theorem d_M_taken_528 : decode b_M_taken 528 = .ok (.aload_n 0, 1) := by decide +kernel
theorem d_M_taken_529 : decode b_M_taken 529 = .ok (.iconst 4, 1) := by decide +kernel
theorem d_M_taken_530 : decode b_M_taken 530 = .ok (.iconst 4, 1) := by decide +kernel
theorem d_M_taken_531 : decode b_M_taken 531 = .ok (.invokevirtual 704, 3) := by decide +kernel
theorem d_M_taken_534 : decode b_M_taken 534 = .ok (.iastore, 1) := by decide +kernel
theorem d_M_taken_535 : decode b_M_taken 535 = .ok (.aload_n 0, 1) := by decide +kernel
theorem d_M_taken_536 : decode b_M_taken 536 = .ok (.getfield 203, 3) := by decide +kernel
theorem d_M_taken_539 : decode b_M_taken 539 = .ok (.iload 6, 2) := by decide +kernel
theorem d_M_taken_541 : decode b_M_taken 541 = .ok (.aload_n 0, 1) := by decide +kernel
theorem d_M_taken_542 : decode b_M_taken 542 = .ok (.iconst 4, 1) := by decide +kernel
theorem d_M_taken_543 : decode b_M_taken 543 = .ok (.iconst 5, 1) := by decide +kernel
theorem d_M_taken_544 : decode b_M_taken 544 = .ok (.invokevirtual 731, 3) := by decide +kernel
theorem d_M_taken_547 : decode b_M_taken 547 = .ok (.lastore, 1) := by decide +kernel
theorem d_M_taken_548 : decode b_M_taken 548 = .ok (.aload_n 0, 1) := by decide +kernel
theorem d_M_taken_549 : decode b_M_taken 549 = .ok (.getfield 206, 3) := by decide +kernel
theorem d_M_taken_552 : decode b_M_taken 552 = .ok (.iload 6, 2) := by decide +kernel
theorem d_M_taken_554 : decode b_M_taken 554 = .ok (.aload_n 0, 1) := by decide +kernel
theorem d_M_taken_555 : decode b_M_taken 555 = .ok (.iconst 4, 1) := by decide +kernel
theorem d_M_taken_556 : decode b_M_taken 556 = .ok (.bipush 6, 2) := by decide +kernel
theorem d_M_taken_558 : decode b_M_taken 558 = .ok (.invokevirtual 675, 3) := by decide +kernel
theorem d_M_taken_561 : decode b_M_taken 561 = .ok (.ifCond .eq 13, 3) := by decide +kernel
theorem d_M_taken_564 : decode b_M_taken 564 = .ok (.aload_n 0, 1) := by decide +kernel
theorem d_M_taken_565 : decode b_M_taken 565 = .ok (.iconst 4, 1) := by decide +kernel
theorem d_M_taken_566 : decode b_M_taken 566 = .ok (.bipush 6, 2) := by decide +kernel
theorem d_M_taken_568 : decode b_M_taken 568 = .ok (.invokevirtual 731, 3) := by decide +kernel
theorem d_M_taken_571 : decode b_M_taken 571 = .ok (.goto 6, 3) := by decide +kernel
theorem d_M_taken_574 : decode b_M_taken 574 = .ok (.ldc2_w 459, 3) := by decide +kernel
theorem d_M_taken_577 : decode b_M_taken 577 = .ok (.lastore, 1) := by decide +kernel
theorem d_M_taken_578 : decode b_M_taken 578 = .ok (.aload_n 0, 1) := by decide +kernel
theorem d_M_taken_579 : decode b_M_taken 579 = .ok (.getfield 209, 3) := by decide +kernel
theorem d_M_taken_582 : decode b_M_taken 582 = .ok (.iload 6, 2) := by decide +kernel
theorem d_M_taken_584 : decode b_M_taken 584 = .ok (.aload_n 0, 1) := by decide +kernel
theorem d_M_taken_585 : decode b_M_taken 585 = .ok (.iconst 4, 1) := by decide +kernel
theorem d_M_taken_586 : decode b_M_taken 586 = .ok (.bipush 7, 2) := by decide +kernel
theorem d_M_taken_588 : decode b_M_taken 588 = .ok (.invokevirtual 731, 3) := by decide +kernel
theorem d_M_taken_591 : decode b_M_taken 591 = .ok (.lastore, 1) := by decide +kernel
theorem d_M_taken_592 : decode b_M_taken 592 = .ok (.aload_n 0, 1) := by decide +kernel
theorem d_M_taken_593 : decode b_M_taken 593 = .ok (.getfield 212, 3) := by decide +kernel
theorem d_M_taken_596 : decode b_M_taken 596 = .ok (.iload 6, 2) := by decide +kernel
theorem d_M_taken_598 : decode b_M_taken 598 = .ok (.aload_n 0, 1) := by decide +kernel
theorem d_M_taken_599 : decode b_M_taken 599 = .ok (.iconst 4, 1) := by decide +kernel
theorem d_M_taken_600 : decode b_M_taken 600 = .ok (.bipush 8, 2) := by decide +kernel
theorem d_M_taken_602 : decode b_M_taken 602 = .ok (.invokevirtual 675, 3) := by decide +kernel
theorem d_M_taken_605 : decode b_M_taken 605 = .ok (.ifCond .eq 13, 3) := by decide +kernel
theorem d_M_taken_608 : decode b_M_taken 608 = .ok (.aload_n 0, 1) := by decide +kernel
theorem d_M_taken_609 : decode b_M_taken 609 = .ok (.iconst 4, 1) := by decide +kernel
theorem d_M_taken_610 : decode b_M_taken 610 = .ok (.bipush 8, 2) := by decide +kernel
theorem d_M_taken_612 : decode b_M_taken 612 = .ok (.invokevirtual 731, 3) := by decide +kernel
theorem d_M_taken_615 : decode b_M_taken 615 = .ok (.goto 6, 3) := by decide +kernel
theorem d_M_taken_618 : decode b_M_taken 618 = .ok (.ldc2_w 459, 3) := by decide +kernel
theorem d_M_taken_621 : decode b_M_taken 621 = .ok (.lastore, 1) := by decide +kernel
theorem d_M_taken_622 : decode b_M_taken 622 = .ok (.aload_n 0, 1) := by decide +kernel
theorem d_M_taken_623 : decode b_M_taken 623 = .ok (.getfield 194, 3) := by decide +kernel
theorem d_M_taken_626 : decode b_M_taken 626 = .ok (.iload 6, 2) := by decide +kernel
theorem d_M_taken_628 : decode b_M_taken 628 = .ok (.aload_n 0, 1) := by decide +kernel
theorem d_M_taken_629 : decode b_M_taken 629 = .ok (.iconst 0, 1) := by decide +kernel
theorem d_M_taken_630 : decode b_M_taken 630 = .ok (.iconst 5, 1) := by decide +kernel
theorem d_M_taken_631 : decode b_M_taken 631 = .ok (.invokevirtual 539, 3) := by decide +kernel
theorem d_M_taken_634 : decode b_M_taken 634 = .ok (.aload_n 0, 1) := by decide +kernel
theorem d_M_taken_635 : decode b_M_taken 635 = .ok (.iconst 0, 1) := by decide +kernel
theorem d_M_taken_636 : decode b_M_taken 636 = .ok (.iconst 5, 1) := by decide +kernel
theorem d_M_taken_637 : decode b_M_taken 637 = .ok (.invokevirtual 536, 3) := by decide +kernel
theorem d_M_taken_640 : decode b_M_taken 640 = .ok (.isub, 1) := by decide +kernel
theorem d_M_taken_641 : decode b_M_taken 641 = .ok (.iastore, 1) := by decide +kernel
theorem d_M_taken_642 : decode b_M_taken 642 = .ok (.iconst 0, 1) := by decide +kernel
theorem d_M_taken_643 : decode b_M_taken 643 = .ok (.istore 7, 2) := by decide +kernel
theorem d_M_taken_645 : decode b_M_taken 645 = .ok (.iload 7, 2) := by decide +kernel
theorem d_M_taken_647 : decode b_M_taken 647 = .ok (.aload_n 0, 1) := by decide +kernel
theorem d_M_taken_648 : decode b_M_taken 648 = .ok (.getfield 194, 3) := by decide +kernel
theorem d_M_taken_651 : decode b_M_taken 651 = .ok (.iload 6, 2) := by decide +kernel
theorem d_M_taken_653 : decode b_M_taken 653 = .ok (.iaload, 1) := by decide +kernel
theorem d_M_taken_654 : decode b_M_taken 654 = .ok (.if_icmp .ge 37, 3) := by decide +kernel
theorem d_M_taken_657 : decode b_M_taken 657 = .ok (.aload_n 0, 1) := by decide +kernel
theorem d_M_taken_658 : decode b_M_taken 658 = .ok (.getfield 188, 3) := by decide +kernel
theorem d_M_taken_661 : decode b_M_taken 661 = .ok (.sipush 4200, 3) := by decide +kernel
theorem d_M_taken_664 : decode b_M_taken 664 = .ok (.iload 6, 2) := by decide +kernel
theorem d_M_taken_666 : decode b_M_taken 666 = .ok (.imul, 1) := by decide +kernel
theorem d_M_taken_667 : decode b_M_taken 667 = .ok (.iload 7, 2) := by decide +kernel
theorem d_M_taken_669 : decode b_M_taken 669 = .ok (.iadd, 1) := by decide +kernel
theorem d_M_taken_670 : decode b_M_taken 670 = .ok (.aload_n 0, 1) := by decide +kernel
theorem d_M_taken_671 : decode b_M_taken 671 = .ok (.getfield 10, 3) := by decide +kernel
theorem d_M_taken_674 : decode b_M_taken 674 = .ok (.aload_n 0, 1) := by decide +kernel
theorem d_M_taken_675 : decode b_M_taken 675 = .ok (.iconst 0, 1) := by decide +kernel
theorem d_M_taken_676 : decode b_M_taken 676 = .ok (.iconst 5, 1) := by decide +kernel
theorem d_M_taken_677 : decode b_M_taken 677 = .ok (.invokevirtual 536, 3) := by decide +kernel
theorem d_M_taken_680 : decode b_M_taken 680 = .ok (.iload 7, 2) := by decide +kernel
theorem d_M_taken_682 : decode b_M_taken 682 = .ok (.iadd, 1) := by decide +kernel
theorem d_M_taken_683 : decode b_M_taken 683 = .ok (.baload, 1) := by decide +kernel
theorem d_M_taken_684 : decode b_M_taken 684 = .ok (.bastore, 1) := by decide +kernel
theorem d_M_taken_685 : decode b_M_taken 685 = .ok (.iinc 7 1, 3) := by decide +kernel
theorem d_M_taken_688 : decode b_M_taken 688 = .ok (.goto (-43), 3) := by decide +kernel
theorem d_M_taken_691 : decode b_M_taken 691 = .ok (.aload_n 0, 1) := by decide +kernel
theorem d_M_taken_692 : decode b_M_taken 692 = .ok (.getfield 218, 3) := by decide +kernel
theorem d_M_taken_695 : decode b_M_taken 695 = .ok (.iload 6, 2) := by decide +kernel
theorem d_M_taken_697 : decode b_M_taken 697 = .ok (.aload_n 0, 1) := by decide +kernel
theorem d_M_taken_698 : decode b_M_taken 698 = .ok (.iconst 0, 1) := by decide +kernel
theorem d_M_taken_699 : decode b_M_taken 699 = .ok (.iconst 3, 1) := by decide +kernel
theorem d_M_taken_700 : decode b_M_taken 700 = .ok (.invokevirtual 539, 3) := by decide +kernel
theorem d_M_taken_703 : decode b_M_taken 703 = .ok (.aload_n 0, 1) := by decide +kernel
theorem d_M_taken_704 : decode b_M_taken 704 = .ok (.iconst 0, 1) := by decide +kernel
theorem d_M_taken_705 : decode b_M_taken 705 = .ok (.iconst 3, 1) := by decide +kernel
theorem d_M_taken_706 : decode b_M_taken 706 = .ok (.invokevirtual 536, 3) := by decide +kernel
theorem d_M_taken_709 : decode b_M_taken 709 = .ok (.isub, 1) := by decide +kernel
theorem d_M_taken_710 : decode b_M_taken 710 = .ok (.iastore, 1) := by decide +kernel
theorem d_M_taken_711 : decode b_M_taken 711 = .ok (.aload_n 0, 1) := by decide +kernel
theorem d_M_taken_712 : decode b_M_taken 712 = .ok (.getfield 221, 3) := by decide +kernel
theorem d_M_taken_715 : decode b_M_taken 715 = .ok (.iload 6, 2) := by decide +kernel
theorem d_M_taken_717 : decode b_M_taken 717 = .ok (.aload_n 0, 1) := by decide +kernel
theorem d_M_taken_718 : decode b_M_taken 718 = .ok (.iconst 0, 1) := by decide +kernel
theorem d_M_taken_719 : decode b_M_taken 719 = .ok (.iconst 4, 1) := by decide +kernel
theorem d_M_taken_720 : decode b_M_taken 720 = .ok (.invokevirtual 539, 3) := by decide +kernel
theorem d_M_taken_723 : decode b_M_taken 723 = .ok (.aload_n 0, 1) := by decide +kernel
theorem d_M_taken_724 : decode b_M_taken 724 = .ok (.iconst 0, 1) := by decide +kernel
theorem d_M_taken_725 : decode b_M_taken 725 = .ok (.iconst 4, 1) := by decide +kernel
theorem d_M_taken_726 : decode b_M_taken 726 = .ok (.invokevirtual 536, 3) := by decide +kernel
theorem d_M_taken_729 : decode b_M_taken 729 = .ok (.isub, 1) := by decide +kernel
theorem d_M_taken_730 : decode b_M_taken 730 = .ok (.iastore, 1) := by decide +kernel
theorem d_M_taken_731 : decode b_M_taken 731 = .ok (.iconst 0, 1) := by decide +kernel
theorem d_M_taken_732 : decode b_M_taken 732 = .ok (.istore 7, 2) := by decide +kernel
theorem d_M_taken_734 : decode b_M_taken 734 = .ok (.iload 7, 2) := by decide +kernel
theorem d_M_taken_736 : decode b_M_taken 736 = .ok (.aload_n 0, 1) := by decide +kernel
theorem d_M_taken_737 : decode b_M_taken 737 = .ok (.getfield 218, 3) := by decide +kernel
theorem d_M_taken_740 : decode b_M_taken 740 = .ok (.iload 6, 2) := by decide +kernel
theorem d_M_taken_742 : decode b_M_taken 742 = .ok (.iaload, 1) := by decide +kernel
theorem d_M_taken_743 : decode b_M_taken 743 = .ok (.if_icmp .ge 37, 3) := by decide +kernel
theorem d_M_taken_746 : decode b_M_taken 746 = .ok (.aload_n 0, 1) := by decide +kernel
theorem d_M_taken_747 : decode b_M_taken 747 = .ok (.getfield 215, 3) := by decide +kernel
theorem d_M_taken_750 : decode b_M_taken 750 = .ok (.sipush 400, 3) := by decide +kernel
theorem d_M_taken_753 : decode b_M_taken 753 = .ok (.iload 6, 2) := by decide +kernel
theorem d_M_taken_755 : decode b_M_taken 755 = .ok (.imul, 1) := by decide +kernel
theorem d_M_taken_756 : decode b_M_taken 756 = .ok (.iload 7, 2) := by decide +kernel
theorem d_M_taken_758 : decode b_M_taken 758 = .ok (.iadd, 1) := by decide +kernel
theorem d_M_taken_759 : decode b_M_taken 759 = .ok (.aload_n 0, 1) := by decide +kernel
theorem d_M_taken_760 : decode b_M_taken 760 = .ok (.getfield 10, 3) := by decide +kernel
theorem d_M_taken_763 : decode b_M_taken 763 = .ok (.aload_n 0, 1) := by decide +kernel
theorem d_M_taken_764 : decode b_M_taken 764 = .ok (.iconst 0, 1) := by decide +kernel
theorem d_M_taken_765 : decode b_M_taken 765 = .ok (.iconst 3, 1) := by decide +kernel
theorem d_M_taken_766 : decode b_M_taken 766 = .ok (.invokevirtual 536, 3) := by decide +kernel
theorem d_M_taken_769 : decode b_M_taken 769 = .ok (.iload 7, 2) := by decide +kernel
theorem d_M_taken_771 : decode b_M_taken 771 = .ok (.iadd, 1) := by decide +kernel
theorem d_M_taken_772 : decode b_M_taken 772 = .ok (.baload, 1) := by decide +kernel
theorem d_M_taken_773 : decode b_M_taken 773 = .ok (.bastore, 1) := by decide +kernel
theorem d_M_taken_774 : decode b_M_taken 774 = .ok (.iinc 7 1, 3) := by decide +kernel
theorem d_M_taken_777 : decode b_M_taken 777 = .ok (.goto (-43), 3) := by decide +kernel
theorem d_M_taken_780 : decode b_M_taken 780 = .ok (.iconst 0, 1) := by decide +kernel
theorem d_M_taken_781 : decode b_M_taken 781 = .ok (.istore 7, 2) := by decide +kernel
theorem d_M_taken_783 : decode b_M_taken 783 = .ok (.iload 7, 2) := by decide +kernel
theorem d_M_taken_785 : decode b_M_taken 785 = .ok (.aload_n 0, 1) := by decide +kernel
theorem d_M_taken_786 : decode b_M_taken 786 = .ok (.getfield 221, 3) := by decide +kernel
theorem d_M_taken_789 : decode b_M_taken 789 = .ok (.iload 6, 2) := by decide +kernel
theorem d_M_taken_791 : decode b_M_taken 791 = .ok (.iaload, 1) := by decide +kernel
theorem d_M_taken_792 : decode b_M_taken 792 = .ok (.if_icmp .ge 45, 3) := by decide +kernel
theorem d_M_taken_795 : decode b_M_taken 795 = .ok (.aload_n 0, 1) := by decide +kernel
theorem d_M_taken_796 : decode b_M_taken 796 = .ok (.getfield 215, 3) := by decide +kernel
theorem d_M_taken_799 : decode b_M_taken 799 = .ok (.sipush 400, 3) := by decide +kernel
theorem d_M_taken_802 : decode b_M_taken 802 = .ok (.iload 6, 2) := by decide +kernel
theorem d_M_taken_804 : decode b_M_taken 804 = .ok (.imul, 1) := by decide +kernel
theorem d_M_taken_805 : decode b_M_taken 805 = .ok (.aload_n 0, 1) := by decide +kernel
theorem d_M_taken_806 : decode b_M_taken 806 = .ok (.getfield 218, 3) := by decide +kernel
theorem d_M_taken_809 : decode b_M_taken 809 = .ok (.iload 6, 2) := by decide +kernel
theorem d_M_taken_811 : decode b_M_taken 811 = .ok (.iaload, 1) := by decide +kernel
theorem d_M_taken_812 : decode b_M_taken 812 = .ok (.iadd, 1) := by decide +kernel
theorem d_M_taken_813 : decode b_M_taken 813 = .ok (.iload 7, 2) := by decide +kernel
theorem d_M_taken_815 : decode b_M_taken 815 = .ok (.iadd, 1) := by decide +kernel
theorem d_M_taken_816 : decode b_M_taken 816 = .ok (.aload_n 0, 1) := by decide +kernel
theorem d_M_taken_817 : decode b_M_taken 817 = .ok (.getfield 10, 3) := by decide +kernel
theorem d_M_taken_820 : decode b_M_taken 820 = .ok (.aload_n 0, 1) := by decide +kernel
theorem d_M_taken_821 : decode b_M_taken 821 = .ok (.iconst 0, 1) := by decide +kernel
theorem d_M_taken_822 : decode b_M_taken 822 = .ok (.iconst 4, 1) := by decide +kernel
theorem d_M_taken_823 : decode b_M_taken 823 = .ok (.invokevirtual 536, 3) := by decide +kernel
theorem d_M_taken_826 : decode b_M_taken 826 = .ok (.iload 7, 2) := by decide +kernel
theorem d_M_taken_828 : decode b_M_taken 828 = .ok (.iadd, 1) := by decide +kernel
theorem d_M_taken_829 : decode b_M_taken 829 = .ok (.baload, 1) := by decide +kernel
theorem d_M_taken_830 : decode b_M_taken 830 = .ok (.bastore, 1) := by decide +kernel
theorem d_M_taken_831 : decode b_M_taken 831 = .ok (.iinc 7 1, 3) := by decide +kernel
theorem d_M_taken_834 : decode b_M_taken 834 = .ok (.goto (-51), 3) := by decide +kernel
theorem d_M_taken_837 : decode b_M_taken 837 = .ok (.iload 5, 2) := by decide +kernel
theorem d_M_taken_839 : decode b_M_taken 839 = .ok (.ireturn, 1) := by decide +kernel
abbrev b_M_present : ByteArray := prog_14_method_142_code
def y_M_present : MethodName := ⟨R_M, "present", "(III)I"⟩
abbrev k_M_present : Cond := .code y_M_present b_M_present 9 (some .int)
theorem ki_M_present : k_M_present ∈ lw_tg := in_t 2807 (by decide +kernel)
theorem ks_M_present : Cond.instanceMethod y_M_present ∈ lw_tg := in_t 2805 (by decide +kernel)
theorem kx_M_present : Cond.selects R_M y_M_present y_M_present ∈ lw_tg := in_t 2806 (by decide +kernel)
theorem hd_M_present : y_M_present.cls = R_M ∧ y_M_present.cls ≠ "java/lang/invoke/MethodHandle" ∧ y_M_present.cls ≠ "java/lang/invoke/VarHandle" ∧ (parseMethodDescriptor y_M_present.desc).map (fun d => d.parameters.length) = some 3 := by decide +kernel
theorem d_M_present_0 : decode b_M_present 0 = .ok (.aload_n 0, 1) := by decide +kernel
theorem d_M_present_1 : decode b_M_present 1 = .ok (.iload_n 1, 1) := by decide +kernel
theorem d_M_present_2 : decode b_M_present 2 = .ok (.iload_n 2, 1) := by decide +kernel
theorem d_M_present_3 : decode b_M_present 3 = .ok (.invokevirtual 923, 3) := by decide +kernel
theorem d_M_present_6 : decode b_M_present 6 = .ok (.ifCond .eq 12, 3) := by decide +kernel
theorem d_M_present_9 : decode b_M_present 9 = .ok (.iload_n 3, 1) := by decide +kernel
theorem d_M_present_10 : decode b_M_present 10 = .ok (.ifCond .lt 8, 3) := by decide +kernel
theorem d_M_present_13 : decode b_M_present 13 = .ok (.iload_n 3, 1) := by decide +kernel
theorem d_M_present_14 : decode b_M_present 14 = .ok (.iconst 3, 1) := by decide +kernel
theorem d_M_present_15 : decode b_M_present 15 = .ok (.if_icmp .le 5, 3) := by decide +kernel
theorem d_M_present_18 : decode b_M_present 18 = .ok (.iconst (-1), 1) := by decide +kernel
theorem d_M_present_19 : decode b_M_present 19 = .ok (.ireturn, 1) := by decide +kernel
theorem d_M_present_20 : decode b_M_present 20 = .ok (.bipush 8, 2) := by decide +kernel
theorem d_M_present_22 : decode b_M_present 22 = .ok (.iload_n 1, 1) := by decide +kernel
theorem d_M_present_23 : decode b_M_present 23 = .ok (.imul, 1) := by decide +kernel
theorem d_M_present_24 : decode b_M_present 24 = .ok (.iload_n 2, 1) := by decide +kernel
theorem d_M_present_25 : decode b_M_present 25 = .ok (.iadd, 1) := by decide +kernel
theorem d_M_present_26 : decode b_M_present 26 = .ok (.istore 4, 2) := by decide +kernel
theorem d_M_present_28 : decode b_M_present 28 = .ok (.aload_n 0, 1) := by decide +kernel
theorem d_M_present_29 : decode b_M_present 29 = .ok (.iload_n 1, 1) := by decide +kernel
theorem d_M_present_30 : decode b_M_present 30 = .ok (.invokevirtual 927, 3) := by decide +kernel
theorem d_M_present_33 : decode b_M_present 33 = .ok (.lstore 5, 2) := by decide +kernel
theorem d_M_present_35 : decode b_M_present 35 = .ok (.iload_n 3, 1) := by decide +kernel
theorem d_M_present_36 : decode b_M_present 36 = .ok (.iconst 2, 1) := by decide +kernel
theorem d_M_present_37 : decode b_M_present 37 = .ok (.iand, 1) := by decide +kernel
theorem d_M_present_38 : decode b_M_present 38 = .ok (.iconst 2, 1) := by decide +kernel
theorem d_M_present_39 : decode b_M_present 39 = .ok (.if_icmp .ne 7, 3) := by decide +kernel
theorem d_M_present_42 : decode b_M_present 42 = .ok (.iconst 1, 1) := by decide +kernel
theorem d_M_present_43 : decode b_M_present 43 = .ok (.goto 4, 3) := by decide +kernel
theorem d_M_present_46 : decode b_M_present 46 = .ok (.iconst 0, 1) := by decide +kernel
theorem d_M_present_47 : decode b_M_present 47 = .ok (.istore 7, 2) := by decide +kernel
theorem d_M_present_49 : decode b_M_present 49 = .ok (.aload_n 0, 1) := by decide +kernel
theorem d_M_present_50 : decode b_M_present 50 = .ok (.getfield 263, 3) := by decide +kernel
theorem d_M_present_53 : decode b_M_present 53 = .ok (.iload_n 1, 1) := by decide +kernel
theorem d_M_present_54 : decode b_M_present 54 = .ok (.iconst 0, 1) := by decide +kernel
theorem d_M_present_55 : decode b_M_present 55 = .ok (.iastore, 1) := by decide +kernel
theorem d_M_present_56 : decode b_M_present 56 = .ok (.iload 7, 2) := by decide +kernel
theorem d_M_present_58 : decode b_M_present 58 = .ok (.ifCond .eq 66, 3) := by decide +kernel
theorem d_M_present_61 : decode b_M_present 61 = .ok (.aload_n 0, 1) := by decide +kernel
theorem d_M_present_62 : decode b_M_present 62 = .ok (.getfield 263, 3) := by decide +kernel
theorem d_M_present_65 : decode b_M_present 65 = .ok (.iload_n 1, 1) := by decide +kernel
theorem d_M_present_66 : decode b_M_present 66 = .ok (.aload_n 0, 1) := by decide +kernel
theorem d_M_present_67 : decode b_M_present 67 = .ok (.getfield 200, 3) := by decide +kernel
theorem d_M_present_70 : decode b_M_present 70 = .ok (.iload 4, 2) := by decide +kernel
theorem d_M_present_72 : decode b_M_present 72 = .ok (.iaload, 1) := by decide +kernel
theorem d_M_present_73 : decode b_M_present 73 = .ok (.iastore, 1) := by decide +kernel
theorem d_M_present_74 : decode b_M_present 74 = .ok (.aload_n 0, 1) := by decide +kernel
theorem d_M_present_75 : decode b_M_present 75 = .ok (.aload_n 0, 1) := by decide +kernel
theorem d_M_present_76 : decode b_M_present 76 = .ok (.getfield 200, 3) := by decide +kernel
theorem d_M_present_79 : decode b_M_present 79 = .ok (.iload 4, 2) := by decide +kernel
theorem d_M_present_81 : decode b_M_present 81 = .ok (.iaload, 1) := by decide +kernel
theorem d_M_present_82 : decode b_M_present 82 = .ok (.aload_n 0, 1) := by decide +kernel
theorem d_M_present_83 : decode b_M_present 83 = .ok (.getfield 143, 3) := by decide +kernel
theorem d_M_present_86 : decode b_M_present 86 = .ok (.invokevirtual 857, 3) := by decide +kernel
theorem d_M_present_89 : decode b_M_present 89 = .ok (.iconst 0, 1) := by decide +kernel
theorem d_M_present_90 : decode b_M_present 90 = .ok (.istore 8, 2) := by decide +kernel
theorem d_M_present_92 : decode b_M_present 92 = .ok (.iload 8, 2) := by decide +kernel
theorem d_M_present_94 : decode b_M_present 94 = .ok (.bipush 32, 2) := by decide +kernel
theorem d_M_present_96 : decode b_M_present 96 = .ok (.if_icmp .ge 28, 3) := by decide +kernel
theorem d_M_present_99 : decode b_M_present 99 = .ok (.aload_n 0, 1) := by decide +kernel
theorem d_M_present_100 : decode b_M_present 100 = .ok (.getfield 275, 3) := by decide +kernel
theorem d_M_present_103 : decode b_M_present 103 = .ok (.bipush 32, 2) := by decide +kernel
theorem d_M_present_105 : decode b_M_present 105 = .ok (.iload_n 1, 1) := by decide +kernel
theorem d_M_present_106 : decode b_M_present 106 = .ok (.imul, 1) := by decide +kernel
theorem d_M_present_107 : decode b_M_present 107 = .ok (.iload 8, 2) := by decide +kernel
theorem d_M_present_109 : decode b_M_present 109 = .ok (.iadd, 1) := by decide +kernel
theorem d_M_present_110 : decode b_M_present 110 = .ok (.aload_n 0, 1) := by decide +kernel
theorem d_M_present_111 : decode b_M_present 111 = .ok (.getfield 143, 3) := by decide +kernel
theorem d_M_present_114 : decode b_M_present 114 = .ok (.iload 8, 2) := by decide +kernel
theorem d_M_present_116 : decode b_M_present 116 = .ok (.baload, 1) := by decide +kernel
theorem d_M_present_117 : decode b_M_present 117 = .ok (.bastore, 1) := by decide +kernel
theorem d_M_present_118 : decode b_M_present 118 = .ok (.iinc 8 1, 3) := by decide +kernel
theorem d_M_present_121 : decode b_M_present 121 = .ok (.goto (-29), 3) := by decide +kernel
theorem d_M_present_124 : decode b_M_present 124 = .ok (.aload_n 0, 1) := by decide +kernel
theorem d_M_present_125 : decode b_M_present 125 = .ok (.getfield 281, 3) := by decide +kernel
theorem d_M_present_128 : decode b_M_present 128 = .ok (.iload_n 1, 1) := by decide +kernel
theorem d_M_present_129 : decode b_M_present 129 = .ok (.aload_n 0, 1) := by decide +kernel
theorem d_M_present_130 : decode b_M_present 130 = .ok (.invokevirtual 930, 3) := by decide +kernel
theorem d_M_present_133 : decode b_M_present 133 = .ok (.ldc_w 974, 3) := by decide +kernel
theorem d_M_present_136 : decode b_M_present 136 = .ok (.iand, 1) := by decide +kernel
theorem d_M_present_137 : decode b_M_present 137 = .ok (.i2l, 1) := by decide +kernel
theorem d_M_present_138 : decode b_M_present 138 = .ok (.lastore, 1) := by decide +kernel
theorem d_M_present_139 : decode b_M_present 139 = .ok (.aload_n 0, 1) := by decide +kernel
theorem d_M_present_140 : decode b_M_present 140 = .ok (.getfield 260, 3) := by decide +kernel
theorem d_M_present_143 : decode b_M_present 143 = .ok (.iload_n 1, 1) := by decide +kernel
theorem d_M_present_144 : decode b_M_present 144 = .ok (.aload_n 0, 1) := by decide +kernel
theorem d_M_present_145 : decode b_M_present 145 = .ok (.getfield 200, 3) := by decide +kernel
theorem d_M_present_148 : decode b_M_present 148 = .ok (.iload 4, 2) := by decide +kernel
theorem d_M_present_150 : decode b_M_present 150 = .ok (.iaload, 1) := by decide +kernel
theorem d_M_present_151 : decode b_M_present 151 = .ok (.iastore, 1) := by decide +kernel
theorem d_M_present_152 : decode b_M_present 152 = .ok (.iconst 0, 1) := by decide +kernel
theorem d_M_present_153 : decode b_M_present 153 = .ok (.istore 8, 2) := by decide +kernel
theorem d_M_present_155 : decode b_M_present 155 = .ok (.iload 8, 2) := by decide +kernel
theorem d_M_present_157 : decode b_M_present 157 = .ok (.bipush 32, 2) := by decide +kernel
theorem d_M_present_159 : decode b_M_present 159 = .ok (.if_icmp .ge 48, 3) := by decide +kernel
theorem d_M_present_162 : decode b_M_present 162 = .ok (.aload_n 0, 1) := by decide +kernel
theorem d_M_present_163 : decode b_M_present 163 = .ok (.getfield 137, 3) := by decide +kernel
theorem d_M_present_166 : decode b_M_present 166 = .ok (.iload 8, 2) := by decide +kernel
theorem d_M_present_168 : decode b_M_present 168 = .ok (.aload_n 0, 1) := by decide +kernel
theorem d_M_present_169 : decode b_M_present 169 = .ok (.getfield 191, 3) := by decide +kernel
theorem d_M_present_172 : decode b_M_present 172 = .ok (.bipush 32, 2) := by decide +kernel
theorem d_M_present_174 : decode b_M_present 174 = .ok (.iload 4, 2) := by decide +kernel
theorem d_M_present_176 : decode b_M_present 176 = .ok (.imul, 1) := by decide +kernel
theorem d_M_present_177 : decode b_M_present 177 = .ok (.iload 8, 2) := by decide +kernel
theorem d_M_present_179 : decode b_M_present 179 = .ok (.iadd, 1) := by decide +kernel
theorem d_M_present_180 : decode b_M_present 180 = .ok (.baload, 1) := by decide +kernel
theorem d_M_present_181 : decode b_M_present 181 = .ok (.bastore, 1) := by decide +kernel
theorem d_M_present_182 : decode b_M_present 182 = .ok (.aload_n 0, 1) := by decide +kernel
theorem d_M_present_183 : decode b_M_present 183 = .ok (.getfield 272, 3) := by decide +kernel
theorem d_M_present_186 : decode b_M_present 186 = .ok (.bipush 32, 2) := by decide +kernel
theorem d_M_present_188 : decode b_M_present 188 = .ok (.iload_n 1, 1) := by decide +kernel
theorem d_M_present_189 : decode b_M_present 189 = .ok (.imul, 1) := by decide +kernel
theorem d_M_present_190 : decode b_M_present 190 = .ok (.iload 8, 2) := by decide +kernel
theorem d_M_present_192 : decode b_M_present 192 = .ok (.iadd, 1) := by decide +kernel
theorem d_M_present_193 : decode b_M_present 193 = .ok (.aload_n 0, 1) := by decide +kernel
theorem d_M_present_194 : decode b_M_present 194 = .ok (.getfield 137, 3) := by decide +kernel
theorem d_M_present_197 : decode b_M_present 197 = .ok (.iload 8, 2) := by decide +kernel
theorem d_M_present_199 : decode b_M_present 199 = .ok (.baload, 1) := by decide +kernel
theorem d_M_present_200 : decode b_M_present 200 = .ok (.bastore, 1) := by decide +kernel
theorem d_M_present_201 : decode b_M_present 201 = .ok (.iinc 8 1, 3) := by decide +kernel
theorem d_M_present_204 : decode b_M_present 204 = .ok (.goto (-49), 3) := by decide +kernel
theorem d_M_present_207 : decode b_M_present 207 = .ok (.aload_n 0, 1) := by decide +kernel
theorem d_M_present_208 : decode b_M_present 208 = .ok (.getfield 278, 3) := by decide +kernel
theorem d_M_present_211 : decode b_M_present 211 = .ok (.iload_n 1, 1) := by decide +kernel
theorem d_M_present_212 : decode b_M_present 212 = .ok (.lload 5, 2) := by decide +kernel
theorem d_M_present_214 : decode b_M_present 214 = .ok (.lastore, 1) := by decide +kernel
theorem d_M_present_215 : decode b_M_present 215 = .ok (.aload_n 0, 1) := by decide +kernel
theorem d_M_present_216 : decode b_M_present 216 = .ok (.getfield 266, 3) := by decide +kernel
theorem d_M_present_219 : decode b_M_present 219 = .ok (.iload_n 1, 1) := by decide +kernel
theorem d_M_present_220 : decode b_M_present 220 = .ok (.aload_n 0, 1) := by decide +kernel
theorem d_M_present_221 : decode b_M_present 221 = .ok (.getfield 178, 3) := by decide +kernel
theorem d_M_present_224 : decode b_M_present 224 = .ok (.iload_n 1, 1) := by decide +kernel
theorem d_M_present_225 : decode b_M_present 225 = .ok (.iaload, 1) := by decide +kernel
theorem d_M_present_226 : decode b_M_present 226 = .ok (.ldc_w 644, 3) := by decide +kernel
theorem d_M_present_229 : decode b_M_present 229 = .ok (.irem, 1) := by decide +kernel
theorem d_M_present_230 : decode b_M_present 230 = .ok (.iastore, 1) := by decide +kernel
theorem d_M_present_231 : decode b_M_present 231 = .ok (.aload_n 0, 1) := by decide +kernel
theorem d_M_present_232 : decode b_M_present 232 = .ok (.getfield 284, 3) := by decide +kernel
theorem d_M_present_235 : decode b_M_present 235 = .ok (.iload_n 1, 1) := by decide +kernel
theorem d_M_present_236 : decode b_M_present 236 = .ok (.lconst 0, 1) := by decide +kernel
theorem d_M_present_237 : decode b_M_present 237 = .ok (.lastore, 1) := by decide +kernel
theorem d_M_present_238 : decode b_M_present 238 = .ok (.aload_n 0, 1) := by decide +kernel
theorem d_M_present_239 : decode b_M_present 239 = .ok (.getfield 257, 3) := by decide +kernel
theorem d_M_present_242 : decode b_M_present 242 = .ok (.iload_n 1, 1) := by decide +kernel
theorem d_M_present_243 : decode b_M_present 243 = .ok (.iload_n 3, 1) := by decide +kernel
theorem d_M_present_244 : decode b_M_present 244 = .ok (.iconst 1, 1) := by decide +kernel
theorem d_M_present_245 : decode b_M_present 245 = .ok (.iand, 1) := by decide +kernel
theorem d_M_present_246 : decode b_M_present 246 = .ok (.iconst 1, 1) := by decide +kernel
theorem d_M_present_247 : decode b_M_present 247 = .ok (.if_icmp .ne 7, 3) := by decide +kernel
theorem d_M_present_250 : decode b_M_present 250 = .ok (.iconst 1, 1) := by decide +kernel
theorem d_M_present_251 : decode b_M_present 251 = .ok (.goto 4, 3) := by decide +kernel
theorem d_M_present_254 : decode b_M_present 254 = .ok (.iconst 0, 1) := by decide +kernel
theorem d_M_present_255 : decode b_M_present 255 = .ok (.bastore, 1) := by decide +kernel
theorem d_M_present_256 : decode b_M_present 256 = .ok (.aload_n 0, 1) := by decide +kernel
theorem d_M_present_257 : decode b_M_present 257 = .ok (.dup, 1) := by decide +kernel
theorem d_M_present_258 : decode b_M_present 258 = .ok (.getfield 975, 3) := by decide +kernel
theorem d_M_present_261 : decode b_M_present 261 = .ok (.iconst 1, 1) := by decide +kernel
theorem d_M_present_262 : decode b_M_present 262 = .ok (.iadd, 1) := by decide +kernel
theorem d_M_present_263 : decode b_M_present 263 = .ok (.putfield 975, 3) := by decide +kernel
theorem d_M_present_266 : decode b_M_present 266 = .ok (.aload_n 0, 1) := by decide +kernel
theorem d_M_present_267 : decode b_M_present 267 = .ok (.getfield 269, 3) := by decide +kernel
theorem d_M_present_270 : decode b_M_present 270 = .ok (.iload_n 1, 1) := by decide +kernel
theorem d_M_present_271 : decode b_M_present 271 = .ok (.aload_n 0, 1) := by decide +kernel
theorem d_M_present_272 : decode b_M_present 272 = .ok (.getfield 975, 3) := by decide +kernel
theorem d_M_present_275 : decode b_M_present 275 = .ok (.iastore, 1) := by decide +kernel
theorem d_M_present_276 : decode b_M_present 276 = .ok (.aload_n 0, 1) := by decide +kernel
theorem d_M_present_277 : decode b_M_present 277 = .ok (.invokevirtual 861, 3) := by decide +kernel
theorem d_M_present_280 : decode b_M_present 280 = .ok (.aload_n 0, 1) := by decide +kernel
theorem d_M_present_281 : decode b_M_present 281 = .ok (.bipush 7, 2) := by decide +kernel
theorem d_M_present_283 : decode b_M_present 283 = .ok (.aload_n 0, 1) := by decide +kernel
theorem d_M_present_284 : decode b_M_present 284 = .ok (.getfield 281, 3) := by decide +kernel
theorem d_M_present_287 : decode b_M_present 287 = .ok (.iload_n 1, 1) := by decide +kernel
theorem d_M_present_288 : decode b_M_present 288 = .ok (.laload, 1) := by decide +kernel
theorem d_M_present_289 : decode b_M_present 289 = .ok (.invokevirtual 588, 3) := by decide +kernel
theorem d_M_present_292 : decode b_M_present 292 = .ok (.iload 7, 2) := by decide +kernel
theorem d_M_present_294 : decode b_M_present 294 = .ok (.ifCond .eq 20, 3) := by decide +kernel
theorem d_M_present_297 : decode b_M_present 297 = .ok (.aload_n 0, 1) := by decide +kernel
theorem d_M_present_298 : decode b_M_present 298 = .ok (.bipush 6, 2) := by decide +kernel
theorem d_M_present_300 : decode b_M_present 300 = .ok (.aload_n 0, 1) := by decide +kernel
theorem d_M_present_301 : decode b_M_present 301 = .ok (.getfield 200, 3) := by decide +kernel
theorem d_M_present_304 : decode b_M_present 304 = .ok (.iload 4, 2) := by decide +kernel
theorem d_M_present_306 : decode b_M_present 306 = .ok (.iaload, 1) := by decide +kernel
theorem d_M_present_307 : decode b_M_present 307 = .ok (.aload_n 0, 1) := by decide +kernel
theorem d_M_present_308 : decode b_M_present 308 = .ok (.getfield 143, 3) := by decide +kernel
theorem d_M_present_311 : decode b_M_present 311 = .ok (.invokevirtual 887, 3) := by decide +kernel
theorem d_M_present_314 : decode b_M_present 314 = .ok (.aload_n 0, 1) := by decide +kernel
theorem d_M_present_315 : decode b_M_present 315 = .ok (.iload_n 1, 1) := by decide +kernel
theorem d_M_present_316 : decode b_M_present 316 = .ok (.iload 4, 2) := by decide +kernel
theorem d_M_present_318 : decode b_M_present 318 = .ok (.lload 5, 2) := by decide +kernel
theorem d_M_present_320 : decode b_M_present 320 = .ok (.iconst 0, 1) := by decide +kernel
theorem d_M_present_321 : decode b_M_present 321 = .ok (.invokevirtual 946, 3) := by decide +kernel
theorem d_M_present_324 : decode b_M_present 324 = .ok (.aload_n 0, 1) := by decide +kernel
theorem d_M_present_325 : decode b_M_present 325 = .ok (.aload_n 0, 1) := by decide +kernel
theorem d_M_present_326 : decode b_M_present 326 = .ok (.getfield 137, 3) := by decide +kernel
theorem d_M_present_329 : decode b_M_present 329 = .ok (.aload_n 0, 1) := by decide +kernel
theorem d_M_present_330 : decode b_M_present 330 = .ok (.getfield 200, 3) := by decide +kernel
theorem d_M_present_333 : decode b_M_present 333 = .ok (.iload 4, 2) := by decide +kernel
theorem d_M_present_335 : decode b_M_present 335 = .ok (.iaload, 1) := by decide +kernel
theorem d_M_present_336 : decode b_M_present 336 = .ok (.bipush 11, 2) := by decide +kernel
theorem d_M_present_338 : decode b_M_present 338 = .ok (.aload_n 0, 1) := by decide +kernel
theorem d_M_present_339 : decode b_M_present 339 = .ok (.getfield 553, 3) := by decide +kernel
theorem d_M_present_342 : decode b_M_present 342 = .ok (.ldc 9, 2) := by decide +kernel
theorem d_M_present_344 : decode b_M_present 344 = .ok (.invokevirtual 867, 3) := by decide +kernel
theorem d_M_present_347 : decode b_M_present 347 = .ok (.aload_n 0, 1) := by decide +kernel
theorem d_M_present_348 : decode b_M_present 348 = .ok (.iload 4, 2) := by decide +kernel
theorem d_M_present_350 : decode b_M_present 350 = .ok (.iload_n 3, 1) := by decide +kernel
theorem d_M_present_351 : decode b_M_present 351 = .ok (.iconst 1, 1) := by decide +kernel
theorem d_M_present_352 : decode b_M_present 352 = .ok (.iand, 1) := by decide +kernel
theorem d_M_present_353 : decode b_M_present 353 = .ok (.iconst 1, 1) := by decide +kernel
theorem d_M_present_354 : decode b_M_present 354 = .ok (.if_icmp .ne 10, 3) := by decide +kernel
theorem d_M_present_357 : decode b_M_present 357 = .ok (.iconst 2, 1) := by decide +kernel
theorem d_M_present_358 : decode b_M_present 358 = .ok (.invokestatic 701, 3) := by decide +kernel
theorem d_M_present_361 : decode b_M_present 361 = .ok (.goto 4, 3) := by decide +kernel
theorem d_M_present_364 : decode b_M_present 364 = .ok (.iconst 0, 1) := by decide +kernel
theorem d_M_present_365 : decode b_M_present 365 = .ok (.invokevirtual 950, 3) := by decide +kernel
theorem d_M_present_368 : decode b_M_present 368 = .ok (.aload_n 0, 1) := by decide +kernel
theorem d_M_present_369 : decode b_M_present 369 = .ok (.getfield 178, 3) := by decide +kernel
theorem d_M_present_372 : decode b_M_present 372 = .ok (.iload_n 1, 1) := by decide +kernel
theorem d_M_present_373 : decode b_M_present 373 = .ok (.dup2, 1) := by decide +kernel
theorem d_M_present_374 : decode b_M_present 374 = .ok (.iaload, 1) := by decide +kernel
theorem d_M_present_375 : decode b_M_present 375 = .ok (.iconst 1, 1) := by decide +kernel
theorem d_M_present_376 : decode b_M_present 376 = .ok (.iadd, 1) := by decide +kernel
theorem d_M_present_377 : decode b_M_present 377 = .ok (.iastore, 1) := by decide +kernel
theorem d_M_present_378 : decode b_M_present 378 = .ok (.aload_n 0, 1) := by decide +kernel
theorem d_M_present_379 : decode b_M_present 379 = .ok (.invokevirtual 905, 3) := by decide +kernel
theorem d_M_present_382 : decode b_M_present 382 = .ok (.aload_n 0, 1) := by decide +kernel
theorem d_M_present_383 : decode b_M_present 383 = .ok (.getfield 348, 3) := by decide +kernel
theorem d_M_present_386 : decode b_M_present 386 = .ok (.ireturn, 1) := by decide +kernel
abbrev b_M_serve : ByteArray := prog_14_method_143_code
def y_M_serve : MethodName := ⟨R_M, "serve", "(I)I"⟩
abbrev k_M_serve : Cond := .code y_M_serve b_M_serve 4 (some .int)
theorem ki_M_serve : k_M_serve ∈ lw_tg := in_t 2812 (by decide +kernel)
theorem ks_M_serve : Cond.instanceMethod y_M_serve ∈ lw_tg := in_t 2810 (by decide +kernel)
theorem kx_M_serve : Cond.selects R_M y_M_serve y_M_serve ∈ lw_tg := in_t 2811 (by decide +kernel)
theorem hd_M_serve : y_M_serve.cls = R_M ∧ y_M_serve.cls ≠ "java/lang/invoke/MethodHandle" ∧ y_M_serve.cls ≠ "java/lang/invoke/VarHandle" ∧ (parseMethodDescriptor y_M_serve.desc).map (fun d => d.parameters.length) = some 1 := by decide +kernel
theorem d_M_serve_0 : decode b_M_serve 0 = .ok (.aload_n 0, 1) := by decide +kernel
theorem d_M_serve_1 : decode b_M_serve 1 = .ok (.getfield 332, 3) := by decide +kernel
theorem d_M_serve_4 : decode b_M_serve 4 = .ok (.istore_n 2, 1) := by decide +kernel
theorem d_M_serve_5 : decode b_M_serve 5 = .ok (.aload_n 0, 1) := by decide +kernel
theorem d_M_serve_6 : decode b_M_serve 6 = .ok (.iconst 0, 1) := by decide +kernel
theorem d_M_serve_7 : decode b_M_serve 7 = .ok (.putfield 332, 3) := by decide +kernel
theorem d_M_serve_10 : decode b_M_serve 10 = .ok (.iload_n 1, 1) := by decide +kernel
theorem d_M_serve_11 : decode b_M_serve 11 = .ok (.ifCond .lt 11, 3) := by decide +kernel
theorem d_M_serve_14 : decode b_M_serve 14 = .ok (.iload_n 1, 1) := by decide +kernel
theorem d_M_serve_15 : decode b_M_serve 15 = .ok (.aload_n 0, 1) := by decide +kernel
theorem d_M_serve_16 : decode b_M_serve 16 = .ok (.getfield 630, 3) := by decide +kernel
theorem d_M_serve_19 : decode b_M_serve 19 = .ok (.if_icmp .lt 5, 3) := by decide +kernel
theorem d_M_serve_22 : decode b_M_serve 22 = .ok (.iconst (-1), 1) := by decide +kernel
theorem d_M_serve_23 : decode b_M_serve 23 = .ok (.ireturn, 1) := by decide +kernel
theorem d_M_serve_24 : decode b_M_serve 24 = .ok (.aload_n 0, 1) := by decide +kernel
theorem d_M_serve_25 : decode b_M_serve 25 = .ok (.iload_n 1, 1) := by decide +kernel
theorem d_M_serve_26 : decode b_M_serve 26 = .ok (.iload_n 2, 1) := by decide +kernel
theorem d_M_serve_27 : decode b_M_serve 27 = .ok (.invokevirtual 978, 3) := by decide +kernel
theorem d_M_serve_30 : decode b_M_serve 30 = .ok (.istore_n 3, 1) := by decide +kernel
theorem d_M_serve_31 : decode b_M_serve 31 = .ok (.iload_n 3, 1) := by decide +kernel
theorem d_M_serve_32 : decode b_M_serve 32 = .ok (.ifCond .lt 5, 3) := by decide +kernel
theorem d_M_serve_35 : decode b_M_serve 35 = .ok (.iload_n 3, 1) := by decide +kernel
theorem d_M_serve_36 : decode b_M_serve 36 = .ok (.ireturn, 1) := by decide +kernel
theorem d_M_serve_37 : decode b_M_serve 37 = .ok (.aload_n 0, 1) := by decide +kernel
theorem d_M_serve_38 : decode b_M_serve 38 = .ok (.invokevirtual 861, 3) := by decide +kernel
theorem d_M_serve_41 : decode b_M_serve 41 = .ok (.aload_n 0, 1) := by decide +kernel
theorem d_M_serve_42 : decode b_M_serve 42 = .ok (.bipush 10, 2) := by decide +kernel
theorem d_M_serve_44 : decode b_M_serve 44 = .ok (.iload_n 1, 1) := by decide +kernel
theorem d_M_serve_45 : decode b_M_serve 45 = .ok (.iconst 2, 1) := by decide +kernel
theorem d_M_serve_46 : decode b_M_serve 46 = .ok (.invokevirtual 908, 3) := by decide +kernel
theorem d_M_serve_49 : decode b_M_serve 49 = .ok (.aload_n 0, 1) := by decide +kernel
theorem d_M_serve_50 : decode b_M_serve 50 = .ok (.bipush 9, 2) := by decide +kernel
theorem d_M_serve_52 : decode b_M_serve 52 = .ok (.ldc_w 621, 3) := by decide +kernel
theorem d_M_serve_55 : decode b_M_serve 55 = .ok (.invokevirtual 878, 3) := by decide +kernel
theorem d_M_serve_58 : decode b_M_serve 58 = .ok (.aload_n 0, 1) := by decide +kernel
theorem d_M_serve_59 : decode b_M_serve 59 = .ok (.iload_n 3, 1) := by decide +kernel
theorem d_M_serve_60 : decode b_M_serve 60 = .ok (.ineg, 1) := by decide +kernel
theorem d_M_serve_61 : decode b_M_serve 61 = .ok (.invokevirtual 911, 3) := by decide +kernel
theorem d_M_serve_64 : decode b_M_serve 64 = .ok (.aload_n 0, 1) := by decide +kernel
theorem d_M_serve_65 : decode b_M_serve 65 = .ok (.invokevirtual 905, 3) := by decide +kernel
theorem d_M_serve_68 : decode b_M_serve 68 = .ok (.iload_n 3, 1) := by decide +kernel
theorem d_M_serve_69 : decode b_M_serve 69 = .ok (.ireturn, 1) := by decide +kernel
abbrev b_M_served : ByteArray := prog_14_method_144_code
def y_M_served : MethodName := ⟨R_M, "served", "(II)I"⟩
abbrev k_M_served : Cond := .code y_M_served b_M_served 8 (some .int)
theorem ki_M_served : k_M_served ∈ lw_tg := List.mem_filter.mpr ⟨List.mem_append_right _ (List.mem_append_right _ (List.mem_append_right _ (List.mem_append_right _ (List.mem_append_right _ (List.mem_append_right _ (List.mem_append_right _ (List.mem_append_right _ (List.mem_append_right _ (List.mem_append_right _ (List.mem_append_right _ (List.mem_append_right _ (List.mem_append_left _ (List.mem_of_getElem? (i := 176) rfl))))))))))))), rfl⟩
theorem ks_M_served : Cond.instanceMethod y_M_served ∈ lw_tg := in_t 2815 (by decide +kernel)
theorem kx_M_served : Cond.selects R_M y_M_served y_M_served ∈ lw_tg := List.mem_filter.mpr ⟨List.mem_append_left _ (List.mem_of_getElem? (i := 183) (by decide +kernel)), rfl⟩
theorem kl_M_served : Cond.methodLink R_M 978 y_M_served ∈ lw_tg := in_t 2813 (by decide +kernel)
theorem hd_M_served : y_M_served.cls = R_M ∧ y_M_served.cls ≠ "java/lang/invoke/MethodHandle" ∧ y_M_served.cls ≠ "java/lang/invoke/VarHandle" ∧ (parseMethodDescriptor y_M_served.desc).map (fun d => d.parameters.length) = some 2 := by decide +kernel
theorem d_M_served_0 : decode b_M_served 0 = .ok (.aload_n 0, 1) := by decide +kernel
theorem d_M_served_1 : decode b_M_served 1 = .ok (.bipush 14, 2) := by decide +kernel
theorem d_M_served_3 : decode b_M_served 3 = .ok (.ldc_w 797, 3) := by decide +kernel
theorem d_M_served_6 : decode b_M_served 6 = .ok (.iconst 0, 1) := by decide +kernel
theorem d_M_served_7 : decode b_M_served 7 = .ok (.iload_n 2, 1) := by decide +kernel
theorem d_M_served_8 : decode b_M_served 8 = .ok (.iconst 2, 1) := by decide +kernel
theorem d_M_served_9 : decode b_M_served 9 = .ok (.invokevirtual 522, 3) := by decide +kernel
theorem d_M_served_12 : decode b_M_served 12 = .ok (.ifCond .ne 6, 3) := by decide +kernel
theorem d_M_served_15 : decode b_M_served 15 = .ok (.bipush (-60), 2) := by decide +kernel
theorem d_M_served_17 : decode b_M_served 17 = .ok (.ireturn, 1) := by decide +kernel
theorem d_M_served_18 : decode b_M_served 18 = .ok (.aload_n 0, 1) := by decide +kernel
theorem d_M_served_19 : decode b_M_served 19 = .ok (.iconst 2, 1) := by decide +kernel
theorem d_M_served_20 : decode b_M_served 20 = .ok (.iconst 0, 1) := by decide +kernel
theorem d_M_served_21 : decode b_M_served 21 = .ok (.invokevirtual 665, 3) := by decide +kernel
theorem d_M_served_24 : decode b_M_served 24 = .ok (.ldc2_w 669, 3) := by decide +kernel
theorem d_M_served_27 : decode b_M_served 27 = .ok (.lcmp, 1) := by decide +kernel
theorem d_M_served_28 : decode b_M_served 28 = .ok (.ifCond .eq 6, 3) := by decide +kernel
theorem d_M_served_31 : decode b_M_served 31 = .ok (.bipush (-3), 2) := by decide +kernel
theorem d_M_served_33 : decode b_M_served 33 = .ok (.ireturn, 1) := by decide +kernel
theorem d_M_served_34 : decode b_M_served 34 = .ok (.aload_n 0, 1) := by decide +kernel
theorem d_M_served_35 : decode b_M_served 35 = .ok (.iconst 2, 1) := by decide +kernel
theorem d_M_served_36 : decode b_M_served 36 = .ok (.iconst 1, 1) := by decide +kernel
theorem d_M_served_37 : decode b_M_served 37 = .ok (.invokevirtual 665, 3) := by decide +kernel
theorem d_M_served_40 : decode b_M_served 40 = .ok (.ldc2_w 799, 3) := by decide +kernel
theorem d_M_served_43 : decode b_M_served 43 = .ok (.lcmp, 1) := by decide +kernel
theorem d_M_served_44 : decode b_M_served 44 = .ok (.ifCond .eq 6, 3) := by decide +kernel
theorem d_M_served_47 : decode b_M_served 47 = .ok (.bipush (-40), 2) := by decide +kernel
theorem d_M_served_49 : decode b_M_served 49 = .ok (.ireturn, 1) := by decide +kernel
theorem d_M_served_50 : decode b_M_served 50 = .ok (.aload_n 0, 1) := by decide +kernel
theorem d_M_served_51 : decode b_M_served 51 = .ok (.iconst 2, 1) := by decide +kernel
theorem d_M_served_52 : decode b_M_served 52 = .ok (.iconst 2, 1) := by decide +kernel
theorem d_M_served_53 : decode b_M_served 53 = .ok (.invokevirtual 704, 3) := by decide +kernel
theorem d_M_served_56 : decode b_M_served 56 = .ok (.iconst 2, 1) := by decide +kernel
theorem d_M_served_57 : decode b_M_served 57 = .ok (.invokestatic 701, 3) := by decide +kernel
theorem d_M_served_60 : decode b_M_served 60 = .ok (.iconst (-1), 1) := by decide +kernel
theorem d_M_served_61 : decode b_M_served 61 = .ok (.ixor, 1) := by decide +kernel
theorem d_M_served_62 : decode b_M_served 62 = .ok (.iand, 1) := by decide +kernel
theorem d_M_served_63 : decode b_M_served 63 = .ok (.ifCond .ne 12, 3) := by decide +kernel
theorem d_M_served_66 : decode b_M_served 66 = .ok (.aload_n 0, 1) := by decide +kernel
theorem d_M_served_67 : decode b_M_served 67 = .ok (.iconst 2, 1) := by decide +kernel
theorem d_M_served_68 : decode b_M_served 68 = .ok (.iconst 2, 1) := by decide +kernel
theorem d_M_served_69 : decode b_M_served 69 = .ok (.invokevirtual 707, 3) := by decide +kernel
theorem d_M_served_72 : decode b_M_served 72 = .ok (.ifCond .eq 6, 3) := by decide +kernel
theorem d_M_served_75 : decode b_M_served 75 = .ok (.bipush (-13), 2) := by decide +kernel
theorem d_M_served_77 : decode b_M_served 77 = .ok (.ireturn, 1) := by decide +kernel
theorem d_M_served_78 : decode b_M_served 78 = .ok (.aload_n 0, 1) := by decide +kernel
theorem d_M_served_79 : decode b_M_served 79 = .ok (.aload_n 0, 1) := by decide +kernel
theorem d_M_served_80 : decode b_M_served 80 = .ok (.iconst 2, 1) := by decide +kernel
theorem d_M_served_81 : decode b_M_served 81 = .ok (.iconst 2, 1) := by decide +kernel
theorem d_M_served_82 : decode b_M_served 82 = .ok (.invokevirtual 704, 3) := by decide +kernel
theorem d_M_served_85 : decode b_M_served 85 = .ok (.iconst 2, 1) := by decide +kernel
theorem d_M_served_86 : decode b_M_served 86 = .ok (.invokevirtual 820, 3) := by decide +kernel
theorem d_M_served_89 : decode b_M_served 89 = .ok (.istore_n 3, 1) := by decide +kernel
theorem d_M_served_90 : decode b_M_served 90 = .ok (.aload_n 0, 1) := by decide +kernel
theorem d_M_served_91 : decode b_M_served 91 = .ok (.aload_n 0, 1) := by decide +kernel
theorem d_M_served_92 : decode b_M_served 92 = .ok (.iconst 2, 1) := by decide +kernel
theorem d_M_served_93 : decode b_M_served 93 = .ok (.iconst 3, 1) := by decide +kernel
theorem d_M_served_94 : decode b_M_served 94 = .ok (.invokevirtual 536, 3) := by decide +kernel
theorem d_M_served_97 : decode b_M_served 97 = .ok (.aload_n 0, 1) := by decide +kernel
theorem d_M_served_98 : decode b_M_served 98 = .ok (.iconst 2, 1) := by decide +kernel
theorem d_M_served_99 : decode b_M_served 99 = .ok (.iconst 3, 1) := by decide +kernel
theorem d_M_served_100 : decode b_M_served 100 = .ok (.invokevirtual 539, 3) := by decide +kernel
theorem d_M_served_103 : decode b_M_served 103 = .ok (.bipush 97, 2) := by decide +kernel
theorem d_M_served_105 : decode b_M_served 105 = .ok (.invokevirtual 480, 3) := by decide +kernel
theorem d_M_served_108 : decode b_M_served 108 = .ok (.pop, 1) := by decide +kernel
theorem d_M_served_109 : decode b_M_served 109 = .ok (.aload_n 0, 1) := by decide +kernel
theorem d_M_served_110 : decode b_M_served 110 = .ok (.ldc_w 520, 3) := by decide +kernel
theorem d_M_served_113 : decode b_M_served 113 = .ok (.aload_n 0, 1) := by decide +kernel
theorem d_M_served_114 : decode b_M_served 114 = .ok (.getfield 470, 3) := by decide +kernel
theorem d_M_served_117 : decode b_M_served 117 = .ok (.aload_n 0, 1) := by decide +kernel
theorem d_M_served_118 : decode b_M_served 118 = .ok (.iconst 2, 1) := by decide +kernel
theorem d_M_served_119 : decode b_M_served 119 = .ok (.iconst 3, 1) := by decide +kernel
theorem d_M_served_120 : decode b_M_served 120 = .ok (.invokevirtual 539, 3) := by decide +kernel
theorem d_M_served_123 : decode b_M_served 123 = .ok (.iconst 3, 1) := by decide +kernel
theorem d_M_served_124 : decode b_M_served 124 = .ok (.invokevirtual 487, 3) := by decide +kernel
theorem d_M_served_127 : decode b_M_served 127 = .ok (.pop, 1) := by decide +kernel
theorem d_M_served_128 : decode b_M_served 128 = .ok (.aload_n 0, 1) := by decide +kernel
theorem d_M_served_129 : decode b_M_served 129 = .ok (.iload_n 1, 1) := by decide +kernel
theorem d_M_served_130 : decode b_M_served 130 = .ok (.iconst 0, 1) := by decide +kernel
theorem d_M_served_131 : decode b_M_served 131 = .ok (.invokevirtual 801, 3) := by decide +kernel
theorem d_M_served_134 : decode b_M_served 134 = .ok (.istore 4, 2) := by decide +kernel
theorem d_M_served_136 : decode b_M_served 136 = .ok (.iload 4, 2) := by decide +kernel
theorem d_M_served_138 : decode b_M_served 138 = .ok (.ifCond .ne 11, 3) := by decide +kernel
theorem d_M_served_141 : decode b_M_served 141 = .ok (.aload_n 0, 1) := by decide +kernel
theorem d_M_served_142 : decode b_M_served 142 = .ok (.bipush 11, 2) := by decide +kernel
theorem d_M_served_144 : decode b_M_served 144 = .ok (.invokevirtual 804, 3) := by decide +kernel
theorem d_M_served_147 : decode b_M_served 147 = .ok (.istore 4, 2) := by decide +kernel
theorem d_M_served_149 : decode b_M_served 149 = .ok (.iload 4, 2) := by decide +kernel
theorem d_M_served_151 : decode b_M_served 151 = .ok (.ifCond .ne 10, 3) := by decide +kernel
theorem d_M_served_154 : decode b_M_served 154 = .ok (.aload_n 0, 1) := by decide +kernel
theorem d_M_served_155 : decode b_M_served 155 = .ok (.iload_n 1, 1) := by decide +kernel
theorem d_M_served_156 : decode b_M_served 156 = .ok (.invokevirtual 807, 3) := by decide +kernel
theorem d_M_served_159 : decode b_M_served 159 = .ok (.istore 4, 2) := by decide +kernel
theorem d_M_served_161 : decode b_M_served 161 = .ok (.iload 4, 2) := by decide +kernel
theorem d_M_served_163 : decode b_M_served 163 = .ok (.ifCond .eq 7, 3) := by decide +kernel
theorem d_M_served_166 : decode b_M_served 166 = .ok (.iload 4, 2) := by decide +kernel
theorem d_M_served_168 : decode b_M_served 168 = .ok (.ineg, 1) := by decide +kernel
theorem d_M_served_169 : decode b_M_served 169 = .ok (.ireturn, 1) := by decide +kernel
theorem d_M_served_170 : decode b_M_served 170 = .ok (.aload_n 0, 1) := by decide +kernel
theorem d_M_served_171 : decode b_M_served 171 = .ok (.iconst 4, 1) := by decide +kernel
theorem d_M_served_172 : decode b_M_served 172 = .ok (.bipush 6, 2) := by decide +kernel
theorem d_M_served_174 : decode b_M_served 174 = .ok (.iconst 5, 1) := by decide +kernel
theorem d_M_served_175 : decode b_M_served 175 = .ok (.invokevirtual 816, 3) := by decide +kernel
theorem d_M_served_178 : decode b_M_served 178 = .ok (.aload_n 0, 1) := by decide +kernel
theorem d_M_served_179 : decode b_M_served 179 = .ok (.getfield 18, 3) := by decide +kernel
theorem d_M_served_182 : decode b_M_served 182 = .ok (.i2l, 1) := by decide +kernel
theorem d_M_served_183 : decode b_M_served 183 = .ok (.ldc2_w 646, 3) := by decide +kernel
theorem d_M_served_186 : decode b_M_served 186 = .ok (.ladd, 1) := by decide +kernel
theorem d_M_served_187 : decode b_M_served 187 = .ok (.lcmp, 1) := by decide +kernel
theorem d_M_served_188 : decode b_M_served 188 = .ok (.ifCond .le 6, 3) := by decide +kernel
theorem d_M_served_191 : decode b_M_served 191 = .ok (.bipush (-33), 2) := by decide +kernel
theorem d_M_served_193 : decode b_M_served 193 = .ok (.ireturn, 1) := by decide +kernel
theorem d_M_served_194 : decode b_M_served 194 = .ok (.aload_n 0, 1) := by decide +kernel
theorem d_M_served_195 : decode b_M_served 195 = .ok (.iconst 4, 1) := by decide +kernel
theorem d_M_served_196 : decode b_M_served 196 = .ok (.bipush 7, 2) := by decide +kernel
theorem d_M_served_198 : decode b_M_served 198 = .ok (.invokevirtual 731, 3) := by decide +kernel
theorem d_M_served_201 : decode b_M_served 201 = .ok (.aload_n 0, 1) := by decide +kernel
theorem d_M_served_202 : decode b_M_served 202 = .ok (.getfield 18, 3) := by decide +kernel
theorem d_M_served_205 : decode b_M_served 205 = .ok (.i2l, 1) := by decide +kernel
theorem d_M_served_206 : decode b_M_served 206 = .ok (.lcmp, 1) := by decide +kernel
theorem d_M_served_207 : decode b_M_served 207 = .ok (.ifCond .gt 6, 3) := by decide +kernel
theorem d_M_served_210 : decode b_M_served 210 = .ok (.bipush (-32), 2) := by decide +kernel
theorem d_M_served_212 : decode b_M_served 212 = .ok (.ireturn, 1) := by decide +kernel
theorem d_M_served_213 : decode b_M_served 213 = .ok (.aload_n 0, 1) := by decide +kernel
theorem d_M_served_214 : decode b_M_served 214 = .ok (.aload_n 0, 1) := by decide +kernel
theorem d_M_served_215 : decode b_M_served 215 = .ok (.iconst 5, 1) := by decide +kernel
theorem d_M_served_216 : decode b_M_served 216 = .ok (.bipush 6, 2) := by decide +kernel
theorem d_M_served_218 : decode b_M_served 218 = .ok (.invokevirtual 675, 3) := by decide +kernel
theorem d_M_served_221 : decode b_M_served 221 = .ok (.ifCond .eq 17, 3) := by decide +kernel
theorem d_M_served_224 : decode b_M_served 224 = .ok (.aload_n 0, 1) := by decide +kernel
theorem d_M_served_225 : decode b_M_served 225 = .ok (.iconst 5, 1) := by decide +kernel
theorem d_M_served_226 : decode b_M_served 226 = .ok (.bipush 6, 2) := by decide +kernel
theorem d_M_served_228 : decode b_M_served 228 = .ok (.aload_n 0, 1) := by decide +kernel
theorem d_M_served_229 : decode b_M_served 229 = .ok (.getfield 140, 3) := by decide +kernel
theorem d_M_served_232 : decode b_M_served 232 = .ok (.invokevirtual 781, 3) := by decide +kernel
theorem d_M_served_235 : decode b_M_served 235 = .ok (.goto 4, 3) := by decide +kernel
theorem d_M_served_238 : decode b_M_served 238 = .ok (.iconst (-1), 1) := by decide +kernel
theorem d_M_served_239 : decode b_M_served 239 = .ok (.putfield 893, 3) := by decide +kernel
theorem d_M_served_242 : decode b_M_served 242 = .ok (.aload_n 0, 1) := by decide +kernel
theorem d_M_served_243 : decode b_M_served 243 = .ok (.getfield 893, 3) := by decide +kernel
theorem d_M_served_246 : decode b_M_served 246 = .ok (.ifCond .ne 6, 3) := by decide +kernel
theorem d_M_served_249 : decode b_M_served 249 = .ok (.bipush (-14), 2) := by decide +kernel
theorem d_M_served_251 : decode b_M_served 251 = .ok (.ireturn, 1) := by decide +kernel
theorem d_M_served_252 : decode b_M_served 252 = .ok (.aload_n 0, 1) := by decide +kernel
theorem d_M_served_253 : decode b_M_served 253 = .ok (.iload_n 1, 1) := by decide +kernel
theorem d_M_served_254 : decode b_M_served 254 = .ok (.bipush 32, 2) := by decide +kernel
theorem d_M_served_256 : decode b_M_served 256 = .ok (.invokevirtual 716, 3) := by decide +kernel
theorem d_M_served_259 : decode b_M_served 259 = .ok (.ifCond .eq 6, 3) := by decide +kernel
theorem d_M_served_262 : decode b_M_served 262 = .ok (.bipush (-18), 2) := by decide +kernel
theorem d_M_served_264 : decode b_M_served 264 = .ok (.ireturn, 1) := by decide +kernel
theorem d_M_served_265 : decode b_M_served 265 = .ok (.iconst 0, 1) := by decide +kernel
theorem d_M_served_266 : decode b_M_served 266 = .ok (.istore 5, 2) := by decide +kernel
theorem d_M_served_268 : decode b_M_served 268 = .ok (.iload 5, 2) := by decide +kernel
theorem d_M_served_270 : decode b_M_served 270 = .ok (.bipush 8, 2) := by decide +kernel
theorem d_M_served_272 : decode b_M_served 272 = .ok (.if_icmp .ge 19, 3) := by decide +kernel
theorem d_M_served_275 : decode b_M_served 275 = .ok (.aload_n 0, 1) := by decide +kernel
theorem d_M_served_276 : decode b_M_served 276 = .ok (.getfield 290, 3) := by decide +kernel
theorem d_M_served_279 : decode b_M_served 279 = .ok (.iload 5, 2) := by decide +kernel
theorem d_M_served_281 : decode b_M_served 281 = .ok (.baload, 1) := by decide +kernel
theorem d_M_served_282 : decode b_M_served 282 = .ok (.ifCond .eq 9, 3) := by decide +kernel
theorem d_M_served_285 : decode b_M_served 285 = .ok (.iinc 5 1, 3) := by decide +kernel
theorem d_M_served_288 : decode b_M_served 288 = .ok (.goto (-20), 3) := by decide +kernel
theorem d_M_served_291 : decode b_M_served 291 = .ok (.iload 5, 2) := by decide +kernel
theorem d_M_served_293 : decode b_M_served 293 = .ok (.bipush 8, 2) := by decide +kernel
theorem d_M_served_295 : decode b_M_served 295 = .ok (.if_icmp .ne 6, 3) := by decide +kernel
theorem d_M_served_298 : decode b_M_served 298 = .ok (.bipush (-29), 2) := by decide +kernel
theorem d_M_served_300 : decode b_M_served 300 = .ok (.ireturn, 1) := by decide +kernel
theorem d_M_served_301 : decode b_M_served 301 = .ok (.aload_n 0, 1) := by decide +kernel
theorem d_M_served_302 : decode b_M_served 302 = .ok (.getfield 290, 3) := by decide +kernel
theorem d_M_served_305 : decode b_M_served 305 = .ok (.iload 5, 2) := by decide +kernel
theorem d_M_served_307 : decode b_M_served 307 = .ok (.iconst 1, 1) := by decide +kernel
theorem d_M_served_308 : decode b_M_served 308 = .ok (.bastore, 1) := by decide +kernel
theorem d_M_served_309 : decode b_M_served 309 = .ok (.aload_n 0, 1) := by decide +kernel
theorem d_M_served_310 : decode b_M_served 310 = .ok (.getfield 296, 3) := by decide +kernel
theorem d_M_served_313 : decode b_M_served 313 = .ok (.iload 5, 2) := by decide +kernel
theorem d_M_served_315 : decode b_M_served 315 = .ok (.iconst (-1), 1) := by decide +kernel
theorem d_M_served_316 : decode b_M_served 316 = .ok (.iastore, 1) := by decide +kernel
theorem d_M_served_317 : decode b_M_served 317 = .ok (.aload_n 0, 1) := by decide +kernel
theorem d_M_served_318 : decode b_M_served 318 = .ok (.getfield 293, 3) := by decide +kernel
theorem d_M_served_321 : decode b_M_served 321 = .ok (.iload 5, 2) := by decide +kernel
theorem d_M_served_323 : decode b_M_served 323 = .ok (.aload_n 0, 1) := by decide +kernel
theorem d_M_served_324 : decode b_M_served 324 = .ok (.getfield 893, 3) := by decide +kernel
theorem d_M_served_327 : decode b_M_served 327 = .ok (.ifCond .le 10, 3) := by decide +kernel
theorem d_M_served_330 : decode b_M_served 330 = .ok (.aload_n 0, 1) := by decide +kernel
theorem d_M_served_331 : decode b_M_served 331 = .ok (.getfield 893, 3) := by decide +kernel
theorem d_M_served_334 : decode b_M_served 334 = .ok (.goto 7, 3) := by decide +kernel
theorem d_M_served_337 : decode b_M_served 337 = .ok (.aload_n 0, 1) := by decide +kernel
theorem d_M_served_338 : decode b_M_served 338 = .ok (.getfield 785, 3) := by decide +kernel
theorem d_M_served_341 : decode b_M_served 341 = .ok (.iastore, 1) := by decide +kernel
theorem d_M_served_342 : decode b_M_served 342 = .ok (.iconst 0, 1) := by decide +kernel
theorem d_M_served_343 : decode b_M_served 343 = .ok (.istore 6, 2) := by decide +kernel
theorem d_M_served_345 : decode b_M_served 345 = .ok (.iload 6, 2) := by decide +kernel
theorem d_M_served_347 : decode b_M_served 347 = .ok (.bipush 32, 2) := by decide +kernel
theorem d_M_served_349 : decode b_M_served 349 = .ok (.if_icmp .ge 66, 3) := by decide +kernel
theorem d_M_served_352 : decode b_M_served 352 = .ok (.aload_n 0, 1) := by decide +kernel
theorem d_M_served_353 : decode b_M_served 353 = .ok (.getfield 299, 3) := by decide +kernel
theorem d_M_served_356 : decode b_M_served 356 = .ok (.bipush 32, 2) := by decide +kernel
theorem d_M_served_358 : decode b_M_served 358 = .ok (.iload 5, 2) := by decide +kernel
theorem d_M_served_360 : decode b_M_served 360 = .ok (.imul, 1) := by decide +kernel
theorem d_M_served_361 : decode b_M_served 361 = .ok (.iload 6, 2) := by decide +kernel
theorem d_M_served_363 : decode b_M_served 363 = .ok (.iadd, 1) := by decide +kernel
theorem d_M_served_364 : decode b_M_served 364 = .ok (.aload_n 0, 1) := by decide +kernel
theorem d_M_served_365 : decode b_M_served 365 = .ok (.getfield 893, 3) := by decide +kernel
theorem d_M_served_368 : decode b_M_served 368 = .ok (.ifCond .le 13, 3) := by decide +kernel
theorem d_M_served_371 : decode b_M_served 371 = .ok (.aload_n 0, 1) := by decide +kernel
theorem d_M_served_372 : decode b_M_served 372 = .ok (.getfield 140, 3) := by decide +kernel
theorem d_M_served_375 : decode b_M_served 375 = .ok (.iload 6, 2) := by decide +kernel
theorem d_M_served_377 : decode b_M_served 377 = .ok (.baload, 1) := by decide +kernel
theorem d_M_served_378 : decode b_M_served 378 = .ok (.goto 10, 3) := by decide +kernel
theorem d_M_served_381 : decode b_M_served 381 = .ok (.aload_n 0, 1) := by decide +kernel
theorem d_M_served_382 : decode b_M_served 382 = .ok (.getfield 137, 3) := by decide +kernel
theorem d_M_served_385 : decode b_M_served 385 = .ok (.iload 6, 2) := by decide +kernel
theorem d_M_served_387 : decode b_M_served 387 = .ok (.baload, 1) := by decide +kernel
theorem d_M_served_388 : decode b_M_served 388 = .ok (.bastore, 1) := by decide +kernel
theorem d_M_served_389 : decode b_M_served 389 = .ok (.aload_n 0, 1) := by decide +kernel
theorem d_M_served_390 : decode b_M_served 390 = .ok (.getfield 320, 3) := by decide +kernel
theorem d_M_served_393 : decode b_M_served 393 = .ok (.bipush 32, 2) := by decide +kernel
theorem d_M_served_395 : decode b_M_served 395 = .ok (.iload 5, 2) := by decide +kernel
theorem d_M_served_397 : decode b_M_served 397 = .ok (.imul, 1) := by decide +kernel
theorem d_M_served_398 : decode b_M_served 398 = .ok (.iload 6, 2) := by decide +kernel
theorem d_M_served_400 : decode b_M_served 400 = .ok (.iadd, 1) := by decide +kernel
theorem d_M_served_401 : decode b_M_served 401 = .ok (.aload_n 0, 1) := by decide +kernel
theorem d_M_served_402 : decode b_M_served 402 = .ok (.getfield 137, 3) := by decide +kernel
theorem d_M_served_405 : decode b_M_served 405 = .ok (.iload 6, 2) := by decide +kernel
theorem d_M_served_407 : decode b_M_served 407 = .ok (.baload, 1) := by decide +kernel
theorem d_M_served_408 : decode b_M_served 408 = .ok (.bastore, 1) := by decide +kernel
theorem d_M_served_409 : decode b_M_served 409 = .ok (.iinc 6 1, 3) := by decide +kernel
theorem d_M_served_412 : decode b_M_served 412 = .ok (.goto (-67), 3) := by decide +kernel
theorem d_M_served_415 : decode b_M_served 415 = .ok (.aload_n 0, 1) := by decide +kernel
theorem d_M_served_416 : decode b_M_served 416 = .ok (.getfield 317, 3) := by decide +kernel
theorem d_M_served_419 : decode b_M_served 419 = .ok (.iload 5, 2) := by decide +kernel
theorem d_M_served_421 : decode b_M_served 421 = .ok (.aload_n 0, 1) := by decide +kernel
theorem d_M_served_422 : decode b_M_served 422 = .ok (.getfield 785, 3) := by decide +kernel
theorem d_M_served_425 : decode b_M_served 425 = .ok (.iastore, 1) := by decide +kernel
theorem d_M_served_426 : decode b_M_served 426 = .ok (.aload_n 0, 1) := by decide +kernel
theorem d_M_served_427 : decode b_M_served 427 = .ok (.getfield 308, 3) := by decide +kernel
theorem d_M_served_430 : decode b_M_served 430 = .ok (.iload 5, 2) := by decide +kernel
theorem d_M_served_432 : decode b_M_served 432 = .ok (.aload_n 0, 1) := by decide +kernel
theorem d_M_served_433 : decode b_M_served 433 = .ok (.iconst 5, 1) := by decide +kernel
theorem d_M_served_434 : decode b_M_served 434 = .ok (.iconst 5, 1) := by decide +kernel
theorem d_M_served_435 : decode b_M_served 435 = .ok (.invokevirtual 731, 3) := by decide +kernel
theorem d_M_served_438 : decode b_M_served 438 = .ok (.lastore, 1) := by decide +kernel
theorem d_M_served_439 : decode b_M_served 439 = .ok (.aload_n 0, 1) := by decide +kernel
theorem d_M_served_440 : decode b_M_served 440 = .ok (.getfield 314, 3) := by decide +kernel
theorem d_M_served_443 : decode b_M_served 443 = .ok (.iload 5, 2) := by decide +kernel
theorem d_M_served_445 : decode b_M_served 445 = .ok (.aload_n 0, 1) := by decide +kernel
theorem d_M_served_446 : decode b_M_served 446 = .ok (.iconst 5, 1) := by decide +kernel
theorem d_M_served_447 : decode b_M_served 447 = .ok (.iconst 4, 1) := by decide +kernel
theorem d_M_served_448 : decode b_M_served 448 = .ok (.invokevirtual 665, 3) := by decide +kernel
theorem d_M_served_451 : decode b_M_served 451 = .ok (.l2i, 1) := by decide +kernel
theorem d_M_served_452 : decode b_M_served 452 = .ok (.iastore, 1) := by decide +kernel
theorem d_M_served_453 : decode b_M_served 453 = .ok (.aload_n 0, 1) := by decide +kernel
theorem d_M_served_454 : decode b_M_served 454 = .ok (.getfield 311, 3) := by decide +kernel
theorem d_M_served_457 : decode b_M_served 457 = .ok (.iload 5, 2) := by decide +kernel
theorem d_M_served_459 : decode b_M_served 459 = .ok (.aload_n 0, 1) := by decide +kernel
theorem d_M_served_460 : decode b_M_served 460 = .ok (.iconst 5, 1) := by decide +kernel
theorem d_M_served_461 : decode b_M_served 461 = .ok (.bipush 7, 2) := by decide +kernel
theorem d_M_served_463 : decode b_M_served 463 = .ok (.invokevirtual 675, 3) := by decide +kernel
theorem d_M_served_466 : decode b_M_served 466 = .ok (.ifCond .eq 13, 3) := by decide +kernel
theorem d_M_served_469 : decode b_M_served 469 = .ok (.aload_n 0, 1) := by decide +kernel
theorem d_M_served_470 : decode b_M_served 470 = .ok (.iconst 5, 1) := by decide +kernel
theorem d_M_served_471 : decode b_M_served 471 = .ok (.bipush 7, 2) := by decide +kernel
theorem d_M_served_473 : decode b_M_served 473 = .ok (.invokevirtual 665, 3) := by decide +kernel
theorem d_M_served_476 : decode b_M_served 476 = .ok (.goto 4, 3) := by decide +kernel
theorem d_M_served_479 : decode b_M_served 479 = .ok (.lconst 0, 1) := by decide +kernel
theorem d_M_served_480 : decode b_M_served 480 = .ok (.lastore, 1) := by decide +kernel
theorem d_M_served_481 : decode b_M_served 481 = .ok (.aload_n 0, 1) := by decide +kernel
theorem d_M_served_482 : decode b_M_served 482 = .ok (.getfield 305, 3) := by decide +kernel
theorem d_M_served_485 : decode b_M_served 485 = .ok (.iconst 2, 1) := by decide +kernel
theorem d_M_served_486 : decode b_M_served 486 = .ok (.iload 5, 2) := by decide +kernel
theorem d_M_served_488 : decode b_M_served 488 = .ok (.imul, 1) := by decide +kernel
theorem d_M_served_489 : decode b_M_served 489 = .ok (.iconst 1, 1) := by decide +kernel
theorem d_M_served_490 : decode b_M_served 490 = .ok (.iadd, 1) := by decide +kernel
theorem d_M_served_491 : decode b_M_served 491 = .ok (.aload_n 0, 1) := by decide +kernel
theorem d_M_served_492 : decode b_M_served 492 = .ok (.getfield 311, 3) := by decide +kernel
theorem d_M_served_495 : decode b_M_served 495 = .ok (.iload 5, 2) := by decide +kernel
theorem d_M_served_497 : decode b_M_served 497 = .ok (.laload, 1) := by decide +kernel
theorem d_M_served_498 : decode b_M_served 498 = .ok (.lastore, 1) := by decide +kernel
theorem d_M_served_499 : decode b_M_served 499 = .ok (.aload_n 0, 1) := by decide +kernel
theorem d_M_served_500 : decode b_M_served 500 = .ok (.getfield 302, 3) := by decide +kernel
theorem d_M_served_503 : decode b_M_served 503 = .ok (.iconst 2, 1) := by decide +kernel
theorem d_M_served_504 : decode b_M_served 504 = .ok (.iload 5, 2) := by decide +kernel
theorem d_M_served_506 : decode b_M_served 506 = .ok (.imul, 1) := by decide +kernel
theorem d_M_served_507 : decode b_M_served 507 = .ok (.iconst 1, 1) := by decide +kernel
theorem d_M_served_508 : decode b_M_served 508 = .ok (.iadd, 1) := by decide +kernel
theorem d_M_served_509 : decode b_M_served 509 = .ok (.lconst 0, 1) := by decide +kernel
theorem d_M_served_510 : decode b_M_served 510 = .ok (.lastore, 1) := by decide +kernel
theorem d_M_served_511 : decode b_M_served 511 = .ok (.aload_n 0, 1) := by decide +kernel
theorem d_M_served_512 : decode b_M_served 512 = .ok (.iconst 0, 1) := by decide +kernel
theorem d_M_served_513 : decode b_M_served 513 = .ok (.putfield 348, 3) := by decide +kernel
theorem d_M_served_516 : decode b_M_served 516 = .ok (.iload_n 3, 1) := by decide +kernel
theorem d_M_served_517 : decode b_M_served 517 = .ok (.ifCond .ne 6, 3) := by decide +kernel
theorem d_M_served_520 : decode b_M_served 520 = .ok (.iload 5, 2) := by decide +kernel
theorem d_M_served_522 : decode b_M_served 522 = .ok (.ireturn, 1) := by decide +kernel
theorem d_M_served_523 : decode b_M_served 523 = .ok (.lconst 0, 1) := by decide +kernel
theorem d_M_served_524 : decode b_M_served 524 = .ok (.lstore 6, 2) := by decide +kernel
theorem d_M_served_526 : decode b_M_served 526 = .ok (.aload_n 0, 1) := by decide +kernel
theorem d_M_served_527 : decode b_M_served 527 = .ok (.iconst 5, 1) := by decide +kernel
theorem d_M_served_528 : decode b_M_served 528 = .ok (.bipush 7, 2) := by decide +kernel
theorem d_M_served_530 : decode b_M_served 530 = .ok (.invokevirtual 675, 3) := by decide +kernel
theorem d_M_served_533 : decode b_M_served 533 = .ok (.ifCond .eq 27, 3) := by decide +kernel
theorem d_M_served_536 : decode b_M_served 536 = .ok (.aload_n 0, 1) := by decide +kernel
theorem d_M_served_537 : decode b_M_served 537 = .ok (.invokevirtual 930, 3) := by decide +kernel
theorem d_M_served_540 : decode b_M_served 540 = .ok (.ldc_w 974, 3) := by decide +kernel
theorem d_M_served_543 : decode b_M_served 543 = .ok (.iand, 1) := by decide +kernel
theorem d_M_served_544 : decode b_M_served 544 = .ok (.i2l, 1) := by decide +kernel
theorem d_M_served_545 : decode b_M_served 545 = .ok (.lstore 6, 2) := by decide +kernel
theorem d_M_served_547 : decode b_M_served 547 = .ok (.aload_n 0, 1) := by decide +kernel
theorem d_M_served_548 : decode b_M_served 548 = .ok (.getfield 302, 3) := by decide +kernel
theorem d_M_served_551 : decode b_M_served 551 = .ok (.iconst 2, 1) := by decide +kernel
theorem d_M_served_552 : decode b_M_served 552 = .ok (.iload 5, 2) := by decide +kernel
theorem d_M_served_554 : decode b_M_served 554 = .ok (.imul, 1) := by decide +kernel
theorem d_M_served_555 : decode b_M_served 555 = .ok (.iconst 1, 1) := by decide +kernel
theorem d_M_served_556 : decode b_M_served 556 = .ok (.iadd, 1) := by decide +kernel
theorem d_M_served_557 : decode b_M_served 557 = .ok (.lload 6, 2) := by decide +kernel
theorem d_M_served_559 : decode b_M_served 559 = .ok (.lastore, 1) := by decide +kernel
theorem d_M_served_560 : decode b_M_served 560 = .ok (.aload_n 0, 1) := by decide +kernel
theorem d_M_served_561 : decode b_M_served 561 = .ok (.invokevirtual 861, 3) := by decide +kernel
theorem d_M_served_564 : decode b_M_served 564 = .ok (.aload_n 0, 1) := by decide +kernel
theorem d_M_served_565 : decode b_M_served 565 = .ok (.iconst 5, 1) := by decide +kernel
theorem d_M_served_566 : decode b_M_served 566 = .ok (.bipush 7, 2) := by decide +kernel
theorem d_M_served_568 : decode b_M_served 568 = .ok (.invokevirtual 675, 3) := by decide +kernel
theorem d_M_served_571 : decode b_M_served 571 = .ok (.ifCond .eq 10, 3) := by decide +kernel
theorem d_M_served_574 : decode b_M_served 574 = .ok (.aload_n 0, 1) := by decide +kernel
theorem d_M_served_575 : decode b_M_served 575 = .ok (.iconst 3, 1) := by decide +kernel
theorem d_M_served_576 : decode b_M_served 576 = .ok (.lload 6, 2) := by decide +kernel
theorem d_M_served_578 : decode b_M_served 578 = .ok (.invokevirtual 588, 3) := by decide +kernel
theorem d_M_served_581 : decode b_M_served 581 = .ok (.aload_n 0, 1) := by decide +kernel
theorem d_M_served_582 : decode b_M_served 582 = .ok (.iconst 1, 1) := by decide +kernel
theorem d_M_served_583 : decode b_M_served 583 = .ok (.aload_n 0, 1) := by decide +kernel
theorem d_M_served_584 : decode b_M_served 584 = .ok (.iconst 5, 1) := by decide +kernel
theorem d_M_served_585 : decode b_M_served 585 = .ok (.iconst 4, 1) := by decide +kernel
theorem d_M_served_586 : decode b_M_served 586 = .ok (.invokevirtual 665, 3) := by decide +kernel
theorem d_M_served_589 : decode b_M_served 589 = .ok (.invokevirtual 588, 3) := by decide +kernel
theorem d_M_served_592 : decode b_M_served 592 = .ok (.aload_n 0, 1) := by decide +kernel
theorem d_M_served_593 : decode b_M_served 593 = .ok (.iconst 0, 1) := by decide +kernel
theorem d_M_served_594 : decode b_M_served 594 = .ok (.aload_n 0, 1) := by decide +kernel
theorem d_M_served_595 : decode b_M_served 595 = .ok (.iconst 5, 1) := by decide +kernel
theorem d_M_served_596 : decode b_M_served 596 = .ok (.iconst 5, 1) := by decide +kernel
theorem d_M_served_597 : decode b_M_served 597 = .ok (.invokevirtual 731, 3) := by decide +kernel
theorem d_M_served_600 : decode b_M_served 600 = .ok (.invokevirtual 884, 3) := by decide +kernel
theorem d_M_served_603 : decode b_M_served 603 = .ok (.aload_n 0, 1) := by decide +kernel
theorem d_M_served_604 : decode b_M_served 604 = .ok (.bipush 48, 2) := by decide +kernel
theorem d_M_served_606 : decode b_M_served 606 = .ok (.ldc 9, 2) := by decide +kernel
theorem d_M_served_608 : decode b_M_served 608 = .ok (.invokevirtual 559, 3) := by decide +kernel
theorem d_M_served_611 : decode b_M_served 611 = .ok (.aload_n 0, 1) := by decide +kernel
theorem d_M_served_612 : decode b_M_served 612 = .ok (.bipush 123, 2) := by decide +kernel
theorem d_M_served_614 : decode b_M_served 614 = .ok (.ldc 9, 2) := by decide +kernel
theorem d_M_served_616 : decode b_M_served 616 = .ok (.invokevirtual 559, 3) := by decide +kernel
theorem d_M_served_619 : decode b_M_served 619 = .ok (.aload_n 0, 1) := by decide +kernel
theorem d_M_served_620 : decode b_M_served 620 = .ok (.aload_n 0, 1) := by decide +kernel
theorem d_M_served_621 : decode b_M_served 621 = .ok (.getfield 137, 3) := by decide +kernel
theorem d_M_served_624 : decode b_M_served 624 = .ok (.aload_n 0, 1) := by decide +kernel
theorem d_M_served_625 : decode b_M_served 625 = .ok (.getfield 785, 3) := by decide +kernel
theorem d_M_served_628 : decode b_M_served 628 = .ok (.bipush 12, 2) := by decide +kernel
theorem d_M_served_630 : decode b_M_served 630 = .ok (.aload_n 0, 1) := by decide +kernel
theorem d_M_served_631 : decode b_M_served 631 = .ok (.getfield 553, 3) := by decide +kernel
theorem d_M_served_634 : decode b_M_served 634 = .ok (.ldc 9, 2) := by decide +kernel
theorem d_M_served_636 : decode b_M_served 636 = .ok (.invokevirtual 867, 3) := by decide +kernel
theorem d_M_served_639 : decode b_M_served 639 = .ok (.aload_n 0, 1) := by decide +kernel
theorem d_M_served_640 : decode b_M_served 640 = .ok (.invokevirtual 861, 3) := by decide +kernel
theorem d_M_served_643 : decode b_M_served 643 = .ok (.aload_n 0, 1) := by decide +kernel
theorem d_M_served_644 : decode b_M_served 644 = .ok (.iconst 2, 1) := by decide +kernel
theorem d_M_served_645 : decode b_M_served 645 = .ok (.aload_n 0, 1) := by decide +kernel
theorem d_M_served_646 : decode b_M_served 646 = .ok (.getfield 785, 3) := by decide +kernel
theorem d_M_served_649 : decode b_M_served 649 = .ok (.lconst 0, 1) := by decide +kernel
theorem d_M_served_650 : decode b_M_served 650 = .ok (.invokevirtual 870, 3) := by decide +kernel
theorem d_M_served_653 : decode b_M_served 653 = .ok (.aload_n 0, 1) := by decide +kernel
theorem d_M_served_654 : decode b_M_served 654 = .ok (.iconst 1, 1) := by decide +kernel
theorem d_M_served_655 : decode b_M_served 655 = .ok (.ldc2_w 981, 3) := by decide +kernel
theorem d_M_served_658 : decode b_M_served 658 = .ok (.invokevirtual 588, 3) := by decide +kernel
theorem d_M_served_661 : decode b_M_served 661 = .ok (.aload_n 0, 1) := by decide +kernel
theorem d_M_served_662 : decode b_M_served 662 = .ok (.iconst 0, 1) := by decide +kernel
theorem d_M_served_663 : decode b_M_served 663 = .ok (.ldc2_w 669, 3) := by decide +kernel
theorem d_M_served_666 : decode b_M_served 666 = .ok (.invokevirtual 588, 3) := by decide +kernel
theorem d_M_served_669 : decode b_M_served 669 = .ok (.aload_n 0, 1) := by decide +kernel
theorem d_M_served_670 : decode b_M_served 670 = .ok (.bipush 48, 2) := by decide +kernel
theorem d_M_served_672 : decode b_M_served 672 = .ok (.ldc 9, 2) := by decide +kernel
theorem d_M_served_674 : decode b_M_served 674 = .ok (.invokevirtual 559, 3) := by decide +kernel
theorem d_M_served_677 : decode b_M_served 677 = .ok (.aload_n 0, 1) := by decide +kernel
theorem d_M_served_678 : decode b_M_served 678 = .ok (.bipush 111, 2) := by decide +kernel
theorem d_M_served_680 : decode b_M_served 680 = .ok (.ldc 9, 2) := by decide +kernel
theorem d_M_served_682 : decode b_M_served 682 = .ok (.invokevirtual 559, 3) := by decide +kernel
theorem d_M_served_685 : decode b_M_served 685 = .ok (.aload_n 0, 1) := by decide +kernel
theorem d_M_served_686 : decode b_M_served 686 = .ok (.invokevirtual 905, 3) := by decide +kernel
theorem d_M_served_689 : decode b_M_served 689 = .ok (.iload 5, 2) := by decide +kernel
theorem d_M_served_691 : decode b_M_served 691 = .ok (.ireturn, 1) := by decide +kernel
abbrev b_M_met : ByteArray := prog_14_method_145_code
def y_M_met : MethodName := ⟨R_M, "met", "(I)I"⟩
abbrev k_M_met : Cond := .code y_M_met b_M_met 4 (some .int)
theorem ki_M_met : k_M_met ∈ lw_tg := in_t 2821 (by decide +kernel)
theorem ks_M_met : Cond.instanceMethod y_M_met ∈ lw_tg := in_t 2819 (by decide +kernel)
theorem kx_M_met : Cond.selects R_M y_M_met y_M_met ∈ lw_tg := in_t 2820 (by decide +kernel)
theorem hd_M_met : y_M_met.cls = R_M ∧ y_M_met.cls ≠ "java/lang/invoke/MethodHandle" ∧ y_M_met.cls ≠ "java/lang/invoke/VarHandle" ∧ (parseMethodDescriptor y_M_met.desc).map (fun d => d.parameters.length) = some 1 := by decide +kernel
theorem d_M_met_0 : decode b_M_met 0 = .ok (.aload_n 0, 1) := by decide +kernel
theorem d_M_met_1 : decode b_M_met 1 = .ok (.getfield 332, 3) := by decide +kernel
theorem d_M_met_4 : decode b_M_met 4 = .ok (.istore_n 2, 1) := by decide +kernel
theorem d_M_met_5 : decode b_M_met 5 = .ok (.aload_n 0, 1) := by decide +kernel
theorem d_M_met_6 : decode b_M_met 6 = .ok (.iconst 0, 1) := by decide +kernel
theorem d_M_met_7 : decode b_M_met 7 = .ok (.putfield 332, 3) := by decide +kernel
theorem d_M_met_10 : decode b_M_met 10 = .ok (.aload_n 0, 1) := by decide +kernel
theorem d_M_met_11 : decode b_M_met 11 = .ok (.iload_n 1, 1) := by decide +kernel
theorem d_M_met_12 : decode b_M_met 12 = .ok (.invokevirtual 916, 3) := by decide +kernel
theorem d_M_met_15 : decode b_M_met 15 = .ok (.ifCond .ne 5, 3) := by decide +kernel
theorem d_M_met_18 : decode b_M_met 18 = .ok (.iconst (-1), 1) := by decide +kernel
theorem d_M_met_19 : decode b_M_met 19 = .ok (.ireturn, 1) := by decide +kernel
theorem d_M_met_20 : decode b_M_met 20 = .ok (.aload_n 0, 1) := by decide +kernel
theorem d_M_met_21 : decode b_M_met 21 = .ok (.getfield 257, 3) := by decide +kernel
theorem d_M_met_24 : decode b_M_met 24 = .ok (.iload_n 1, 1) := by decide +kernel
theorem d_M_met_25 : decode b_M_met 25 = .ok (.baload, 1) := by decide +kernel
theorem d_M_met_26 : decode b_M_met 26 = .ok (.ifCond .ne 6, 3) := by decide +kernel
theorem d_M_met_29 : decode b_M_met 29 = .ok (.bipush (-3), 2) := by decide +kernel
theorem d_M_met_31 : decode b_M_met 31 = .ok (.ireturn, 1) := by decide +kernel
theorem d_M_met_32 : decode b_M_met 32 = .ok (.aload_n 0, 1) := by decide +kernel
theorem d_M_met_33 : decode b_M_met 33 = .ok (.getfield 257, 3) := by decide +kernel
theorem d_M_met_36 : decode b_M_met 36 = .ok (.iload_n 1, 1) := by decide +kernel
theorem d_M_met_37 : decode b_M_met 37 = .ok (.iconst 0, 1) := by decide +kernel
theorem d_M_met_38 : decode b_M_met 38 = .ok (.bastore, 1) := by decide +kernel
theorem d_M_met_39 : decode b_M_met 39 = .ok (.aload_n 0, 1) := by decide +kernel
theorem d_M_met_40 : decode b_M_met 40 = .ok (.bipush 15, 2) := by decide +kernel
theorem d_M_met_42 : decode b_M_met 42 = .ok (.ldc_w 983, 3) := by decide +kernel
theorem d_M_met_45 : decode b_M_met 45 = .ok (.iconst 0, 1) := by decide +kernel
theorem d_M_met_46 : decode b_M_met 46 = .ok (.iload_n 2, 1) := by decide +kernel
theorem d_M_met_47 : decode b_M_met 47 = .ok (.iconst 0, 1) := by decide +kernel
theorem d_M_met_48 : decode b_M_met 48 = .ok (.invokevirtual 522, 3) := by decide +kernel
theorem d_M_met_51 : decode b_M_met 51 = .ok (.ifCond .ne 6, 3) := by decide +kernel
theorem d_M_met_54 : decode b_M_met 54 = .ok (.bipush (-60), 2) := by decide +kernel
theorem d_M_met_56 : decode b_M_met 56 = .ok (.ireturn, 1) := by decide +kernel
theorem d_M_met_57 : decode b_M_met 57 = .ok (.aload_n 0, 1) := by decide +kernel
theorem d_M_met_58 : decode b_M_met 58 = .ok (.iconst 0, 1) := by decide +kernel
theorem d_M_met_59 : decode b_M_met 59 = .ok (.iconst 0, 1) := by decide +kernel
theorem d_M_met_60 : decode b_M_met 60 = .ok (.invokevirtual 665, 3) := by decide +kernel
theorem d_M_met_63 : decode b_M_met 63 = .ok (.ldc2_w 669, 3) := by decide +kernel
theorem d_M_met_66 : decode b_M_met 66 = .ok (.lcmp, 1) := by decide +kernel
theorem d_M_met_67 : decode b_M_met 67 = .ok (.ifCond .eq 6, 3) := by decide +kernel
theorem d_M_met_70 : decode b_M_met 70 = .ok (.bipush (-3), 2) := by decide +kernel
theorem d_M_met_72 : decode b_M_met 72 = .ok (.ireturn, 1) := by decide +kernel
theorem d_M_met_73 : decode b_M_met 73 = .ok (.aload_n 0, 1) := by decide +kernel
theorem d_M_met_74 : decode b_M_met 74 = .ok (.iconst 0, 1) := by decide +kernel
theorem d_M_met_75 : decode b_M_met 75 = .ok (.iconst 1, 1) := by decide +kernel
theorem d_M_met_76 : decode b_M_met 76 = .ok (.invokevirtual 665, 3) := by decide +kernel
theorem d_M_met_79 : decode b_M_met 79 = .ok (.ldc2_w 981, 3) := by decide +kernel
theorem d_M_met_82 : decode b_M_met 82 = .ok (.lcmp, 1) := by decide +kernel
theorem d_M_met_83 : decode b_M_met 83 = .ok (.ifCond .eq 6, 3) := by decide +kernel
theorem d_M_met_86 : decode b_M_met 86 = .ok (.bipush (-40), 2) := by decide +kernel
theorem d_M_met_88 : decode b_M_met 88 = .ok (.ireturn, 1) := by decide +kernel
theorem d_M_met_89 : decode b_M_met 89 = .ok (.iconst 0, 1) := by decide +kernel
theorem d_M_met_90 : decode b_M_met 90 = .ok (.istore_n 3, 1) := by decide +kernel
theorem d_M_met_91 : decode b_M_met 91 = .ok (.iload_n 3, 1) := by decide +kernel
theorem d_M_met_92 : decode b_M_met 92 = .ok (.bipush 32, 2) := by decide +kernel
theorem d_M_met_94 : decode b_M_met 94 = .ok (.if_icmp .ge 26, 3) := by decide +kernel
theorem d_M_met_97 : decode b_M_met 97 = .ok (.aload_n 0, 1) := by decide +kernel
theorem d_M_met_98 : decode b_M_met 98 = .ok (.getfield 137, 3) := by decide +kernel
theorem d_M_met_101 : decode b_M_met 101 = .ok (.iload_n 3, 1) := by decide +kernel
theorem d_M_met_102 : decode b_M_met 102 = .ok (.aload_n 0, 1) := by decide +kernel
theorem d_M_met_103 : decode b_M_met 103 = .ok (.getfield 272, 3) := by decide +kernel
theorem d_M_met_106 : decode b_M_met 106 = .ok (.bipush 32, 2) := by decide +kernel
theorem d_M_met_108 : decode b_M_met 108 = .ok (.iload_n 1, 1) := by decide +kernel
theorem d_M_met_109 : decode b_M_met 109 = .ok (.imul, 1) := by decide +kernel
theorem d_M_met_110 : decode b_M_met 110 = .ok (.iload_n 3, 1) := by decide +kernel
theorem d_M_met_111 : decode b_M_met 111 = .ok (.iadd, 1) := by decide +kernel
theorem d_M_met_112 : decode b_M_met 112 = .ok (.baload, 1) := by decide +kernel
theorem d_M_met_113 : decode b_M_met 113 = .ok (.bastore, 1) := by decide +kernel
theorem d_M_met_114 : decode b_M_met 114 = .ok (.iinc 3 1, 3) := by decide +kernel
theorem d_M_met_117 : decode b_M_met 117 = .ok (.goto (-26), 3) := by decide +kernel
theorem d_M_met_120 : decode b_M_met 120 = .ok (.aload_n 0, 1) := by decide +kernel
theorem d_M_met_121 : decode b_M_met 121 = .ok (.ldc_w 516, 3) := by decide +kernel
theorem d_M_met_124 : decode b_M_met 124 = .ok (.aload_n 0, 1) := by decide +kernel
theorem d_M_met_125 : decode b_M_met 125 = .ok (.iconst 0, 1) := by decide +kernel
theorem d_M_met_126 : decode b_M_met 126 = .ok (.iconst 2, 1) := by decide +kernel
theorem d_M_met_127 : decode b_M_met 127 = .ok (.invokevirtual 536, 3) := by decide +kernel
theorem d_M_met_130 : decode b_M_met 130 = .ok (.aload_n 0, 1) := by decide +kernel
theorem d_M_met_131 : decode b_M_met 131 = .ok (.iconst 0, 1) := by decide +kernel
theorem d_M_met_132 : decode b_M_met 132 = .ok (.iconst 2, 1) := by decide +kernel
theorem d_M_met_133 : decode b_M_met 133 = .ok (.invokevirtual 539, 3) := by decide +kernel
theorem d_M_met_136 : decode b_M_met 136 = .ok (.bipush 6, 2) := by decide +kernel
theorem d_M_met_138 : decode b_M_met 138 = .ok (.invokevirtual 487, 3) := by decide +kernel
theorem d_M_met_141 : decode b_M_met 141 = .ok (.pop, 1) := by decide +kernel
theorem d_M_met_142 : decode b_M_met 142 = .ok (.aload_n 0, 1) := by decide +kernel
theorem d_M_met_143 : decode b_M_met 143 = .ok (.bipush 6, 2) := by decide +kernel
theorem d_M_met_145 : decode b_M_met 145 = .ok (.iconst 0, 1) := by decide +kernel
theorem d_M_met_146 : decode b_M_met 146 = .ok (.invokevirtual 665, 3) := by decide +kernel
theorem d_M_met_149 : decode b_M_met 149 = .ok (.aload_n 0, 1) := by decide +kernel
theorem d_M_met_150 : decode b_M_met 150 = .ok (.getfield 260, 3) := by decide +kernel
theorem d_M_met_153 : decode b_M_met 153 = .ok (.iload_n 1, 1) := by decide +kernel
theorem d_M_met_154 : decode b_M_met 154 = .ok (.iaload, 1) := by decide +kernel
theorem d_M_met_155 : decode b_M_met 155 = .ok (.i2l, 1) := by decide +kernel
theorem d_M_met_156 : decode b_M_met 156 = .ok (.lcmp, 1) := by decide +kernel
theorem d_M_met_157 : decode b_M_met 157 = .ok (.ifCond .eq 6, 3) := by decide +kernel
theorem d_M_met_160 : decode b_M_met 160 = .ok (.bipush (-31), 2) := by decide +kernel
theorem d_M_met_162 : decode b_M_met 162 = .ok (.ireturn, 1) := by decide +kernel
theorem d_M_met_163 : decode b_M_met 163 = .ok (.aload_n 0, 1) := by decide +kernel
theorem d_M_met_164 : decode b_M_met 164 = .ok (.aload_n 0, 1) := by decide +kernel
theorem d_M_met_165 : decode b_M_met 165 = .ok (.bipush 6, 2) := by decide +kernel
theorem d_M_met_167 : decode b_M_met 167 = .ok (.iconst 2, 1) := by decide +kernel
theorem d_M_met_168 : decode b_M_met 168 = .ok (.invokevirtual 536, 3) := by decide +kernel
theorem d_M_met_171 : decode b_M_met 171 = .ok (.aload_n 0, 1) := by decide +kernel
theorem d_M_met_172 : decode b_M_met 172 = .ok (.bipush 6, 2) := by decide +kernel
theorem d_M_met_174 : decode b_M_met 174 = .ok (.iconst 2, 1) := by decide +kernel
theorem d_M_met_175 : decode b_M_met 175 = .ok (.invokevirtual 539, 3) := by decide +kernel
theorem d_M_met_178 : decode b_M_met 178 = .ok (.iconst 4, 1) := by decide +kernel
theorem d_M_met_179 : decode b_M_met 179 = .ok (.invokevirtual 476, 3) := by decide +kernel
theorem d_M_met_182 : decode b_M_met 182 = .ok (.pop, 1) := by decide +kernel
theorem d_M_met_183 : decode b_M_met 183 = .ok (.aload_n 0, 1) := by decide +kernel
theorem d_M_met_184 : decode b_M_met 184 = .ok (.aload_n 0, 1) := by decide +kernel
theorem d_M_met_185 : decode b_M_met 185 = .ok (.getfield 137, 3) := by decide +kernel
theorem d_M_met_188 : decode b_M_met 188 = .ok (.aload_n 0, 1) := by decide +kernel
theorem d_M_met_189 : decode b_M_met 189 = .ok (.getfield 260, 3) := by decide +kernel
theorem d_M_met_192 : decode b_M_met 192 = .ok (.iload_n 1, 1) := by decide +kernel
theorem d_M_met_193 : decode b_M_met 193 = .ok (.iaload, 1) := by decide +kernel
theorem d_M_met_194 : decode b_M_met 194 = .ok (.bipush 12, 2) := by decide +kernel
theorem d_M_met_196 : decode b_M_met 196 = .ok (.aload_n 0, 1) := by decide +kernel
theorem d_M_met_197 : decode b_M_met 197 = .ok (.getfield 470, 3) := by decide +kernel
theorem d_M_met_200 : decode b_M_met 200 = .ok (.aload_n 0, 1) := by decide +kernel
theorem d_M_met_201 : decode b_M_met 201 = .ok (.getfield 473, 3) := by decide +kernel
theorem d_M_met_204 : decode b_M_met 204 = .ok (.sipush 4200, 3) := by decide +kernel
theorem d_M_met_207 : decode b_M_met 207 = .ok (.invokevirtual 765, 3) := by decide +kernel
theorem d_M_met_210 : decode b_M_met 210 = .ok (.istore_n 3, 1) := by decide +kernel
theorem d_M_met_211 : decode b_M_met 211 = .ok (.iload_n 3, 1) := by decide +kernel
theorem d_M_met_212 : decode b_M_met 212 = .ok (.ifCond .ge 6, 3) := by decide +kernel
theorem d_M_met_215 : decode b_M_met 215 = .ok (.bipush (-31), 2) := by decide +kernel
theorem d_M_met_217 : decode b_M_met 217 = .ok (.ireturn, 1) := by decide +kernel
theorem d_M_met_218 : decode b_M_met 218 = .ok (.aload_n 0, 1) := by decide +kernel
theorem d_M_met_219 : decode b_M_met 219 = .ok (.bipush 27, 2) := by decide +kernel
theorem d_M_met_221 : decode b_M_met 221 = .ok (.ldc_w 985, 3) := by decide +kernel
theorem d_M_met_224 : decode b_M_met 224 = .ok (.sipush 4200, 3) := by decide +kernel
theorem d_M_met_227 : decode b_M_met 227 = .ok (.sipush 4200, 3) := by decide +kernel
theorem d_M_met_230 : decode b_M_met 230 = .ok (.iload_n 3, 1) := by decide +kernel
theorem d_M_met_231 : decode b_M_met 231 = .ok (.iadd, 1) := by decide +kernel
theorem d_M_met_232 : decode b_M_met 232 = .ok (.iconst 4, 1) := by decide +kernel
theorem d_M_met_233 : decode b_M_met 233 = .ok (.invokevirtual 522, 3) := by decide +kernel
theorem d_M_met_236 : decode b_M_met 236 = .ok (.ifCond .ne 6, 3) := by decide +kernel
theorem d_M_met_239 : decode b_M_met 239 = .ok (.bipush (-60), 2) := by decide +kernel
theorem d_M_met_241 : decode b_M_met 241 = .ok (.ireturn, 1) := by decide +kernel
theorem d_M_met_242 : decode b_M_met 242 = .ok (.aload_n 0, 1) := by decide +kernel
theorem d_M_met_243 : decode b_M_met 243 = .ok (.iconst 4, 1) := by decide +kernel
theorem d_M_met_244 : decode b_M_met 244 = .ok (.iconst 0, 1) := by decide +kernel
theorem d_M_met_245 : decode b_M_met 245 = .ok (.invokevirtual 731, 3) := by decide +kernel
theorem d_M_met_248 : decode b_M_met 248 = .ok (.aload_n 0, 1) := by decide +kernel
theorem d_M_met_249 : decode b_M_met 249 = .ok (.getfield 278, 3) := by decide +kernel
theorem d_M_met_252 : decode b_M_met 252 = .ok (.iload_n 1, 1) := by decide +kernel
theorem d_M_met_253 : decode b_M_met 253 = .ok (.laload, 1) := by decide +kernel
theorem d_M_met_254 : decode b_M_met 254 = .ok (.lcmp, 1) := by decide +kernel
theorem d_M_met_255 : decode b_M_met 255 = .ok (.ifCond .ne 20, 3) := by decide +kernel
theorem d_M_met_258 : decode b_M_met 258 = .ok (.aload_n 0, 1) := by decide +kernel
theorem d_M_met_259 : decode b_M_met 259 = .ok (.iconst 4, 1) := by decide +kernel
theorem d_M_met_260 : decode b_M_met 260 = .ok (.iconst 1, 1) := by decide +kernel
theorem d_M_met_261 : decode b_M_met 261 = .ok (.invokevirtual 665, 3) := by decide +kernel
theorem d_M_met_264 : decode b_M_met 264 = .ok (.aload_n 0, 1) := by decide +kernel
theorem d_M_met_265 : decode b_M_met 265 = .ok (.getfield 266, 3) := by decide +kernel
theorem d_M_met_268 : decode b_M_met 268 = .ok (.iload_n 1, 1) := by decide +kernel
theorem d_M_met_269 : decode b_M_met 269 = .ok (.iaload, 1) := by decide +kernel
theorem d_M_met_270 : decode b_M_met 270 = .ok (.i2l, 1) := by decide +kernel
theorem d_M_met_271 : decode b_M_met 271 = .ok (.lcmp, 1) := by decide +kernel
theorem d_M_met_272 : decode b_M_met 272 = .ok (.ifCond .eq 6, 3) := by decide +kernel
theorem d_M_met_275 : decode b_M_met 275 = .ok (.bipush (-46), 2) := by decide +kernel
theorem d_M_met_277 : decode b_M_met 277 = .ok (.ireturn, 1) := by decide +kernel
theorem d_M_met_278 : decode b_M_met 278 = .ok (.aload_n 0, 1) := by decide +kernel
theorem d_M_met_279 : decode b_M_met 279 = .ok (.getfield 284, 3) := by decide +kernel
theorem d_M_met_282 : decode b_M_met 282 = .ok (.iload_n 1, 1) := by decide +kernel
theorem d_M_met_283 : decode b_M_met 283 = .ok (.aload_n 0, 1) := by decide +kernel
theorem d_M_met_284 : decode b_M_met 284 = .ok (.iconst 4, 1) := by decide +kernel
theorem d_M_met_285 : decode b_M_met 285 = .ok (.iconst 3, 1) := by decide +kernel
theorem d_M_met_286 : decode b_M_met 286 = .ok (.invokevirtual 675, 3) := by decide +kernel
theorem d_M_met_289 : decode b_M_met 289 = .ok (.ifCond .eq 12, 3) := by decide +kernel
theorem d_M_met_292 : decode b_M_met 292 = .ok (.aload_n 0, 1) := by decide +kernel
theorem d_M_met_293 : decode b_M_met 293 = .ok (.iconst 4, 1) := by decide +kernel
theorem d_M_met_294 : decode b_M_met 294 = .ok (.iconst 3, 1) := by decide +kernel
theorem d_M_met_295 : decode b_M_met 295 = .ok (.invokevirtual 665, 3) := by decide +kernel
theorem d_M_met_298 : decode b_M_met 298 = .ok (.goto 4, 3) := by decide +kernel
theorem d_M_met_301 : decode b_M_met 301 = .ok (.lconst 0, 1) := by decide +kernel
theorem d_M_met_302 : decode b_M_met 302 = .ok (.lastore, 1) := by decide +kernel
theorem d_M_met_303 : decode b_M_met 303 = .ok (.iconst 0, 1) := by decide +kernel
theorem d_M_met_304 : decode b_M_met 304 = .ok (.ireturn, 1) := by decide +kernel
abbrev b_M_joins : ByteArray := prog_14_method_146_code
def y_M_joins : MethodName := ⟨R_M, "joins", "(II)Z"⟩
abbrev k_M_joins : Cond := .code y_M_joins b_M_joins 5 (some .boolean)
theorem ki_M_joins : k_M_joins ∈ lw_tg := in_t 2827 (by decide +kernel)
theorem ks_M_joins : Cond.instanceMethod y_M_joins ∈ lw_tg := in_t 2825 (by decide +kernel)
theorem kx_M_joins : Cond.selects R_M y_M_joins y_M_joins ∈ lw_tg := in_t 2826 (by decide +kernel)
theorem hd_M_joins : y_M_joins.cls = R_M ∧ y_M_joins.cls ≠ "java/lang/invoke/MethodHandle" ∧ y_M_joins.cls ≠ "java/lang/invoke/VarHandle" ∧ (parseMethodDescriptor y_M_joins.desc).map (fun d => d.parameters.length) = some 2 := by decide +kernel
theorem d_M_joins_0 : decode b_M_joins 0 = .ok (.iload_n 1, 1) := by decide +kernel
theorem d_M_joins_1 : decode b_M_joins 1 = .ok (.ifCond .lt 35, 3) := by decide +kernel
theorem d_M_joins_4 : decode b_M_joins 4 = .ok (.iload_n 1, 1) := by decide +kernel
theorem d_M_joins_5 : decode b_M_joins 5 = .ok (.bipush 7, 2) := by decide +kernel
theorem d_M_joins_7 : decode b_M_joins 7 = .ok (.if_icmp .gt 29, 3) := by decide +kernel
theorem d_M_joins_10 : decode b_M_joins 10 = .ok (.aload_n 0, 1) := by decide +kernel
theorem d_M_joins_11 : decode b_M_joins 11 = .ok (.getfield 290, 3) := by decide +kernel
theorem d_M_joins_14 : decode b_M_joins 14 = .ok (.iload_n 1, 1) := by decide +kernel
theorem d_M_joins_15 : decode b_M_joins 15 = .ok (.baload, 1) := by decide +kernel
theorem d_M_joins_16 : decode b_M_joins 16 = .ok (.ifCond .eq 20, 3) := by decide +kernel
theorem d_M_joins_19 : decode b_M_joins 19 = .ok (.aload_n 0, 1) := by decide +kernel
theorem d_M_joins_20 : decode b_M_joins 20 = .ok (.iload_n 2, 1) := by decide +kernel
theorem d_M_joins_21 : decode b_M_joins 21 = .ok (.invokevirtual 916, 3) := by decide +kernel
theorem d_M_joins_24 : decode b_M_joins 24 = .ok (.ifCond .eq 12, 3) := by decide +kernel
theorem d_M_joins_27 : decode b_M_joins 27 = .ok (.aload_n 0, 1) := by decide +kernel
theorem d_M_joins_28 : decode b_M_joins 28 = .ok (.getfield 269, 3) := by decide +kernel
theorem d_M_joins_31 : decode b_M_joins 31 = .ok (.iload_n 2, 1) := by decide +kernel
theorem d_M_joins_32 : decode b_M_joins 32 = .ok (.iaload, 1) := by decide +kernel
theorem d_M_joins_33 : decode b_M_joins 33 = .ok (.ifCond .ge 5, 3) := by decide +kernel
theorem d_M_joins_36 : decode b_M_joins 36 = .ok (.iconst 0, 1) := by decide +kernel
theorem d_M_joins_37 : decode b_M_joins 37 = .ok (.ireturn, 1) := by decide +kernel
theorem d_M_joins_38 : decode b_M_joins 38 = .ok (.aload_n 0, 1) := by decide +kernel
theorem d_M_joins_39 : decode b_M_joins 39 = .ok (.getfield 308, 3) := by decide +kernel
theorem d_M_joins_42 : decode b_M_joins 42 = .ok (.iload_n 1, 1) := by decide +kernel
theorem d_M_joins_43 : decode b_M_joins 43 = .ok (.laload, 1) := by decide +kernel
theorem d_M_joins_44 : decode b_M_joins 44 = .ok (.aload_n 0, 1) := by decide +kernel
theorem d_M_joins_45 : decode b_M_joins 45 = .ok (.getfield 278, 3) := by decide +kernel
theorem d_M_joins_48 : decode b_M_joins 48 = .ok (.iload_n 2, 1) := by decide +kernel
theorem d_M_joins_49 : decode b_M_joins 49 = .ok (.laload, 1) := by decide +kernel
theorem d_M_joins_50 : decode b_M_joins 50 = .ok (.lcmp, 1) := by decide +kernel
theorem d_M_joins_51 : decode b_M_joins 51 = .ok (.ifCond .ne 53, 3) := by decide +kernel
theorem d_M_joins_54 : decode b_M_joins 54 = .ok (.aload_n 0, 1) := by decide +kernel
theorem d_M_joins_55 : decode b_M_joins 55 = .ok (.getfield 314, 3) := by decide +kernel
theorem d_M_joins_58 : decode b_M_joins 58 = .ok (.iload_n 1, 1) := by decide +kernel
theorem d_M_joins_59 : decode b_M_joins 59 = .ok (.iaload, 1) := by decide +kernel
theorem d_M_joins_60 : decode b_M_joins 60 = .ok (.aload_n 0, 1) := by decide +kernel
theorem d_M_joins_61 : decode b_M_joins 61 = .ok (.getfield 266, 3) := by decide +kernel
theorem d_M_joins_64 : decode b_M_joins 64 = .ok (.iload_n 2, 1) := by decide +kernel
theorem d_M_joins_65 : decode b_M_joins 65 = .ok (.iaload, 1) := by decide +kernel
theorem d_M_joins_66 : decode b_M_joins 66 = .ok (.if_icmp .ne 38, 3) := by decide +kernel
theorem d_M_joins_69 : decode b_M_joins 69 = .ok (.aload_n 0, 1) := by decide +kernel
theorem d_M_joins_70 : decode b_M_joins 70 = .ok (.getfield 311, 3) := by decide +kernel
theorem d_M_joins_73 : decode b_M_joins 73 = .ok (.iload_n 1, 1) := by decide +kernel
theorem d_M_joins_74 : decode b_M_joins 74 = .ok (.laload, 1) := by decide +kernel
theorem d_M_joins_75 : decode b_M_joins 75 = .ok (.aload_n 0, 1) := by decide +kernel
theorem d_M_joins_76 : decode b_M_joins 76 = .ok (.getfield 281, 3) := by decide +kernel
theorem d_M_joins_79 : decode b_M_joins 79 = .ok (.iload_n 2, 1) := by decide +kernel
theorem d_M_joins_80 : decode b_M_joins 80 = .ok (.laload, 1) := by decide +kernel
theorem d_M_joins_81 : decode b_M_joins 81 = .ok (.lcmp, 1) := by decide +kernel
theorem d_M_joins_82 : decode b_M_joins 82 = .ok (.ifCond .ne 22, 3) := by decide +kernel
theorem d_M_joins_85 : decode b_M_joins 85 = .ok (.aload_n 0, 1) := by decide +kernel
theorem d_M_joins_86 : decode b_M_joins 86 = .ok (.getfield 317, 3) := by decide +kernel
theorem d_M_joins_89 : decode b_M_joins 89 = .ok (.iload_n 1, 1) := by decide +kernel
theorem d_M_joins_90 : decode b_M_joins 90 = .ok (.iaload, 1) := by decide +kernel
theorem d_M_joins_91 : decode b_M_joins 91 = .ok (.aload_n 0, 1) := by decide +kernel
theorem d_M_joins_92 : decode b_M_joins 92 = .ok (.getfield 260, 3) := by decide +kernel
theorem d_M_joins_95 : decode b_M_joins 95 = .ok (.iload_n 2, 1) := by decide +kernel
theorem d_M_joins_96 : decode b_M_joins 96 = .ok (.iaload, 1) := by decide +kernel
theorem d_M_joins_97 : decode b_M_joins 97 = .ok (.if_icmp .ne 7, 3) := by decide +kernel
theorem d_M_joins_100 : decode b_M_joins 100 = .ok (.iconst 1, 1) := by decide +kernel
theorem d_M_joins_101 : decode b_M_joins 101 = .ok (.goto 4, 3) := by decide +kernel
theorem d_M_joins_104 : decode b_M_joins 104 = .ok (.iconst 0, 1) := by decide +kernel
theorem d_M_joins_105 : decode b_M_joins 105 = .ok (.istore_n 3, 1) := by decide +kernel
theorem d_M_joins_106 : decode b_M_joins 106 = .ok (.iconst 0, 1) := by decide +kernel
theorem d_M_joins_107 : decode b_M_joins 107 = .ok (.istore 4, 2) := by decide +kernel
theorem d_M_joins_109 : decode b_M_joins 109 = .ok (.iload 4, 2) := by decide +kernel
theorem d_M_joins_111 : decode b_M_joins 111 = .ok (.aload_n 0, 1) := by decide +kernel
theorem d_M_joins_112 : decode b_M_joins 112 = .ok (.getfield 260, 3) := by decide +kernel
theorem d_M_joins_115 : decode b_M_joins 115 = .ok (.iload_n 2, 1) := by decide +kernel
theorem d_M_joins_116 : decode b_M_joins 116 = .ok (.iaload, 1) := by decide +kernel
theorem d_M_joins_117 : decode b_M_joins 117 = .ok (.invokestatic 438, 3) := by decide +kernel
theorem d_M_joins_120 : decode b_M_joins 120 = .ok (.if_icmp .ge 46, 3) := by decide +kernel
theorem d_M_joins_123 : decode b_M_joins 123 = .ok (.iload_n 3, 1) := by decide +kernel
theorem d_M_joins_124 : decode b_M_joins 124 = .ok (.ifCond .eq 42, 3) := by decide +kernel
theorem d_M_joins_127 : decode b_M_joins 127 = .ok (.aload_n 0, 1) := by decide +kernel
theorem d_M_joins_128 : decode b_M_joins 128 = .ok (.getfield 320, 3) := by decide +kernel
theorem d_M_joins_131 : decode b_M_joins 131 = .ok (.bipush 32, 2) := by decide +kernel
theorem d_M_joins_133 : decode b_M_joins 133 = .ok (.iload_n 1, 1) := by decide +kernel
theorem d_M_joins_134 : decode b_M_joins 134 = .ok (.imul, 1) := by decide +kernel
theorem d_M_joins_135 : decode b_M_joins 135 = .ok (.iload 4, 2) := by decide +kernel
theorem d_M_joins_137 : decode b_M_joins 137 = .ok (.iadd, 1) := by decide +kernel
theorem d_M_joins_138 : decode b_M_joins 138 = .ok (.baload, 1) := by decide +kernel
theorem d_M_joins_139 : decode b_M_joins 139 = .ok (.aload_n 0, 1) := by decide +kernel
theorem d_M_joins_140 : decode b_M_joins 140 = .ok (.getfield 272, 3) := by decide +kernel
theorem d_M_joins_143 : decode b_M_joins 143 = .ok (.bipush 32, 2) := by decide +kernel
theorem d_M_joins_145 : decode b_M_joins 145 = .ok (.iload_n 2, 1) := by decide +kernel
theorem d_M_joins_146 : decode b_M_joins 146 = .ok (.imul, 1) := by decide +kernel
theorem d_M_joins_147 : decode b_M_joins 147 = .ok (.iload 4, 2) := by decide +kernel
theorem d_M_joins_149 : decode b_M_joins 149 = .ok (.iadd, 1) := by decide +kernel
theorem d_M_joins_150 : decode b_M_joins 150 = .ok (.baload, 1) := by decide +kernel
theorem d_M_joins_151 : decode b_M_joins 151 = .ok (.if_icmp .ne 7, 3) := by decide +kernel
theorem d_M_joins_154 : decode b_M_joins 154 = .ok (.iconst 1, 1) := by decide +kernel
theorem d_M_joins_155 : decode b_M_joins 155 = .ok (.goto 4, 3) := by decide +kernel
theorem d_M_joins_158 : decode b_M_joins 158 = .ok (.iconst 0, 1) := by decide +kernel
theorem d_M_joins_159 : decode b_M_joins 159 = .ok (.istore_n 3, 1) := by decide +kernel
theorem d_M_joins_160 : decode b_M_joins 160 = .ok (.iinc 4 1, 3) := by decide +kernel
theorem d_M_joins_163 : decode b_M_joins 163 = .ok (.goto (-54), 3) := by decide +kernel
theorem d_M_joins_166 : decode b_M_joins 166 = .ok (.iload_n 3, 1) := by decide +kernel
theorem d_M_joins_167 : decode b_M_joins 167 = .ok (.ifCond .ne 5, 3) := by decide +kernel
theorem d_M_joins_170 : decode b_M_joins 170 = .ok (.iconst 0, 1) := by decide +kernel
theorem d_M_joins_171 : decode b_M_joins 171 = .ok (.ireturn, 1) := by decide +kernel
theorem d_M_joins_172 : decode b_M_joins 172 = .ok (.aload_n 0, 1) := by decide +kernel
theorem d_M_joins_173 : decode b_M_joins 173 = .ok (.getfield 296, 3) := by decide +kernel
theorem d_M_joins_176 : decode b_M_joins 176 = .ok (.iload_n 1, 1) := by decide +kernel
theorem d_M_joins_177 : decode b_M_joins 177 = .ok (.iload_n 2, 1) := by decide +kernel
theorem d_M_joins_178 : decode b_M_joins 178 = .ok (.iastore, 1) := by decide +kernel
theorem d_M_joins_179 : decode b_M_joins 179 = .ok (.aload_n 0, 1) := by decide +kernel
theorem d_M_joins_180 : decode b_M_joins 180 = .ok (.getfield 302, 3) := by decide +kernel
theorem d_M_joins_183 : decode b_M_joins 183 = .ok (.iconst 2, 1) := by decide +kernel
theorem d_M_joins_184 : decode b_M_joins 184 = .ok (.iload_n 1, 1) := by decide +kernel
theorem d_M_joins_185 : decode b_M_joins 185 = .ok (.imul, 1) := by decide +kernel
theorem d_M_joins_186 : decode b_M_joins 186 = .ok (.aload_n 0, 1) := by decide +kernel
theorem d_M_joins_187 : decode b_M_joins 187 = .ok (.getfield 281, 3) := by decide +kernel
theorem d_M_joins_190 : decode b_M_joins 190 = .ok (.iload_n 2, 1) := by decide +kernel
theorem d_M_joins_191 : decode b_M_joins 191 = .ok (.laload, 1) := by decide +kernel
theorem d_M_joins_192 : decode b_M_joins 192 = .ok (.lastore, 1) := by decide +kernel
theorem d_M_joins_193 : decode b_M_joins 193 = .ok (.aload_n 0, 1) := by decide +kernel
theorem d_M_joins_194 : decode b_M_joins 194 = .ok (.getfield 305, 3) := by decide +kernel
theorem d_M_joins_197 : decode b_M_joins 197 = .ok (.iconst 2, 1) := by decide +kernel
theorem d_M_joins_198 : decode b_M_joins 198 = .ok (.iload_n 1, 1) := by decide +kernel
theorem d_M_joins_199 : decode b_M_joins 199 = .ok (.imul, 1) := by decide +kernel
theorem d_M_joins_200 : decode b_M_joins 200 = .ok (.aload_n 0, 1) := by decide +kernel
theorem d_M_joins_201 : decode b_M_joins 201 = .ok (.getfield 284, 3) := by decide +kernel
theorem d_M_joins_204 : decode b_M_joins 204 = .ok (.iload_n 2, 1) := by decide +kernel
theorem d_M_joins_205 : decode b_M_joins 205 = .ok (.laload, 1) := by decide +kernel
theorem d_M_joins_206 : decode b_M_joins 206 = .ok (.lastore, 1) := by decide +kernel
theorem d_M_joins_207 : decode b_M_joins 207 = .ok (.iconst 1, 1) := by decide +kernel
theorem d_M_joins_208 : decode b_M_joins 208 = .ok (.ireturn, 1) := by decide +kernel
abbrev b_M_hasSide : ByteArray := prog_14_method_147_code
def y_M_hasSide : MethodName := ⟨R_M, "hasSide", "(II)Z"⟩
abbrev k_M_hasSide : Cond := .code y_M_hasSide b_M_hasSide 3 (some .boolean)
theorem ki_M_hasSide : k_M_hasSide ∈ lw_tg := in_t 2835 (by decide +kernel)
theorem ks_M_hasSide : Cond.instanceMethod y_M_hasSide ∈ lw_tg := in_t 2834 (by decide +kernel)
theorem kx_M_hasSide : Cond.selects R_M y_M_hasSide y_M_hasSide ∈ lw_tg := List.mem_filter.mpr ⟨List.mem_append_left _ (List.mem_of_getElem? (i := 184) (by decide +kernel)), rfl⟩
theorem kl_M_hasSide : Cond.methodLink R_M 990 y_M_hasSide ∈ lw_tg := in_t 2832 (by decide +kernel)
theorem hd_M_hasSide : y_M_hasSide.cls = R_M ∧ y_M_hasSide.cls ≠ "java/lang/invoke/MethodHandle" ∧ y_M_hasSide.cls ≠ "java/lang/invoke/VarHandle" ∧ (parseMethodDescriptor y_M_hasSide.desc).map (fun d => d.parameters.length) = some 2 := by decide +kernel
theorem d_M_hasSide_0 : decode b_M_hasSide 0 = .ok (.iload_n 1, 1) := by decide +kernel
theorem d_M_hasSide_1 : decode b_M_hasSide 1 = .ok (.ifCond .lt 40, 3) := by decide +kernel
theorem d_M_hasSide_4 : decode b_M_hasSide 4 = .ok (.iload_n 1, 1) := by decide +kernel
theorem d_M_hasSide_5 : decode b_M_hasSide 5 = .ok (.bipush 8, 2) := by decide +kernel
theorem d_M_hasSide_7 : decode b_M_hasSide 7 = .ok (.if_icmp .ge 34, 3) := by decide +kernel
theorem d_M_hasSide_10 : decode b_M_hasSide 10 = .ok (.aload_n 0, 1) := by decide +kernel
theorem d_M_hasSide_11 : decode b_M_hasSide 11 = .ok (.getfield 290, 3) := by decide +kernel
theorem d_M_hasSide_14 : decode b_M_hasSide 14 = .ok (.iload_n 1, 1) := by decide +kernel
theorem d_M_hasSide_15 : decode b_M_hasSide 15 = .ok (.baload, 1) := by decide +kernel
theorem d_M_hasSide_16 : decode b_M_hasSide 16 = .ok (.ifCond .eq 25, 3) := by decide +kernel
theorem d_M_hasSide_19 : decode b_M_hasSide 19 = .ok (.iload_n 2, 1) := by decide +kernel
theorem d_M_hasSide_20 : decode b_M_hasSide 20 = .ok (.iconst 1, 1) := by decide +kernel
theorem d_M_hasSide_21 : decode b_M_hasSide 21 = .ok (.if_icmp .eq 16, 3) := by decide +kernel
theorem d_M_hasSide_24 : decode b_M_hasSide 24 = .ok (.iload_n 2, 1) := by decide +kernel
theorem d_M_hasSide_25 : decode b_M_hasSide 25 = .ok (.ifCond .ne 16, 3) := by decide +kernel
theorem d_M_hasSide_28 : decode b_M_hasSide 28 = .ok (.aload_n 0, 1) := by decide +kernel
theorem d_M_hasSide_29 : decode b_M_hasSide 29 = .ok (.getfield 296, 3) := by decide +kernel
theorem d_M_hasSide_32 : decode b_M_hasSide 32 = .ok (.iload_n 1, 1) := by decide +kernel
theorem d_M_hasSide_33 : decode b_M_hasSide 33 = .ok (.iaload, 1) := by decide +kernel
theorem d_M_hasSide_34 : decode b_M_hasSide 34 = .ok (.ifCond .lt 7, 3) := by decide +kernel
theorem d_M_hasSide_37 : decode b_M_hasSide 37 = .ok (.iconst 1, 1) := by decide +kernel
theorem d_M_hasSide_38 : decode b_M_hasSide 38 = .ok (.goto 4, 3) := by decide +kernel
theorem d_M_hasSide_41 : decode b_M_hasSide 41 = .ok (.iconst 0, 1) := by decide +kernel
theorem d_M_hasSide_42 : decode b_M_hasSide 42 = .ok (.ireturn, 1) := by decide +kernel
abbrev b_M_clockOfSide : ByteArray := prog_14_method_148_code
def y_M_clockOfSide : MethodName := ⟨R_M, "clockOfSide", "(II)J"⟩
abbrev k_M_clockOfSide : Cond := .code y_M_clockOfSide b_M_clockOfSide 3 (some .long)
theorem ki_M_clockOfSide : k_M_clockOfSide ∈ lw_tg := in_t 2843 (by decide +kernel)
theorem ks_M_clockOfSide : Cond.instanceMethod y_M_clockOfSide ∈ lw_tg := in_t 2842 (by decide +kernel)
theorem kx_M_clockOfSide : Cond.selects R_M y_M_clockOfSide y_M_clockOfSide ∈ lw_tg := List.mem_filter.mpr ⟨List.mem_append_left _ (List.mem_of_getElem? (i := 186) (by decide +kernel)), rfl⟩
theorem kl_M_clockOfSide : Cond.methodLink R_M 987 y_M_clockOfSide ∈ lw_tg := in_t 2840 (by decide +kernel)
theorem hd_M_clockOfSide : y_M_clockOfSide.cls = R_M ∧ y_M_clockOfSide.cls ≠ "java/lang/invoke/MethodHandle" ∧ y_M_clockOfSide.cls ≠ "java/lang/invoke/VarHandle" ∧ (parseMethodDescriptor y_M_clockOfSide.desc).map (fun d => d.parameters.length) = some 2 := by decide +kernel
theorem d_M_clockOfSide_0 : decode b_M_clockOfSide 0 = .ok (.iload_n 2, 1) := by decide +kernel
theorem d_M_clockOfSide_1 : decode b_M_clockOfSide 1 = .ok (.iconst 1, 1) := by decide +kernel
theorem d_M_clockOfSide_2 : decode b_M_clockOfSide 2 = .ok (.if_icmp .ne 11, 3) := by decide +kernel
theorem d_M_clockOfSide_5 : decode b_M_clockOfSide 5 = .ok (.aload_n 0, 1) := by decide +kernel
theorem d_M_clockOfSide_6 : decode b_M_clockOfSide 6 = .ok (.getfield 18, 3) := by decide +kernel
theorem d_M_clockOfSide_9 : decode b_M_clockOfSide 9 = .ok (.i2l, 1) := by decide +kernel
theorem d_M_clockOfSide_10 : decode b_M_clockOfSide 10 = .ok (.goto 13, 3) := by decide +kernel
theorem d_M_clockOfSide_13 : decode b_M_clockOfSide 13 = .ok (.aload_n 0, 1) := by decide +kernel
theorem d_M_clockOfSide_14 : decode b_M_clockOfSide 14 = .ok (.aload_n 0, 1) := by decide +kernel
theorem d_M_clockOfSide_15 : decode b_M_clockOfSide 15 = .ok (.getfield 296, 3) := by decide +kernel
theorem d_M_clockOfSide_18 : decode b_M_clockOfSide 18 = .ok (.iload_n 1, 1) := by decide +kernel
theorem d_M_clockOfSide_19 : decode b_M_clockOfSide 19 = .ok (.iaload, 1) := by decide +kernel
theorem d_M_clockOfSide_20 : decode b_M_clockOfSide 20 = .ok (.invokevirtual 927, 3) := by decide +kernel
theorem d_M_clockOfSide_23 : decode b_M_clockOfSide 23 = .ok (.lreturn, 1) := by decide +kernel
abbrev b_M_message : ByteArray := prog_14_method_149_code
def y_M_message : MethodName := ⟨R_M, "message", "(III)V"⟩
abbrev k_M_message : Cond := .code y_M_message b_M_message 6 none
theorem ki_M_message : k_M_message ∈ lw_tg := in_t 2839 (by decide +kernel)
theorem ks_M_message : Cond.instanceMethod y_M_message ∈ lw_tg := in_t 2838 (by decide +kernel)
theorem kx_M_message : Cond.selects R_M y_M_message y_M_message ∈ lw_tg := List.mem_filter.mpr ⟨List.mem_append_left _ (List.mem_of_getElem? (i := 185) (by decide +kernel)), rfl⟩
theorem kl_M_message : Cond.methodLink R_M 993 y_M_message ∈ lw_tg := in_t 2836 (by decide +kernel)
theorem hd_M_message : y_M_message.cls = R_M ∧ y_M_message.cls ≠ "java/lang/invoke/MethodHandle" ∧ y_M_message.cls ≠ "java/lang/invoke/VarHandle" ∧ (parseMethodDescriptor y_M_message.desc).map (fun d => d.parameters.length) = some 3 := by decide +kernel
theorem d_M_message_0 : decode b_M_message 0 = .ok (.aload_n 0, 1) := by decide +kernel
theorem d_M_message_1 : decode b_M_message 1 = .ok (.getfield 323, 3) := by decide +kernel
theorem d_M_message_4 : decode b_M_message 4 = .ok (.iconst 0, 1) := by decide +kernel
theorem d_M_message_5 : decode b_M_message 5 = .ok (.bipush 10, 2) := by decide +kernel
theorem d_M_message_7 : decode b_M_message 7 = .ok (.bastore, 1) := by decide +kernel
theorem d_M_message_8 : decode b_M_message 8 = .ok (.aload_n 0, 1) := by decide +kernel
theorem d_M_message_9 : decode b_M_message 9 = .ok (.getfield 323, 3) := by decide +kernel
theorem d_M_message_12 : decode b_M_message 12 = .ok (.iconst 3, 1) := by decide +kernel
theorem d_M_message_13 : decode b_M_message 13 = .ok (.iload_n 2, 1) := by decide +kernel
theorem d_M_message_14 : decode b_M_message 14 = .ok (.i2b, 1) := by decide +kernel
theorem d_M_message_15 : decode b_M_message 15 = .ok (.bastore, 1) := by decide +kernel
theorem d_M_message_16 : decode b_M_message 16 = .ok (.aload_n 0, 1) := by decide +kernel
theorem d_M_message_17 : decode b_M_message 17 = .ok (.getfield 553, 3) := by decide +kernel
theorem d_M_message_20 : decode b_M_message 20 = .ok (.istore 4, 2) := by decide +kernel
theorem d_M_message_22 : decode b_M_message 22 = .ok (.aload_n 0, 1) := by decide +kernel
theorem d_M_message_23 : decode b_M_message 23 = .ok (.getfield 553, 3) := by decide +kernel
theorem d_M_message_26 : decode b_M_message 26 = .ok (.istore 5, 2) := by decide +kernel
theorem d_M_message_28 : decode b_M_message 28 = .ok (.aload_n 0, 1) := by decide +kernel
theorem d_M_message_29 : decode b_M_message 29 = .ok (.iconst 1, 1) := by decide +kernel
theorem d_M_message_30 : decode b_M_message 30 = .ok (.aload_n 0, 1) := by decide +kernel
theorem d_M_message_31 : decode b_M_message 31 = .ok (.getfield 323, 3) := by decide +kernel
theorem d_M_message_34 : decode b_M_message 34 = .ok (.iconst 0, 1) := by decide +kernel
theorem d_M_message_35 : decode b_M_message 35 = .ok (.iconst 4, 1) := by decide +kernel
theorem d_M_message_36 : decode b_M_message 36 = .ok (.invokevirtual 584, 3) := by decide +kernel
theorem d_M_message_39 : decode b_M_message 39 = .ok (.aload_n 0, 1) := by decide +kernel
theorem d_M_message_40 : decode b_M_message 40 = .ok (.iconst 0, 1) := by decide +kernel
theorem d_M_message_41 : decode b_M_message 41 = .ok (.ldc2_w 810, 3) := by decide +kernel
theorem d_M_message_44 : decode b_M_message 44 = .ok (.invokevirtual 588, 3) := by decide +kernel
theorem d_M_message_47 : decode b_M_message 47 = .ok (.aload_n 0, 1) := by decide +kernel
theorem d_M_message_48 : decode b_M_message 48 = .ok (.bipush 48, 2) := by decide +kernel
theorem d_M_message_50 : decode b_M_message 50 = .ok (.iload 4, 2) := by decide +kernel
theorem d_M_message_52 : decode b_M_message 52 = .ok (.invokevirtual 559, 3) := by decide +kernel
theorem d_M_message_55 : decode b_M_message 55 = .ok (.aload_n 0, 1) := by decide +kernel
theorem d_M_message_56 : decode b_M_message 56 = .ok (.iconst 4, 1) := by decide +kernel
theorem d_M_message_57 : decode b_M_message 57 = .ok (.iload 4, 2) := by decide +kernel
theorem d_M_message_59 : decode b_M_message 59 = .ok (.invokevirtual 567, 3) := by decide +kernel
theorem d_M_message_62 : decode b_M_message 62 = .ok (.aload_n 0, 1) := by decide +kernel
theorem d_M_message_63 : decode b_M_message 63 = .ok (.iconst 3, 1) := by decide +kernel
theorem d_M_message_64 : decode b_M_message 64 = .ok (.aload_n 0, 1) := by decide +kernel
theorem d_M_message_65 : decode b_M_message 65 = .ok (.getfield 302, 3) := by decide +kernel
theorem d_M_message_68 : decode b_M_message 68 = .ok (.iconst 2, 1) := by decide +kernel
theorem d_M_message_69 : decode b_M_message 69 = .ok (.iload_n 1, 1) := by decide +kernel
theorem d_M_message_70 : decode b_M_message 70 = .ok (.imul, 1) := by decide +kernel
theorem d_M_message_71 : decode b_M_message 71 = .ok (.iload_n 2, 1) := by decide +kernel
theorem d_M_message_72 : decode b_M_message 72 = .ok (.iadd, 1) := by decide +kernel
theorem d_M_message_73 : decode b_M_message 73 = .ok (.laload, 1) := by decide +kernel
theorem d_M_message_74 : decode b_M_message 74 = .ok (.invokevirtual 588, 3) := by decide +kernel
theorem d_M_message_77 : decode b_M_message 77 = .ok (.aload_n 0, 1) := by decide +kernel
theorem d_M_message_78 : decode b_M_message 78 = .ok (.iconst 2, 1) := by decide +kernel
theorem d_M_message_79 : decode b_M_message 79 = .ok (.lconst 0, 1) := by decide +kernel
theorem d_M_message_80 : decode b_M_message 80 = .ok (.invokevirtual 588, 3) := by decide +kernel
theorem d_M_message_83 : decode b_M_message 83 = .ok (.aload_n 0, 1) := by decide +kernel
theorem d_M_message_84 : decode b_M_message 84 = .ok (.iconst 1, 1) := by decide +kernel
theorem d_M_message_85 : decode b_M_message 85 = .ok (.aload_n 0, 1) := by decide +kernel
theorem d_M_message_86 : decode b_M_message 86 = .ok (.iload_n 1, 1) := by decide +kernel
theorem d_M_message_87 : decode b_M_message 87 = .ok (.iload_n 2, 1) := by decide +kernel
theorem d_M_message_88 : decode b_M_message 88 = .ok (.invokevirtual 987, 3) := by decide +kernel
theorem d_M_message_91 : decode b_M_message 91 = .ok (.invokevirtual 884, 3) := by decide +kernel
theorem d_M_message_94 : decode b_M_message 94 = .ok (.aload_n 0, 1) := by decide +kernel
theorem d_M_message_95 : decode b_M_message 95 = .ok (.iconst 0, 1) := by decide +kernel
theorem d_M_message_96 : decode b_M_message 96 = .ok (.aload_n 0, 1) := by decide +kernel
theorem d_M_message_97 : decode b_M_message 97 = .ok (.getfield 10, 3) := by decide +kernel
theorem d_M_message_100 : decode b_M_message 100 = .ok (.iconst 0, 1) := by decide +kernel
theorem d_M_message_101 : decode b_M_message 101 = .ok (.iload_n 3, 1) := by decide +kernel
theorem d_M_message_102 : decode b_M_message 102 = .ok (.invokevirtual 584, 3) := by decide +kernel
theorem d_M_message_105 : decode b_M_message 105 = .ok (.aload_n 0, 1) := by decide +kernel
theorem d_M_message_106 : decode b_M_message 106 = .ok (.bipush 48, 2) := by decide +kernel
theorem d_M_message_108 : decode b_M_message 108 = .ok (.iload 5, 2) := by decide +kernel
theorem d_M_message_110 : decode b_M_message 110 = .ok (.invokevirtual 559, 3) := by decide +kernel
theorem d_M_message_113 : decode b_M_message 113 = .ok (.aload_n 0, 1) := by decide +kernel
theorem d_M_message_114 : decode b_M_message 114 = .ok (.getfield 302, 3) := by decide +kernel
theorem d_M_message_117 : decode b_M_message 117 = .ok (.iconst 2, 1) := by decide +kernel
theorem d_M_message_118 : decode b_M_message 118 = .ok (.iload_n 1, 1) := by decide +kernel
theorem d_M_message_119 : decode b_M_message 119 = .ok (.imul, 1) := by decide +kernel
theorem d_M_message_120 : decode b_M_message 120 = .ok (.iload_n 2, 1) := by decide +kernel
theorem d_M_message_121 : decode b_M_message 121 = .ok (.iadd, 1) := by decide +kernel
theorem d_M_message_122 : decode b_M_message 122 = .ok (.aload_n 0, 1) := by decide +kernel
theorem d_M_message_123 : decode b_M_message 123 = .ok (.getfield 302, 3) := by decide +kernel
theorem d_M_message_126 : decode b_M_message 126 = .ok (.iconst 2, 1) := by decide +kernel
theorem d_M_message_127 : decode b_M_message 127 = .ok (.iload_n 1, 1) := by decide +kernel
theorem d_M_message_128 : decode b_M_message 128 = .ok (.imul, 1) := by decide +kernel
theorem d_M_message_129 : decode b_M_message 129 = .ok (.iload_n 2, 1) := by decide +kernel
theorem d_M_message_130 : decode b_M_message 130 = .ok (.iadd, 1) := by decide +kernel
theorem d_M_message_131 : decode b_M_message 131 = .ok (.laload, 1) := by decide +kernel
theorem d_M_message_132 : decode b_M_message 132 = .ok (.lconst 1, 1) := by decide +kernel
theorem d_M_message_133 : decode b_M_message 133 = .ok (.ladd, 1) := by decide +kernel
theorem d_M_message_134 : decode b_M_message 134 = .ok (.ldc2_w 503, 3) := by decide +kernel
theorem d_M_message_137 : decode b_M_message 137 = .ok (.land, 1) := by decide +kernel
theorem d_M_message_138 : decode b_M_message 138 = .ok (.lastore, 1) := by decide +kernel
theorem d_M_message_139 : decode b_M_message 139 = .ok (.return_, 1) := by decide +kernel
abbrev b_M_send : ByteArray := prog_14_method_150_code
def y_M_send : MethodName := ⟨R_M, "send", "(II)I"⟩
abbrev k_M_send : Cond := .code y_M_send b_M_send 6 (some .int)
theorem ki_M_send : k_M_send ∈ lw_tg := in_t 2831 (by decide +kernel)
theorem ks_M_send : Cond.instanceMethod y_M_send ∈ lw_tg := in_t 2829 (by decide +kernel)
theorem kx_M_send : Cond.selects R_M y_M_send y_M_send ∈ lw_tg := in_t 2830 (by decide +kernel)
theorem hd_M_send : y_M_send.cls = R_M ∧ y_M_send.cls ≠ "java/lang/invoke/MethodHandle" ∧ y_M_send.cls ≠ "java/lang/invoke/VarHandle" ∧ (parseMethodDescriptor y_M_send.desc).map (fun d => d.parameters.length) = some 2 := by decide +kernel
theorem d_M_send_0 : decode b_M_send 0 = .ok (.aload_n 0, 1) := by decide +kernel
theorem d_M_send_1 : decode b_M_send 1 = .ok (.getfield 332, 3) := by decide +kernel
theorem d_M_send_4 : decode b_M_send 4 = .ok (.istore_n 3, 1) := by decide +kernel
theorem d_M_send_5 : decode b_M_send 5 = .ok (.aload_n 0, 1) := by decide +kernel
theorem d_M_send_6 : decode b_M_send 6 = .ok (.iload_n 1, 1) := by decide +kernel
theorem d_M_send_7 : decode b_M_send 7 = .ok (.iload_n 2, 1) := by decide +kernel
theorem d_M_send_8 : decode b_M_send 8 = .ok (.invokevirtual 990, 3) := by decide +kernel
theorem d_M_send_11 : decode b_M_send 11 = .ok (.ifCond .eq 14, 3) := by decide +kernel
theorem d_M_send_14 : decode b_M_send 14 = .ok (.iload_n 3, 1) := by decide +kernel
theorem d_M_send_15 : decode b_M_send 15 = .ok (.sipush 1000, 3) := by decide +kernel
theorem d_M_send_18 : decode b_M_send 18 = .ok (.if_icmp .gt 7, 3) := by decide +kernel
theorem d_M_send_21 : decode b_M_send 21 = .ok (.iconst 1, 1) := by decide +kernel
theorem d_M_send_22 : decode b_M_send 22 = .ok (.goto 4, 3) := by decide +kernel
theorem d_M_send_25 : decode b_M_send 25 = .ok (.iconst 0, 1) := by decide +kernel
theorem d_M_send_26 : decode b_M_send 26 = .ok (.istore 4, 2) := by decide +kernel
theorem d_M_send_28 : decode b_M_send 28 = .ok (.aload_n 0, 1) := by decide +kernel
theorem d_M_send_29 : decode b_M_send 29 = .ok (.iconst 0, 1) := by decide +kernel
theorem d_M_send_30 : decode b_M_send 30 = .ok (.putfield 332, 3) := by decide +kernel
theorem d_M_send_33 : decode b_M_send 33 = .ok (.iload 4, 2) := by decide +kernel
theorem d_M_send_35 : decode b_M_send 35 = .ok (.ifCond .ne 5, 3) := by decide +kernel
theorem d_M_send_38 : decode b_M_send 38 = .ok (.iconst (-1), 1) := by decide +kernel
theorem d_M_send_39 : decode b_M_send 39 = .ok (.ireturn, 1) := by decide +kernel
theorem d_M_send_40 : decode b_M_send 40 = .ok (.aload_n 0, 1) := by decide +kernel
theorem d_M_send_41 : decode b_M_send 41 = .ok (.invokevirtual 861, 3) := by decide +kernel
theorem d_M_send_44 : decode b_M_send 44 = .ok (.aload_n 0, 1) := by decide +kernel
theorem d_M_send_45 : decode b_M_send 45 = .ok (.iload_n 1, 1) := by decide +kernel
theorem d_M_send_46 : decode b_M_send 46 = .ok (.iload_n 2, 1) := by decide +kernel
theorem d_M_send_47 : decode b_M_send 47 = .ok (.iload_n 3, 1) := by decide +kernel
theorem d_M_send_48 : decode b_M_send 48 = .ok (.invokevirtual 993, 3) := by decide +kernel
theorem d_M_send_51 : decode b_M_send 51 = .ok (.aload_n 0, 1) := by decide +kernel
theorem d_M_send_52 : decode b_M_send 52 = .ok (.bipush 124, 2) := by decide +kernel
theorem d_M_send_54 : decode b_M_send 54 = .ok (.ldc 9, 2) := by decide +kernel
theorem d_M_send_56 : decode b_M_send 56 = .ok (.invokevirtual 559, 3) := by decide +kernel
theorem d_M_send_59 : decode b_M_send 59 = .ok (.iconst 0, 1) := by decide +kernel
theorem d_M_send_60 : decode b_M_send 60 = .ok (.istore 5, 2) := by decide +kernel
theorem d_M_send_62 : decode b_M_send 62 = .ok (.iload 5, 2) := by decide +kernel
theorem d_M_send_64 : decode b_M_send 64 = .ok (.bipush 32, 2) := by decide +kernel
theorem d_M_send_66 : decode b_M_send 66 = .ok (.if_icmp .ge 28, 3) := by decide +kernel
theorem d_M_send_69 : decode b_M_send 69 = .ok (.aload_n 0, 1) := by decide +kernel
theorem d_M_send_70 : decode b_M_send 70 = .ok (.getfield 137, 3) := by decide +kernel
theorem d_M_send_73 : decode b_M_send 73 = .ok (.iload 5, 2) := by decide +kernel
theorem d_M_send_75 : decode b_M_send 75 = .ok (.aload_n 0, 1) := by decide +kernel
theorem d_M_send_76 : decode b_M_send 76 = .ok (.getfield 299, 3) := by decide +kernel
theorem d_M_send_79 : decode b_M_send 79 = .ok (.bipush 32, 2) := by decide +kernel
theorem d_M_send_81 : decode b_M_send 81 = .ok (.iload_n 1, 1) := by decide +kernel
theorem d_M_send_82 : decode b_M_send 82 = .ok (.imul, 1) := by decide +kernel
theorem d_M_send_83 : decode b_M_send 83 = .ok (.iload 5, 2) := by decide +kernel
theorem d_M_send_85 : decode b_M_send 85 = .ok (.iadd, 1) := by decide +kernel
theorem d_M_send_86 : decode b_M_send 86 = .ok (.baload, 1) := by decide +kernel
theorem d_M_send_87 : decode b_M_send 87 = .ok (.bastore, 1) := by decide +kernel
theorem d_M_send_88 : decode b_M_send 88 = .ok (.iinc 5 1, 3) := by decide +kernel
theorem d_M_send_91 : decode b_M_send 91 = .ok (.goto (-29), 3) := by decide +kernel
theorem d_M_send_94 : decode b_M_send 94 = .ok (.aload_n 0, 1) := by decide +kernel
theorem d_M_send_95 : decode b_M_send 95 = .ok (.aload_n 0, 1) := by decide +kernel
theorem d_M_send_96 : decode b_M_send 96 = .ok (.getfield 137, 3) := by decide +kernel
theorem d_M_send_99 : decode b_M_send 99 = .ok (.aload_n 0, 1) := by decide +kernel
theorem d_M_send_100 : decode b_M_send 100 = .ok (.getfield 293, 3) := by decide +kernel
theorem d_M_send_103 : decode b_M_send 103 = .ok (.iload_n 1, 1) := by decide +kernel
theorem d_M_send_104 : decode b_M_send 104 = .ok (.iaload, 1) := by decide +kernel
theorem d_M_send_105 : decode b_M_send 105 = .ok (.bipush 13, 2) := by decide +kernel
theorem d_M_send_107 : decode b_M_send 107 = .ok (.aload_n 0, 1) := by decide +kernel
theorem d_M_send_108 : decode b_M_send 108 = .ok (.getfield 553, 3) := by decide +kernel
theorem d_M_send_111 : decode b_M_send 111 = .ok (.ldc 9, 2) := by decide +kernel
theorem d_M_send_113 : decode b_M_send 113 = .ok (.invokevirtual 867, 3) := by decide +kernel
theorem d_M_send_116 : decode b_M_send 116 = .ok (.aload_n 0, 1) := by decide +kernel
theorem d_M_send_117 : decode b_M_send 117 = .ok (.invokevirtual 861, 3) := by decide +kernel
theorem d_M_send_120 : decode b_M_send 120 = .ok (.aload_n 0, 1) := by decide +kernel
theorem d_M_send_121 : decode b_M_send 121 = .ok (.iconst 3, 1) := by decide +kernel
theorem d_M_send_122 : decode b_M_send 122 = .ok (.aload_n 0, 1) := by decide +kernel
theorem d_M_send_123 : decode b_M_send 123 = .ok (.getfield 293, 3) := by decide +kernel
theorem d_M_send_126 : decode b_M_send 126 = .ok (.iload_n 1, 1) := by decide +kernel
theorem d_M_send_127 : decode b_M_send 127 = .ok (.iaload, 1) := by decide +kernel
theorem d_M_send_128 : decode b_M_send 128 = .ok (.lconst 0, 1) := by decide +kernel
theorem d_M_send_129 : decode b_M_send 129 = .ok (.invokevirtual 870, 3) := by decide +kernel
theorem d_M_send_132 : decode b_M_send 132 = .ok (.aload_n 0, 1) := by decide +kernel
theorem d_M_send_133 : decode b_M_send 133 = .ok (.iconst 1, 1) := by decide +kernel
theorem d_M_send_134 : decode b_M_send 134 = .ok (.ldc2_w 996, 3) := by decide +kernel
theorem d_M_send_137 : decode b_M_send 137 = .ok (.invokevirtual 588, 3) := by decide +kernel
theorem d_M_send_140 : decode b_M_send 140 = .ok (.aload_n 0, 1) := by decide +kernel
theorem d_M_send_141 : decode b_M_send 141 = .ok (.iconst 0, 1) := by decide +kernel
theorem d_M_send_142 : decode b_M_send 142 = .ok (.ldc2_w 669, 3) := by decide +kernel
theorem d_M_send_145 : decode b_M_send 145 = .ok (.invokevirtual 588, 3) := by decide +kernel
theorem d_M_send_148 : decode b_M_send 148 = .ok (.aload_n 0, 1) := by decide +kernel
theorem d_M_send_149 : decode b_M_send 149 = .ok (.bipush 48, 2) := by decide +kernel
theorem d_M_send_151 : decode b_M_send 151 = .ok (.ldc 9, 2) := by decide +kernel
theorem d_M_send_153 : decode b_M_send 153 = .ok (.invokevirtual 559, 3) := by decide +kernel
theorem d_M_send_156 : decode b_M_send 156 = .ok (.aload_n 0, 1) := by decide +kernel
theorem d_M_send_157 : decode b_M_send 157 = .ok (.bipush 117, 2) := by decide +kernel
theorem d_M_send_159 : decode b_M_send 159 = .ok (.ldc 9, 2) := by decide +kernel
theorem d_M_send_161 : decode b_M_send 161 = .ok (.invokevirtual 559, 3) := by decide +kernel
theorem d_M_send_164 : decode b_M_send 164 = .ok (.aload_n 0, 1) := by decide +kernel
theorem d_M_send_165 : decode b_M_send 165 = .ok (.invokevirtual 905, 3) := by decide +kernel
theorem d_M_send_168 : decode b_M_send 168 = .ok (.aload_n 0, 1) := by decide +kernel
theorem d_M_send_169 : decode b_M_send 169 = .ok (.getfield 348, 3) := by decide +kernel
theorem d_M_send_172 : decode b_M_send 172 = .ok (.ireturn, 1) := by decide +kernel
abbrev b_M_receive : ByteArray := prog_14_method_151_code
def y_M_receive : MethodName := ⟨R_M, "receive", "(II)I"⟩
abbrev k_M_receive : Cond := .code y_M_receive b_M_receive 5 (some .int)
theorem ki_M_receive : k_M_receive ∈ lw_tg := in_t 2848 (by decide +kernel)
theorem ks_M_receive : Cond.instanceMethod y_M_receive ∈ lw_tg := in_t 2846 (by decide +kernel)
theorem kx_M_receive : Cond.selects R_M y_M_receive y_M_receive ∈ lw_tg := in_t 2847 (by decide +kernel)
theorem hd_M_receive : y_M_receive.cls = R_M ∧ y_M_receive.cls ≠ "java/lang/invoke/MethodHandle" ∧ y_M_receive.cls ≠ "java/lang/invoke/VarHandle" ∧ (parseMethodDescriptor y_M_receive.desc).map (fun d => d.parameters.length) = some 2 := by decide +kernel
theorem d_M_receive_0 : decode b_M_receive 0 = .ok (.aload_n 0, 1) := by decide +kernel
theorem d_M_receive_1 : decode b_M_receive 1 = .ok (.getfield 332, 3) := by decide +kernel
theorem d_M_receive_4 : decode b_M_receive 4 = .ok (.istore_n 3, 1) := by decide +kernel
theorem d_M_receive_5 : decode b_M_receive 5 = .ok (.aload_n 0, 1) := by decide +kernel
theorem d_M_receive_6 : decode b_M_receive 6 = .ok (.iconst 0, 1) := by decide +kernel
theorem d_M_receive_7 : decode b_M_receive 7 = .ok (.putfield 332, 3) := by decide +kernel
theorem d_M_receive_10 : decode b_M_receive 10 = .ok (.aload_n 0, 1) := by decide +kernel
theorem d_M_receive_11 : decode b_M_receive 11 = .ok (.iload_n 1, 1) := by decide +kernel
theorem d_M_receive_12 : decode b_M_receive 12 = .ok (.iload_n 2, 1) := by decide +kernel
theorem d_M_receive_13 : decode b_M_receive 13 = .ok (.invokevirtual 990, 3) := by decide +kernel
theorem d_M_receive_16 : decode b_M_receive 16 = .ok (.ifCond .ne 5, 3) := by decide +kernel
theorem d_M_receive_19 : decode b_M_receive 19 = .ok (.iconst (-1), 1) := by decide +kernel
theorem d_M_receive_20 : decode b_M_receive 20 = .ok (.ireturn, 1) := by decide +kernel
theorem d_M_receive_21 : decode b_M_receive 21 = .ok (.aload_n 0, 1) := by decide +kernel
theorem d_M_receive_22 : decode b_M_receive 22 = .ok (.bipush 21, 2) := by decide +kernel
theorem d_M_receive_24 : decode b_M_receive 24 = .ok (.ldc_w 998, 3) := by decide +kernel
theorem d_M_receive_27 : decode b_M_receive 27 = .ok (.iconst 0, 1) := by decide +kernel
theorem d_M_receive_28 : decode b_M_receive 28 = .ok (.iload_n 3, 1) := by decide +kernel
theorem d_M_receive_29 : decode b_M_receive 29 = .ok (.iconst 0, 1) := by decide +kernel
theorem d_M_receive_30 : decode b_M_receive 30 = .ok (.invokevirtual 522, 3) := by decide +kernel
theorem d_M_receive_33 : decode b_M_receive 33 = .ok (.ifCond .ne 6, 3) := by decide +kernel
theorem d_M_receive_36 : decode b_M_receive 36 = .ok (.bipush (-60), 2) := by decide +kernel
theorem d_M_receive_38 : decode b_M_receive 38 = .ok (.ireturn, 1) := by decide +kernel
theorem d_M_receive_39 : decode b_M_receive 39 = .ok (.aload_n 0, 1) := by decide +kernel
theorem d_M_receive_40 : decode b_M_receive 40 = .ok (.iconst 0, 1) := by decide +kernel
theorem d_M_receive_41 : decode b_M_receive 41 = .ok (.iconst 0, 1) := by decide +kernel
theorem d_M_receive_42 : decode b_M_receive 42 = .ok (.invokevirtual 665, 3) := by decide +kernel
theorem d_M_receive_45 : decode b_M_receive 45 = .ok (.ldc2_w 669, 3) := by decide +kernel
theorem d_M_receive_48 : decode b_M_receive 48 = .ok (.lcmp, 1) := by decide +kernel
theorem d_M_receive_49 : decode b_M_receive 49 = .ok (.ifCond .eq 6, 3) := by decide +kernel
theorem d_M_receive_52 : decode b_M_receive 52 = .ok (.bipush (-3), 2) := by decide +kernel
theorem d_M_receive_54 : decode b_M_receive 54 = .ok (.ireturn, 1) := by decide +kernel
theorem d_M_receive_55 : decode b_M_receive 55 = .ok (.aload_n 0, 1) := by decide +kernel
theorem d_M_receive_56 : decode b_M_receive 56 = .ok (.iconst 0, 1) := by decide +kernel
theorem d_M_receive_57 : decode b_M_receive 57 = .ok (.iconst 1, 1) := by decide +kernel
theorem d_M_receive_58 : decode b_M_receive 58 = .ok (.invokevirtual 665, 3) := by decide +kernel
theorem d_M_receive_61 : decode b_M_receive 61 = .ok (.ldc2_w 996, 3) := by decide +kernel
theorem d_M_receive_64 : decode b_M_receive 64 = .ok (.lcmp, 1) := by decide +kernel
theorem d_M_receive_65 : decode b_M_receive 65 = .ok (.ifCond .eq 6, 3) := by decide +kernel
theorem d_M_receive_68 : decode b_M_receive 68 = .ok (.bipush (-40), 2) := by decide +kernel
theorem d_M_receive_70 : decode b_M_receive 70 = .ok (.ireturn, 1) := by decide +kernel
theorem d_M_receive_71 : decode b_M_receive 71 = .ok (.iconst 0, 1) := by decide +kernel
theorem d_M_receive_72 : decode b_M_receive 72 = .ok (.istore 4, 2) := by decide +kernel
theorem d_M_receive_74 : decode b_M_receive 74 = .ok (.iload 4, 2) := by decide +kernel
theorem d_M_receive_76 : decode b_M_receive 76 = .ok (.bipush 32, 2) := by decide +kernel
theorem d_M_receive_78 : decode b_M_receive 78 = .ok (.if_icmp .ge 28, 3) := by decide +kernel
theorem d_M_receive_81 : decode b_M_receive 81 = .ok (.aload_n 0, 1) := by decide +kernel
theorem d_M_receive_82 : decode b_M_receive 82 = .ok (.getfield 137, 3) := by decide +kernel
theorem d_M_receive_85 : decode b_M_receive 85 = .ok (.iload 4, 2) := by decide +kernel
theorem d_M_receive_87 : decode b_M_receive 87 = .ok (.aload_n 0, 1) := by decide +kernel
theorem d_M_receive_88 : decode b_M_receive 88 = .ok (.getfield 299, 3) := by decide +kernel
theorem d_M_receive_91 : decode b_M_receive 91 = .ok (.bipush 32, 2) := by decide +kernel
theorem d_M_receive_93 : decode b_M_receive 93 = .ok (.iload_n 1, 1) := by decide +kernel
theorem d_M_receive_94 : decode b_M_receive 94 = .ok (.imul, 1) := by decide +kernel
theorem d_M_receive_95 : decode b_M_receive 95 = .ok (.iload 4, 2) := by decide +kernel
theorem d_M_receive_97 : decode b_M_receive 97 = .ok (.iadd, 1) := by decide +kernel
theorem d_M_receive_98 : decode b_M_receive 98 = .ok (.baload, 1) := by decide +kernel
theorem d_M_receive_99 : decode b_M_receive 99 = .ok (.bastore, 1) := by decide +kernel
theorem d_M_receive_100 : decode b_M_receive 100 = .ok (.iinc 4 1, 3) := by decide +kernel
theorem d_M_receive_103 : decode b_M_receive 103 = .ok (.goto (-29), 3) := by decide +kernel
theorem d_M_receive_106 : decode b_M_receive 106 = .ok (.aload_n 0, 1) := by decide +kernel
theorem d_M_receive_107 : decode b_M_receive 107 = .ok (.ldc_w 516, 3) := by decide +kernel
theorem d_M_receive_110 : decode b_M_receive 110 = .ok (.aload_n 0, 1) := by decide +kernel
theorem d_M_receive_111 : decode b_M_receive 111 = .ok (.iconst 0, 1) := by decide +kernel
theorem d_M_receive_112 : decode b_M_receive 112 = .ok (.iconst 3, 1) := by decide +kernel
theorem d_M_receive_113 : decode b_M_receive 113 = .ok (.invokevirtual 536, 3) := by decide +kernel
theorem d_M_receive_116 : decode b_M_receive 116 = .ok (.aload_n 0, 1) := by decide +kernel
theorem d_M_receive_117 : decode b_M_receive 117 = .ok (.iconst 0, 1) := by decide +kernel
theorem d_M_receive_118 : decode b_M_receive 118 = .ok (.iconst 3, 1) := by decide +kernel
theorem d_M_receive_119 : decode b_M_receive 119 = .ok (.invokevirtual 539, 3) := by decide +kernel
theorem d_M_receive_122 : decode b_M_receive 122 = .ok (.bipush 6, 2) := by decide +kernel
theorem d_M_receive_124 : decode b_M_receive 124 = .ok (.invokevirtual 487, 3) := by decide +kernel
theorem d_M_receive_127 : decode b_M_receive 127 = .ok (.pop, 1) := by decide +kernel
theorem d_M_receive_128 : decode b_M_receive 128 = .ok (.aload_n 0, 1) := by decide +kernel
theorem d_M_receive_129 : decode b_M_receive 129 = .ok (.bipush 6, 2) := by decide +kernel
theorem d_M_receive_131 : decode b_M_receive 131 = .ok (.iconst 0, 1) := by decide +kernel
theorem d_M_receive_132 : decode b_M_receive 132 = .ok (.invokevirtual 665, 3) := by decide +kernel
theorem d_M_receive_135 : decode b_M_receive 135 = .ok (.aload_n 0, 1) := by decide +kernel
theorem d_M_receive_136 : decode b_M_receive 136 = .ok (.getfield 293, 3) := by decide +kernel
theorem d_M_receive_139 : decode b_M_receive 139 = .ok (.iload_n 1, 1) := by decide +kernel
theorem d_M_receive_140 : decode b_M_receive 140 = .ok (.iaload, 1) := by decide +kernel
theorem d_M_receive_141 : decode b_M_receive 141 = .ok (.i2l, 1) := by decide +kernel
theorem d_M_receive_142 : decode b_M_receive 142 = .ok (.lcmp, 1) := by decide +kernel
theorem d_M_receive_143 : decode b_M_receive 143 = .ok (.ifCond .eq 6, 3) := by decide +kernel
theorem d_M_receive_146 : decode b_M_receive 146 = .ok (.bipush (-31), 2) := by decide +kernel
theorem d_M_receive_148 : decode b_M_receive 148 = .ok (.ireturn, 1) := by decide +kernel
theorem d_M_receive_149 : decode b_M_receive 149 = .ok (.aload_n 0, 1) := by decide +kernel
theorem d_M_receive_150 : decode b_M_receive 150 = .ok (.aload_n 0, 1) := by decide +kernel
theorem d_M_receive_151 : decode b_M_receive 151 = .ok (.bipush 6, 2) := by decide +kernel
theorem d_M_receive_153 : decode b_M_receive 153 = .ok (.iconst 2, 1) := by decide +kernel
theorem d_M_receive_154 : decode b_M_receive 154 = .ok (.invokevirtual 536, 3) := by decide +kernel
theorem d_M_receive_157 : decode b_M_receive 157 = .ok (.aload_n 0, 1) := by decide +kernel
theorem d_M_receive_158 : decode b_M_receive 158 = .ok (.bipush 6, 2) := by decide +kernel
theorem d_M_receive_160 : decode b_M_receive 160 = .ok (.iconst 2, 1) := by decide +kernel
theorem d_M_receive_161 : decode b_M_receive 161 = .ok (.invokevirtual 539, 3) := by decide +kernel
theorem d_M_receive_164 : decode b_M_receive 164 = .ok (.iconst 4, 1) := by decide +kernel
theorem d_M_receive_165 : decode b_M_receive 165 = .ok (.invokevirtual 476, 3) := by decide +kernel
theorem d_M_receive_168 : decode b_M_receive 168 = .ok (.pop, 1) := by decide +kernel
theorem d_M_receive_169 : decode b_M_receive 169 = .ok (.aload_n 0, 1) := by decide +kernel
theorem d_M_receive_170 : decode b_M_receive 170 = .ok (.aload_n 0, 1) := by decide +kernel
theorem d_M_receive_171 : decode b_M_receive 171 = .ok (.getfield 137, 3) := by decide +kernel
theorem d_M_receive_174 : decode b_M_receive 174 = .ok (.aload_n 0, 1) := by decide +kernel
theorem d_M_receive_175 : decode b_M_receive 175 = .ok (.getfield 293, 3) := by decide +kernel
theorem d_M_receive_178 : decode b_M_receive 178 = .ok (.iload_n 1, 1) := by decide +kernel
theorem d_M_receive_179 : decode b_M_receive 179 = .ok (.iaload, 1) := by decide +kernel
theorem d_M_receive_180 : decode b_M_receive 180 = .ok (.bipush 13, 2) := by decide +kernel
theorem d_M_receive_182 : decode b_M_receive 182 = .ok (.aload_n 0, 1) := by decide +kernel
theorem d_M_receive_183 : decode b_M_receive 183 = .ok (.getfield 470, 3) := by decide +kernel
theorem d_M_receive_186 : decode b_M_receive 186 = .ok (.aload_n 0, 1) := by decide +kernel
theorem d_M_receive_187 : decode b_M_receive 187 = .ok (.getfield 473, 3) := by decide +kernel
theorem d_M_receive_190 : decode b_M_receive 190 = .ok (.sipush 4200, 3) := by decide +kernel
theorem d_M_receive_193 : decode b_M_receive 193 = .ok (.invokevirtual 765, 3) := by decide +kernel
theorem d_M_receive_196 : decode b_M_receive 196 = .ok (.istore 4, 2) := by decide +kernel
theorem d_M_receive_198 : decode b_M_receive 198 = .ok (.iload 4, 2) := by decide +kernel
theorem d_M_receive_200 : decode b_M_receive 200 = .ok (.ifCond .ge 6, 3) := by decide +kernel
theorem d_M_receive_203 : decode b_M_receive 203 = .ok (.bipush (-31), 2) := by decide +kernel
theorem d_M_receive_205 : decode b_M_receive 205 = .ok (.ireturn, 1) := by decide +kernel
theorem d_M_receive_206 : decode b_M_receive 206 = .ok (.aload_n 0, 1) := by decide +kernel
theorem d_M_receive_207 : decode b_M_receive 207 = .ok (.bipush 28, 2) := by decide +kernel
theorem d_M_receive_209 : decode b_M_receive 209 = .ok (.ldc_w 528, 3) := by decide +kernel
theorem d_M_receive_212 : decode b_M_receive 212 = .ok (.sipush 4200, 3) := by decide +kernel
theorem d_M_receive_215 : decode b_M_receive 215 = .ok (.sipush 4200, 3) := by decide +kernel
theorem d_M_receive_218 : decode b_M_receive 218 = .ok (.iload 4, 2) := by decide +kernel
theorem d_M_receive_220 : decode b_M_receive 220 = .ok (.iadd, 1) := by decide +kernel
theorem d_M_receive_221 : decode b_M_receive 221 = .ok (.iconst 4, 1) := by decide +kernel
theorem d_M_receive_222 : decode b_M_receive 222 = .ok (.invokevirtual 522, 3) := by decide +kernel
theorem d_M_receive_225 : decode b_M_receive 225 = .ok (.ifCond .ne 6, 3) := by decide +kernel
theorem d_M_receive_228 : decode b_M_receive 228 = .ok (.bipush (-60), 2) := by decide +kernel
theorem d_M_receive_230 : decode b_M_receive 230 = .ok (.ireturn, 1) := by decide +kernel
theorem d_M_receive_231 : decode b_M_receive 231 = .ok (.aload_n 0, 1) := by decide +kernel
theorem d_M_receive_232 : decode b_M_receive 232 = .ok (.iload_n 1, 1) := by decide +kernel
theorem d_M_receive_233 : decode b_M_receive 233 = .ok (.iload_n 2, 1) := by decide +kernel
theorem d_M_receive_234 : decode b_M_receive 234 = .ok (.invokevirtual 1000, 3) := by decide +kernel
theorem d_M_receive_237 : decode b_M_receive 237 = .ok (.ireturn, 1) := by decide +kernel
