/-! Hash: what stands on compress. -/
abbrev b_Ha_pad : ByteArray := prog_7_method_3_code
def y_Ha_pad : MethodName := ⟨R_Ha, "pad", "([BIII)V"⟩
abbrev k_Ha_pad : Cond := .code y_Ha_pad b_Ha_pad 7 none
theorem ki_Ha_pad : k_Ha_pad ∈ lw_tg := in_t 591 (by decide +kernel)
theorem ks_Ha_pad : Cond.instanceMethod y_Ha_pad ∈ lw_tg := in_t 590 (by decide +kernel)
theorem kx_Ha_pad : Cond.selects R_Ha y_Ha_pad y_Ha_pad ∈ lw_tg := List.mem_filter.mpr ⟨List.mem_append_left _ (List.mem_of_getElem? (i := 0) (by decide +kernel)), rfl⟩
theorem kl_Ha_Ha_pad : Cond.methodLink R_Ha 29 y_Ha_pad ∈ lw_tg := in_t 588 (by decide +kernel)
theorem hd_Ha_pad : y_Ha_pad.cls = R_Ha ∧ y_Ha_pad.cls ≠ "java/lang/invoke/MethodHandle" ∧ y_Ha_pad.cls ≠ "java/lang/invoke/VarHandle" ∧ (parseMethodDescriptor y_Ha_pad.desc).map (fun d => d.parameters.length) = some 4 := by decide +kernel
theorem d_Ha_pad_0 : decode b_Ha_pad 0 = .ok (.iconst 0, 1) := by decide +kernel
theorem d_Ha_pad_1 : decode b_Ha_pad 1 = .ok (.istore 5, 2) := by decide +kernel
theorem d_Ha_pad_3 : decode b_Ha_pad 3 = .ok (.iload 5, 2) := by decide +kernel
theorem d_Ha_pad_5 : decode b_Ha_pad 5 = .ok (.bipush 64, 2) := by decide +kernel
theorem d_Ha_pad_7 : decode b_Ha_pad 7 = .ok (.if_icmp .ge 62, 3) := by decide +kernel
theorem d_Ha_pad_10 : decode b_Ha_pad 10 = .ok (.iload 5, 2) := by decide +kernel
theorem d_Ha_pad_12 : decode b_Ha_pad 12 = .ok (.iload_n 3, 1) := by decide +kernel
theorem d_Ha_pad_13 : decode b_Ha_pad 13 = .ok (.if_icmp .ge 20, 3) := by decide +kernel
theorem d_Ha_pad_16 : decode b_Ha_pad 16 = .ok (.iload_n 2, 1) := by decide +kernel
theorem d_Ha_pad_17 : decode b_Ha_pad 17 = .ok (.ifCond .lt 16, 3) := by decide +kernel
theorem d_Ha_pad_20 : decode b_Ha_pad 20 = .ok (.iload_n 2, 1) := by decide +kernel
theorem d_Ha_pad_21 : decode b_Ha_pad 21 = .ok (.iload 5, 2) := by decide +kernel
theorem d_Ha_pad_23 : decode b_Ha_pad 23 = .ok (.iadd, 1) := by decide +kernel
theorem d_Ha_pad_24 : decode b_Ha_pad 24 = .ok (.aload_n 1, 1) := by decide +kernel
theorem d_Ha_pad_25 : decode b_Ha_pad 25 = .ok (.arraylength, 1) := by decide +kernel
theorem d_Ha_pad_26 : decode b_Ha_pad 26 = .ok (.if_icmp .ge 7, 3) := by decide +kernel
theorem d_Ha_pad_29 : decode b_Ha_pad 29 = .ok (.iconst 1, 1) := by decide +kernel
theorem d_Ha_pad_30 : decode b_Ha_pad 30 = .ok (.goto 4, 3) := by decide +kernel
theorem d_Ha_pad_33 : decode b_Ha_pad 33 = .ok (.iconst 0, 1) := by decide +kernel
theorem d_Ha_pad_34 : decode b_Ha_pad 34 = .ok (.istore 6, 2) := by decide +kernel
theorem d_Ha_pad_36 : decode b_Ha_pad 36 = .ok (.aload_n 0, 1) := by decide +kernel
theorem d_Ha_pad_37 : decode b_Ha_pad 37 = .ok (.getfield 13, 3) := by decide +kernel
theorem d_Ha_pad_40 : decode b_Ha_pad 40 = .ok (.iload 5, 2) := by decide +kernel
theorem d_Ha_pad_42 : decode b_Ha_pad 42 = .ok (.iload 6, 2) := by decide +kernel
theorem d_Ha_pad_44 : decode b_Ha_pad 44 = .ok (.ifCond .eq 15, 3) := by decide +kernel
theorem d_Ha_pad_47 : decode b_Ha_pad 47 = .ok (.aload_n 1, 1) := by decide +kernel
theorem d_Ha_pad_48 : decode b_Ha_pad 48 = .ok (.iload_n 2, 1) := by decide +kernel
theorem d_Ha_pad_49 : decode b_Ha_pad 49 = .ok (.iload 5, 2) := by decide +kernel
theorem d_Ha_pad_51 : decode b_Ha_pad 51 = .ok (.iadd, 1) := by decide +kernel
theorem d_Ha_pad_52 : decode b_Ha_pad 52 = .ok (.baload, 1) := by decide +kernel
theorem d_Ha_pad_53 : decode b_Ha_pad 53 = .ok (.iload 4, 2) := by decide +kernel
theorem d_Ha_pad_55 : decode b_Ha_pad 55 = .ok (.ixor, 1) := by decide +kernel
theorem d_Ha_pad_56 : decode b_Ha_pad 56 = .ok (.goto 5, 3) := by decide +kernel
theorem d_Ha_pad_59 : decode b_Ha_pad 59 = .ok (.iload 4, 2) := by decide +kernel
theorem d_Ha_pad_61 : decode b_Ha_pad 61 = .ok (.i2b, 1) := by decide +kernel
theorem d_Ha_pad_62 : decode b_Ha_pad 62 = .ok (.bastore, 1) := by decide +kernel
theorem d_Ha_pad_63 : decode b_Ha_pad 63 = .ok (.iinc 5 1, 3) := by decide +kernel
theorem d_Ha_pad_66 : decode b_Ha_pad 66 = .ok (.goto (-63), 3) := by decide +kernel
theorem d_Ha_pad_69 : decode b_Ha_pad 69 = .ok (.aload_n 0, 1) := by decide +kernel
theorem d_Ha_pad_70 : decode b_Ha_pad 70 = .ok (.getfield 17, 3) := by decide +kernel
theorem d_Ha_pad_73 : decode b_Ha_pad 73 = .ok (.iconst 0, 1) := by decide +kernel
theorem d_Ha_pad_74 : decode b_Ha_pad 74 = .ok (.ldc 39, 2) := by decide +kernel
theorem cn_Ha_39 : Cond.constant R_Ha 39 (1732584193) ∈ lw_tg := in_t 592 (by decide +kernel)
theorem d_Ha_pad_76 : decode b_Ha_pad 76 = .ok (.iastore, 1) := by decide +kernel
theorem d_Ha_pad_77 : decode b_Ha_pad 77 = .ok (.aload_n 0, 1) := by decide +kernel
theorem d_Ha_pad_78 : decode b_Ha_pad 78 = .ok (.getfield 17, 3) := by decide +kernel
theorem d_Ha_pad_81 : decode b_Ha_pad 81 = .ok (.iconst 1, 1) := by decide +kernel
theorem d_Ha_pad_82 : decode b_Ha_pad 82 = .ok (.ldc 40, 2) := by decide +kernel
theorem cn_Ha_40 : Cond.constant R_Ha 40 (-271733879) ∈ lw_tg := in_t 593 (by decide +kernel)
theorem d_Ha_pad_84 : decode b_Ha_pad 84 = .ok (.iastore, 1) := by decide +kernel
theorem d_Ha_pad_85 : decode b_Ha_pad 85 = .ok (.aload_n 0, 1) := by decide +kernel
theorem d_Ha_pad_86 : decode b_Ha_pad 86 = .ok (.getfield 17, 3) := by decide +kernel
theorem d_Ha_pad_89 : decode b_Ha_pad 89 = .ok (.iconst 2, 1) := by decide +kernel
theorem d_Ha_pad_90 : decode b_Ha_pad 90 = .ok (.ldc 41, 2) := by decide +kernel
theorem cn_Ha_41 : Cond.constant R_Ha 41 (-1732584194) ∈ lw_tg := in_t 594 (by decide +kernel)
theorem d_Ha_pad_92 : decode b_Ha_pad 92 = .ok (.iastore, 1) := by decide +kernel
theorem d_Ha_pad_93 : decode b_Ha_pad 93 = .ok (.aload_n 0, 1) := by decide +kernel
theorem d_Ha_pad_94 : decode b_Ha_pad 94 = .ok (.getfield 17, 3) := by decide +kernel
theorem d_Ha_pad_97 : decode b_Ha_pad 97 = .ok (.iconst 3, 1) := by decide +kernel
theorem d_Ha_pad_98 : decode b_Ha_pad 98 = .ok (.ldc 42, 2) := by decide +kernel
theorem cn_Ha_42 : Cond.constant R_Ha 42 (271733878) ∈ lw_tg := in_t 595 (by decide +kernel)
theorem d_Ha_pad_100 : decode b_Ha_pad 100 = .ok (.iastore, 1) := by decide +kernel
theorem d_Ha_pad_101 : decode b_Ha_pad 101 = .ok (.aload_n 0, 1) := by decide +kernel
theorem d_Ha_pad_102 : decode b_Ha_pad 102 = .ok (.getfield 17, 3) := by decide +kernel
theorem d_Ha_pad_105 : decode b_Ha_pad 105 = .ok (.iconst 4, 1) := by decide +kernel
theorem d_Ha_pad_106 : decode b_Ha_pad 106 = .ok (.ldc 43, 2) := by decide +kernel
theorem cn_Ha_43 : Cond.constant R_Ha 43 (-1009589776) ∈ lw_tg := in_t 596 (by decide +kernel)
theorem d_Ha_pad_108 : decode b_Ha_pad 108 = .ok (.iastore, 1) := by decide +kernel
theorem d_Ha_pad_109 : decode b_Ha_pad 109 = .ok (.aload_n 0, 1) := by decide +kernel
theorem d_Ha_pad_110 : decode b_Ha_pad 110 = .ok (.invokevirtual 44, 3) := by decide +kernel
theorem d_Ha_pad_113 : decode b_Ha_pad 113 = .ok (.return_, 1) := by decide +kernel
abbrev b_Ha_begin : ByteArray := prog_7_method_4_code
def y_Ha_begin : MethodName := ⟨R_Ha, "begin", "()V"⟩
abbrev k_Ha_begin : Cond := .code y_Ha_begin b_Ha_begin 1 none
theorem ki_Ha_begin : k_Ha_begin ∈ lw_tg := in_t 617 (by decide +kernel)
theorem ks_Ha_begin : Cond.instanceMethod y_Ha_begin ∈ lw_tg := in_t 615 (by decide +kernel)
theorem kx_Ha_begin : Cond.selects R_Ha y_Ha_begin y_Ha_begin ∈ lw_tg := in_t 616 (by decide +kernel)
theorem kl_Va_Ha_begin : Cond.methodLink R_Va 116 y_Ha_begin ∈ lw_tg := in_t 614 (by decide +kernel)
theorem hd_Ha_begin : y_Ha_begin.cls = R_Ha ∧ y_Ha_begin.cls ≠ "java/lang/invoke/MethodHandle" ∧ y_Ha_begin.cls ≠ "java/lang/invoke/VarHandle" ∧ (parseMethodDescriptor y_Ha_begin.desc).map (fun d => d.parameters.length) = some 0 := by decide +kernel
theorem d_Ha_begin_0 : decode b_Ha_begin 0 = .ok (.aload_n 0, 1) := by decide +kernel
theorem d_Ha_begin_1 : decode b_Ha_begin 1 = .ok (.getfield 20, 3) := by decide +kernel
theorem lk_Ha_20 : Cond.fieldLink R_Ha 20 R_Ha (F_Ha 3).2.1 (F_Ha 3).2.2.1 ∈ lw_tg := in_t 73 (by decide +kernel)
theorem d_Ha_begin_4 : decode b_Ha_begin 4 = .ok (.iconst 0, 1) := by decide +kernel
theorem d_Ha_begin_5 : decode b_Ha_begin 5 = .ok (.aload_n 0, 1) := by decide +kernel
theorem d_Ha_begin_6 : decode b_Ha_begin 6 = .ok (.getfield 17, 3) := by decide +kernel
theorem d_Ha_begin_9 : decode b_Ha_begin 9 = .ok (.iconst 0, 1) := by decide +kernel
theorem d_Ha_begin_10 : decode b_Ha_begin 10 = .ok (.iconst 5, 1) := by decide +kernel
theorem d_Ha_begin_11 : decode b_Ha_begin 11 = .ok (.invokestatic 33, 3) := by decide +kernel
theorem d_Ha_begin_14 : decode b_Ha_begin 14 = .ok (.aload_n 0, 1) := by decide +kernel
theorem d_Ha_begin_15 : decode b_Ha_begin 15 = .ok (.iconst 0, 1) := by decide +kernel
theorem d_Ha_begin_16 : decode b_Ha_begin 16 = .ok (.putfield 47, 3) := by decide +kernel
theorem lk_Ha_47 : Cond.fieldLink R_Ha 47 R_Ha (F_Ha 5).2.1 (F_Ha 5).2.2.1 ∈ lw_tg := in_t 75 (by decide +kernel)
theorem d_Ha_begin_19 : decode b_Ha_begin 19 = .ok (.aload_n 0, 1) := by decide +kernel
theorem d_Ha_begin_20 : decode b_Ha_begin 20 = .ok (.bipush 64, 2) := by decide +kernel
theorem d_Ha_begin_22 : decode b_Ha_begin 22 = .ok (.putfield 51, 3) := by decide +kernel
theorem lk_Ha_51 : Cond.fieldLink R_Ha 51 R_Ha (F_Ha 6).2.1 (F_Ha 6).2.2.1 ∈ lw_tg := in_t 76 (by decide +kernel)
theorem d_Ha_begin_25 : decode b_Ha_begin 25 = .ok (.return_, 1) := by decide +kernel
abbrev b_Ha_close : ByteArray := prog_7_method_7_code
def y_Ha_close : MethodName := ⟨R_Ha, "close", "()V"⟩
abbrev k_Ha_close : Cond := .code y_Ha_close b_Ha_close 3 none
theorem ki_Ha_close : k_Ha_close ∈ lw_tg := in_t 629 (by decide +kernel)
theorem ks_Ha_close : Cond.instanceMethod y_Ha_close ∈ lw_tg := in_t 628 (by decide +kernel)
theorem kx_Ha_close : Cond.selects R_Ha y_Ha_close y_Ha_close ∈ lw_tg := List.mem_filter.mpr ⟨List.mem_append_left _ (List.mem_of_getElem? (i := 3) (by decide +kernel)), rfl⟩
theorem kl_Ha_Ha_close : Cond.methodLink R_Ha 54 y_Ha_close ∈ lw_tg := in_t 626 (by decide +kernel)
theorem hd_Ha_close : y_Ha_close.cls = R_Ha ∧ y_Ha_close.cls ≠ "java/lang/invoke/MethodHandle" ∧ y_Ha_close.cls ≠ "java/lang/invoke/VarHandle" ∧ (parseMethodDescriptor y_Ha_close.desc).map (fun d => d.parameters.length) = some 0 := by decide +kernel
theorem d_Ha_close_0 : decode b_Ha_close 0 = .ok (.aload_n 0, 1) := by decide +kernel
theorem d_Ha_close_1 : decode b_Ha_close 1 = .ok (.getfield 13, 3) := by decide +kernel
theorem d_Ha_close_4 : decode b_Ha_close 4 = .ok (.aload_n 0, 1) := by decide +kernel
theorem d_Ha_close_5 : decode b_Ha_close 5 = .ok (.getfield 47, 3) := by decide +kernel
theorem d_Ha_close_8 : decode b_Ha_close 8 = .ok (.bipush (-128), 2) := by decide +kernel
theorem d_Ha_close_10 : decode b_Ha_close 10 = .ok (.bastore, 1) := by decide +kernel
theorem d_Ha_close_11 : decode b_Ha_close 11 = .ok (.aload_n 0, 1) := by decide +kernel
theorem d_Ha_close_12 : decode b_Ha_close 12 = .ok (.getfield 47, 3) := by decide +kernel
theorem d_Ha_close_15 : decode b_Ha_close 15 = .ok (.iconst 1, 1) := by decide +kernel
theorem d_Ha_close_16 : decode b_Ha_close 16 = .ok (.iadd, 1) := by decide +kernel
theorem d_Ha_close_17 : decode b_Ha_close 17 = .ok (.istore_n 1, 1) := by decide +kernel
theorem d_Ha_close_18 : decode b_Ha_close 18 = .ok (.iload_n 1, 1) := by decide +kernel
theorem d_Ha_close_19 : decode b_Ha_close 19 = .ok (.bipush 64, 2) := by decide +kernel
theorem d_Ha_close_21 : decode b_Ha_close 21 = .ok (.if_icmp .ge 16, 3) := by decide +kernel
theorem d_Ha_close_24 : decode b_Ha_close 24 = .ok (.aload_n 0, 1) := by decide +kernel
theorem d_Ha_close_25 : decode b_Ha_close 25 = .ok (.getfield 13, 3) := by decide +kernel
theorem d_Ha_close_28 : decode b_Ha_close 28 = .ok (.iload_n 1, 1) := by decide +kernel
theorem d_Ha_close_29 : decode b_Ha_close 29 = .ok (.iconst 0, 1) := by decide +kernel
theorem d_Ha_close_30 : decode b_Ha_close 30 = .ok (.bastore, 1) := by decide +kernel
theorem d_Ha_close_31 : decode b_Ha_close 31 = .ok (.iinc 1 1, 3) := by decide +kernel
theorem d_Ha_close_34 : decode b_Ha_close 34 = .ok (.goto (-16), 3) := by decide +kernel
theorem d_Ha_close_37 : decode b_Ha_close 37 = .ok (.aload_n 0, 1) := by decide +kernel
theorem d_Ha_close_38 : decode b_Ha_close 38 = .ok (.getfield 47, 3) := by decide +kernel
theorem d_Ha_close_41 : decode b_Ha_close 41 = .ok (.bipush 56, 2) := by decide +kernel
theorem d_Ha_close_43 : decode b_Ha_close 43 = .ok (.if_icmp .lt 28, 3) := by decide +kernel
theorem d_Ha_close_46 : decode b_Ha_close 46 = .ok (.aload_n 0, 1) := by decide +kernel
theorem d_Ha_close_47 : decode b_Ha_close 47 = .ok (.invokevirtual 44, 3) := by decide +kernel
theorem d_Ha_close_50 : decode b_Ha_close 50 = .ok (.iconst 0, 1) := by decide +kernel
theorem d_Ha_close_51 : decode b_Ha_close 51 = .ok (.istore_n 1, 1) := by decide +kernel
theorem d_Ha_close_52 : decode b_Ha_close 52 = .ok (.iload_n 1, 1) := by decide +kernel
theorem d_Ha_close_53 : decode b_Ha_close 53 = .ok (.bipush 64, 2) := by decide +kernel
theorem d_Ha_close_55 : decode b_Ha_close 55 = .ok (.if_icmp .ge 16, 3) := by decide +kernel
theorem d_Ha_close_58 : decode b_Ha_close 58 = .ok (.aload_n 0, 1) := by decide +kernel
theorem d_Ha_close_59 : decode b_Ha_close 59 = .ok (.getfield 13, 3) := by decide +kernel
theorem d_Ha_close_62 : decode b_Ha_close 62 = .ok (.iload_n 1, 1) := by decide +kernel
theorem d_Ha_close_63 : decode b_Ha_close 63 = .ok (.iconst 0, 1) := by decide +kernel
theorem d_Ha_close_64 : decode b_Ha_close 64 = .ok (.bastore, 1) := by decide +kernel
theorem d_Ha_close_65 : decode b_Ha_close 65 = .ok (.iinc 1 1, 3) := by decide +kernel
theorem d_Ha_close_68 : decode b_Ha_close 68 = .ok (.goto (-16), 3) := by decide +kernel
theorem d_Ha_close_71 : decode b_Ha_close 71 = .ok (.aload_n 0, 1) := by decide +kernel
theorem d_Ha_close_72 : decode b_Ha_close 72 = .ok (.getfield 51, 3) := by decide +kernel
theorem d_Ha_close_75 : decode b_Ha_close 75 = .ok (.bipush 8, 2) := by decide +kernel
theorem d_Ha_close_77 : decode b_Ha_close 77 = .ok (.imul, 1) := by decide +kernel
theorem d_Ha_close_78 : decode b_Ha_close 78 = .ok (.istore_n 1, 1) := by decide +kernel
theorem d_Ha_close_79 : decode b_Ha_close 79 = .ok (.iconst 0, 1) := by decide +kernel
theorem d_Ha_close_80 : decode b_Ha_close 80 = .ok (.istore_n 2, 1) := by decide +kernel
theorem d_Ha_close_81 : decode b_Ha_close 81 = .ok (.iload_n 2, 1) := by decide +kernel
theorem d_Ha_close_82 : decode b_Ha_close 82 = .ok (.iconst 4, 1) := by decide +kernel
theorem d_Ha_close_83 : decode b_Ha_close 83 = .ok (.if_icmp .ge 25, 3) := by decide +kernel
theorem d_Ha_close_86 : decode b_Ha_close 86 = .ok (.aload_n 0, 1) := by decide +kernel
theorem d_Ha_close_87 : decode b_Ha_close 87 = .ok (.getfield 13, 3) := by decide +kernel
theorem d_Ha_close_90 : decode b_Ha_close 90 = .ok (.bipush 63, 2) := by decide +kernel
theorem d_Ha_close_92 : decode b_Ha_close 92 = .ok (.iload_n 2, 1) := by decide +kernel
theorem d_Ha_close_93 : decode b_Ha_close 93 = .ok (.isub, 1) := by decide +kernel
theorem d_Ha_close_94 : decode b_Ha_close 94 = .ok (.iload_n 1, 1) := by decide +kernel
theorem d_Ha_close_95 : decode b_Ha_close 95 = .ok (.bipush 8, 2) := by decide +kernel
theorem d_Ha_close_97 : decode b_Ha_close 97 = .ok (.iload_n 2, 1) := by decide +kernel
theorem d_Ha_close_98 : decode b_Ha_close 98 = .ok (.imul, 1) := by decide +kernel
theorem d_Ha_close_99 : decode b_Ha_close 99 = .ok (.ishr, 1) := by decide +kernel
theorem d_Ha_close_100 : decode b_Ha_close 100 = .ok (.i2b, 1) := by decide +kernel
theorem d_Ha_close_101 : decode b_Ha_close 101 = .ok (.bastore, 1) := by decide +kernel
theorem d_Ha_close_102 : decode b_Ha_close 102 = .ok (.iinc 2 1, 3) := by decide +kernel
theorem d_Ha_close_105 : decode b_Ha_close 105 = .ok (.goto (-24), 3) := by decide +kernel
theorem d_Ha_close_108 : decode b_Ha_close 108 = .ok (.aload_n 0, 1) := by decide +kernel
theorem d_Ha_close_109 : decode b_Ha_close 109 = .ok (.invokevirtual 44, 3) := by decide +kernel
theorem d_Ha_close_112 : decode b_Ha_close 112 = .ok (.iconst 0, 1) := by decide +kernel
theorem d_Ha_close_113 : decode b_Ha_close 113 = .ok (.istore_n 2, 1) := by decide +kernel
theorem d_Ha_close_114 : decode b_Ha_close 114 = .ok (.iload_n 2, 1) := by decide +kernel
theorem d_Ha_close_115 : decode b_Ha_close 115 = .ok (.bipush 20, 2) := by decide +kernel
theorem d_Ha_close_117 : decode b_Ha_close 117 = .ok (.if_icmp .ge 34, 3) := by decide +kernel
theorem d_Ha_close_120 : decode b_Ha_close 120 = .ok (.aload_n 0, 1) := by decide +kernel
theorem d_Ha_close_121 : decode b_Ha_close 121 = .ok (.getfield 26, 3) := by decide +kernel
theorem lk_Ha_26 : Cond.fieldLink R_Ha 26 R_Ha (F_Ha 7).2.1 (F_Ha 7).2.2.1 ∈ lw_tg := in_t 77 (by decide +kernel)
theorem d_Ha_close_124 : decode b_Ha_close 124 = .ok (.iload_n 2, 1) := by decide +kernel
theorem d_Ha_close_125 : decode b_Ha_close 125 = .ok (.aload_n 0, 1) := by decide +kernel
theorem d_Ha_close_126 : decode b_Ha_close 126 = .ok (.getfield 17, 3) := by decide +kernel
theorem d_Ha_close_129 : decode b_Ha_close 129 = .ok (.iload_n 2, 1) := by decide +kernel
theorem d_Ha_close_130 : decode b_Ha_close 130 = .ok (.iconst 4, 1) := by decide +kernel
theorem d_Ha_close_131 : decode b_Ha_close 131 = .ok (.idiv, 1) := by decide +kernel
theorem d_Ha_close_132 : decode b_Ha_close 132 = .ok (.iaload, 1) := by decide +kernel
theorem d_Ha_close_133 : decode b_Ha_close 133 = .ok (.bipush 24, 2) := by decide +kernel
theorem d_Ha_close_135 : decode b_Ha_close 135 = .ok (.iload_n 2, 1) := by decide +kernel
theorem d_Ha_close_136 : decode b_Ha_close 136 = .ok (.iconst 4, 1) := by decide +kernel
theorem d_Ha_close_137 : decode b_Ha_close 137 = .ok (.irem, 1) := by decide +kernel
theorem d_Ha_close_138 : decode b_Ha_close 138 = .ok (.bipush 8, 2) := by decide +kernel
theorem d_Ha_close_140 : decode b_Ha_close 140 = .ok (.imul, 1) := by decide +kernel
theorem d_Ha_close_141 : decode b_Ha_close 141 = .ok (.isub, 1) := by decide +kernel
theorem d_Ha_close_142 : decode b_Ha_close 142 = .ok (.ishr, 1) := by decide +kernel
theorem d_Ha_close_143 : decode b_Ha_close 143 = .ok (.i2b, 1) := by decide +kernel
theorem d_Ha_close_144 : decode b_Ha_close 144 = .ok (.bastore, 1) := by decide +kernel
theorem d_Ha_close_145 : decode b_Ha_close 145 = .ok (.iinc 2 1, 3) := by decide +kernel
theorem d_Ha_close_148 : decode b_Ha_close 148 = .ok (.goto (-34), 3) := by decide +kernel
theorem d_Ha_close_151 : decode b_Ha_close 151 = .ok (.return_, 1) := by decide +kernel
set_option maxHeartbeats 4000000 in
set_option maxRecDepth 100000 in
theorem c_Ha_begin (l : Launch) (D : va_G) (E : cE) (L : List Nat) (f : pF) (sz : Nat) (o wd bl sta inn out mac fl : Nat) (tot : Int32) (g_wd g_bl g_sta g_inn g_out g_mac : Nat → Int32) (m_o : o ∈ L) (m_wd : wd ∈ L) (m_bl : bl ∈ L) (m_sta : sta ∈ L) (m_inn : inn ∈ L) (m_out : out ∈ L) (m_mac : mac ∈ L) (e_o : f o = .inr (6, [.ref wd, .ref bl, .ref sta, .ref inn, .ref out, .int (nI fl), .int tot, .ref mac])) (e_wd : f wd = .inl (E.2.1, 80, .inl g_wd)) (e_bl : f bl = .inl (E.1, 64, .inl g_bl)) (e_sta : f sta = .inl (E.2.1, 5, .inl g_sta)) (e_inn : f inn = .inl (E.2.1, 5, .inl g_inn)) (e_out : f out = .inl (E.2.1, 5, .inl g_out)) (e_mac : f mac = .inl (E.1, 20, .inl g_mac)) (f_bl : fB g_bl) (f_mac : fB g_mac) (ap_wd_bl : wd ≠ bl) (ap_wd_sta : wd ≠ sta) (ap_wd_inn : wd ≠ inn) (ap_wd_out : wd ≠ out) (ap_wd_mac : wd ≠ mac) (ap_bl_sta : bl ≠ sta) (ap_bl_inn : bl ≠ inn) (ap_bl_out : bl ≠ out) (ap_bl_mac : bl ≠ mac) (ap_sta_inn : sta ≠ inn) (ap_sta_out : sta ≠ out) (ap_sta_mac : sta ≠ mac) (ap_inn_out : inn ≠ out) (ap_inn_mac : inn ≠ mac) (ap_out_mac : out ≠ mac) : Met l y_Ha_begin (k_Ha_begin :: lw_tg) (mR 1 60) (va_Pc [.ref o] (cPre D E L f sz)) (va_Qv (fun (u : cU) => u.1 = L ∧ (∀ x, x ≠ o → x ≠ sta → u.2 x = f x) ∧ ∃ (fl2 : Nat) (tot2 : Int32) (g2_sta : Nat → Int32), fl2 = 0 ∧ u.2 o = .inr (6, [.ref wd, .ref bl, .ref sta, .ref inn, .ref out, .int (nI fl2), .int tot2, .ref mac]) ∧ u.2 sta = .inl (E.2.1, 5, .inl g2_sta)) (cPost D E (pA L sz)) (pA L sz)) 0 0 (pA L sz) := by
  refine c_enter (own := R_Ha) (by decide) rfl (Nat.le_of_ble_eq_true rfl) ⟨rfl, rfl⟩ (fun p e s m below meth c ls AV QQ H locs hQQ X Y hA hin hr hlk hml hl => ?_)
  have hl : lv_has ls 1 [(0, .ref o)] := hl
  refine lv_aload_n X.1 X.2.1 d_Ha_begin_0 rfl (lv_at hl 0 rfl) ?_
  refine q_get X.1 X.2.1 X.2.2.1 i_Ha X.2.2.2.1 X.2.2.2.2 Y m_o e_o rfl 3 (by decide) (X.2.2.1 _ lk_Ha_20) (fun _ h9 => h9) rfl d_Ha_begin_1 ?_
  refine lv_iconst (v := (nI 0)) X.1 X.2.1 d_Ha_begin_4 (by decide) ?_
  refine lv_aload_n X.1 X.2.1 d_Ha_begin_5 rfl (lv_at hl 0 rfl) ?_
  refine q_get X.1 X.2.1 X.2.2.1 i_Ha X.2.2.2.1 X.2.2.2.2 Y m_o e_o rfl 2 (by decide) (X.2.2.1 _ lk_Ha_17) (fun _ h9 => h9) rfl d_Ha_begin_6 ?_
  refine lv_iconst (v := (nI 0)) X.1 X.2.1 d_Ha_begin_9 (by decide) ?_
  refine lv_iconst (v := (nI 5)) X.1 X.2.1 d_Ha_begin_10 (by decide) ?_
  refine q_copy X.1 X.2.1 (hml.trans hl.1.symm) X.2.2.2.1 (X.2.2.1 _ kl_Ha_copy) (X.2.2.1 _ kn_copy) (X.2.2.1 _ ks_copy) (X.2.2.1 _ ini_Sys) X.2.2.2.2 Y 1 m_inn e_inn m_sta e_sta rfl rfl (show 0 + 5 ≤ 5 by omega) (show 0 + 5 ≤ 5 by omega) (by omega) (by omega) (fun _ => rfl) (Nat.le_of_ble_eq_true rfl) (Nat.le_of_ble_eq_true rfl) d_Ha_begin_11 (fun H locs Y => ?_)
  generalize (va_cpy g_inn g_sta (0) (0) (5)) = g1 at Y
  have e4 : (va_up f sta (.inl (E.2.1, 5, .inl g1))) sta = .inl (E.2.1, 5, .inl g1) := q_up
  have e5 : (va_up f sta (.inl (E.2.1, 5, .inl g1))) o = .inr (6, [.ref wd, .ref bl, .ref sta, .ref inn, .ref out, .int (nI fl), .int tot, .ref mac]) := (q_ne (q_tag e_o e_sta (show (6 : Nat) ≠ 1000 by decide))).trans e_o
  have e6 : (va_up f sta (.inl (E.2.1, 5, .inl g1))) wd = .inl (E.2.1, 80, .inl g_wd) := (q_ne ap_wd_sta).trans e_wd
  have e7 : (va_up f sta (.inl (E.2.1, 5, .inl g1))) bl = .inl (E.1, 64, .inl g_bl) := (q_ne ap_bl_sta).trans e_bl
  have e8 : (va_up f sta (.inl (E.2.1, 5, .inl g1))) inn = .inl (E.2.1, 5, .inl g_inn) := (q_ne ap_sta_inn.symm).trans e_inn
  have e9 : (va_up f sta (.inl (E.2.1, 5, .inl g1))) out = .inl (E.2.1, 5, .inl g_out) := (q_ne ap_sta_out.symm).trans e_out
  have e10 : (va_up f sta (.inl (E.2.1, 5, .inl g1))) mac = .inl (E.1, 20, .inl g_mac) := (q_ne ap_sta_mac.symm).trans e_mac
  have hF11 : ∀ x, x ≠ o → x ≠ sta → (va_up f sta (.inl (E.2.1, 5, .inl g1))) x = f x := fun x h0 h1 => (q_ne h1).trans rfl
  have Y : pH D cCl (pA L sz) s.heap L (va_up f sta (.inl (E.2.1, 5, .inl g1))) H locs := Y
  generalize (va_up f sta (.inl (E.2.1, 5, .inl g1))) = f3 at Y e4 e5 e6 e7 e8 e9 e10 hF11
  refine lv_aload_n X.1 X.2.1 d_Ha_begin_14 rfl (lv_at hl 0 rfl) ?_
  refine lv_iconst (v := (nI 0)) X.1 X.2.1 d_Ha_begin_15 (by decide) ?_
  refine q_put X.1 X.2.1 X.2.2.1 i_Ha t_Ha t_Ha_ok n_Ha X.2.2.2.1 X.2.2.2.2 Y m_o e5 rfl 5 (by decide) (X.2.2.1 _ lk_Ha_47) (fun _ h9 => h9) rfl (t_Ha_ok 5 (by decide)) rfl rfl (Nat.le_of_ble_eq_true rfl) d_Ha_begin_16 (fun H locs Y => ?_)
  have e13 : (va_up f3 o (.inr (6, [.ref wd, .ref bl, .ref sta, .ref inn, .ref out, .int (nI 0), .int tot, .ref mac]))) o = .inr (6, [.ref wd, .ref bl, .ref sta, .ref inn, .ref out, .int (nI 0), .int tot, .ref mac]) := q_up
  have e14 : (va_up f3 o (.inr (6, [.ref wd, .ref bl, .ref sta, .ref inn, .ref out, .int (nI 0), .int tot, .ref mac]))) wd = .inl (E.2.1, 80, .inl g_wd) := (q_ne (q_tag e6 e5 (show (1000 : Nat) ≠ 6 by decide))).trans e6
  have e15 : (va_up f3 o (.inr (6, [.ref wd, .ref bl, .ref sta, .ref inn, .ref out, .int (nI 0), .int tot, .ref mac]))) bl = .inl (E.1, 64, .inl g_bl) := (q_ne (q_tag e7 e5 (show (1000 : Nat) ≠ 6 by decide))).trans e7
  have e16 : (va_up f3 o (.inr (6, [.ref wd, .ref bl, .ref sta, .ref inn, .ref out, .int (nI 0), .int tot, .ref mac]))) sta = .inl (E.2.1, 5, .inl g1) := (q_ne (q_tag e4 e5 (show (1000 : Nat) ≠ 6 by decide))).trans e4
  have e17 : (va_up f3 o (.inr (6, [.ref wd, .ref bl, .ref sta, .ref inn, .ref out, .int (nI 0), .int tot, .ref mac]))) inn = .inl (E.2.1, 5, .inl g_inn) := (q_ne (q_tag e8 e5 (show (1000 : Nat) ≠ 6 by decide))).trans e8
  have e18 : (va_up f3 o (.inr (6, [.ref wd, .ref bl, .ref sta, .ref inn, .ref out, .int (nI 0), .int tot, .ref mac]))) out = .inl (E.2.1, 5, .inl g_out) := (q_ne (q_tag e9 e5 (show (1000 : Nat) ≠ 6 by decide))).trans e9
  have e19 : (va_up f3 o (.inr (6, [.ref wd, .ref bl, .ref sta, .ref inn, .ref out, .int (nI 0), .int tot, .ref mac]))) mac = .inl (E.1, 20, .inl g_mac) := (q_ne (q_tag e10 e5 (show (1000 : Nat) ≠ 6 by decide))).trans e10
  have hF20 : ∀ x, x ≠ o → x ≠ sta → (va_up f3 o (.inr (6, [.ref wd, .ref bl, .ref sta, .ref inn, .ref out, .int (nI 0), .int tot, .ref mac]))) x = f x := fun x h0 h1 => (q_ne h0).trans (hF11 x h0 h1)
  have Y : pH D cCl (pA L sz) s.heap L (va_up f3 o (.inr (6, [.ref wd, .ref bl, .ref sta, .ref inn, .ref out, .int (nI 0), .int tot, .ref mac]))) H locs := Y
  generalize (va_up f3 o (.inr (6, [.ref wd, .ref bl, .ref sta, .ref inn, .ref out, .int (nI 0), .int tot, .ref mac]))) = f12 at Y e13 e14 e15 e16 e17 e18 e19 hF20
  refine lv_aload_n X.1 X.2.1 d_Ha_begin_19 rfl (lv_at hl 0 rfl) ?_
  refine lv_bipush (v := (nI 64)) X.1 X.2.1 d_Ha_begin_20 (by decide) ?_
  refine q_put X.1 X.2.1 X.2.2.1 i_Ha t_Ha t_Ha_ok n_Ha X.2.2.2.1 X.2.2.2.2 Y m_o e13 rfl 6 (by decide) (X.2.2.1 _ lk_Ha_51) (fun _ h9 => h9) rfl (t_Ha_ok 6 (by decide)) rfl rfl (Nat.le_of_ble_eq_true rfl) d_Ha_begin_22 (fun H locs Y => ?_)
  have e22 : (va_up f12 o (.inr (6, [.ref wd, .ref bl, .ref sta, .ref inn, .ref out, .int (nI 0), .int (nI 64), .ref mac]))) o = .inr (6, [.ref wd, .ref bl, .ref sta, .ref inn, .ref out, .int (nI 0), .int (nI 64), .ref mac]) := q_up
  have e23 : (va_up f12 o (.inr (6, [.ref wd, .ref bl, .ref sta, .ref inn, .ref out, .int (nI 0), .int (nI 64), .ref mac]))) wd = .inl (E.2.1, 80, .inl g_wd) := (q_ne (q_tag e14 e13 (show (1000 : Nat) ≠ 6 by decide))).trans e14
  have e24 : (va_up f12 o (.inr (6, [.ref wd, .ref bl, .ref sta, .ref inn, .ref out, .int (nI 0), .int (nI 64), .ref mac]))) bl = .inl (E.1, 64, .inl g_bl) := (q_ne (q_tag e15 e13 (show (1000 : Nat) ≠ 6 by decide))).trans e15
  have e25 : (va_up f12 o (.inr (6, [.ref wd, .ref bl, .ref sta, .ref inn, .ref out, .int (nI 0), .int (nI 64), .ref mac]))) sta = .inl (E.2.1, 5, .inl g1) := (q_ne (q_tag e16 e13 (show (1000 : Nat) ≠ 6 by decide))).trans e16
  have e26 : (va_up f12 o (.inr (6, [.ref wd, .ref bl, .ref sta, .ref inn, .ref out, .int (nI 0), .int (nI 64), .ref mac]))) inn = .inl (E.2.1, 5, .inl g_inn) := (q_ne (q_tag e17 e13 (show (1000 : Nat) ≠ 6 by decide))).trans e17
  have e27 : (va_up f12 o (.inr (6, [.ref wd, .ref bl, .ref sta, .ref inn, .ref out, .int (nI 0), .int (nI 64), .ref mac]))) out = .inl (E.2.1, 5, .inl g_out) := (q_ne (q_tag e18 e13 (show (1000 : Nat) ≠ 6 by decide))).trans e18
  have e28 : (va_up f12 o (.inr (6, [.ref wd, .ref bl, .ref sta, .ref inn, .ref out, .int (nI 0), .int (nI 64), .ref mac]))) mac = .inl (E.1, 20, .inl g_mac) := (q_ne (q_tag e19 e13 (show (1000 : Nat) ≠ 6 by decide))).trans e19
  have hF29 : ∀ x, x ≠ o → x ≠ sta → (va_up f12 o (.inr (6, [.ref wd, .ref bl, .ref sta, .ref inn, .ref out, .int (nI 0), .int (nI 64), .ref mac]))) x = f x := fun x h0 h1 => (q_ne h0).trans (hF20 x h0 h1)
  have Y : pH D cCl (pA L sz) s.heap L (va_up f12 o (.inr (6, [.ref wd, .ref bl, .ref sta, .ref inn, .ref out, .int (nI 0), .int (nI 64), .ref mac]))) H locs := Y
  generalize (va_up f12 o (.inr (6, [.ref wd, .ref bl, .ref sta, .ref inn, .ref out, .int (nI 0), .int (nI 64), .ref mac]))) = f21 at Y e22 e23 e24 e25 e26 e27 e28 hF29
  exact c_retv hQQ X Y hr hlk ⟨rfl, hF29, 0, (nI 64), g1, (by omega), e22, e25⟩ d_Ha_begin_25
set_option maxHeartbeats 4000000 in
set_option maxRecDepth 100000 in
theorem c_Ha_pad (l : Launch) (D : va_G) (E : cE) (L : List Nat) (f : pF) (sz : Nat) (KN st0 : Nat) (a3 a4 : Int32) (o wd bl sta inn out mac ky fl : Nat) (tot : Int32) (g_wd g_bl g_sta g_inn g_out g_mac g_ky : Nat → Int32) (m_o : o ∈ L) (m_wd : wd ∈ L) (m_bl : bl ∈ L) (m_sta : sta ∈ L) (m_inn : inn ∈ L) (m_out : out ∈ L) (m_mac : mac ∈ L) (m_ky : ky ∈ L) (e_o : f o = .inr (6, [.ref wd, .ref bl, .ref sta, .ref inn, .ref out, .int (nI fl), .int tot, .ref mac])) (e_wd : f wd = .inl (E.2.1, 80, .inl g_wd)) (e_bl : f bl = .inl (E.1, 64, .inl g_bl)) (e_sta : f sta = .inl (E.2.1, 5, .inl g_sta)) (e_inn : f inn = .inl (E.2.1, 5, .inl g_inn)) (e_out : f out = .inl (E.2.1, 5, .inl g_out)) (e_mac : f mac = .inl (E.1, 20, .inl g_mac)) (e_ky : f ky = .inl (E.1, KN, .inl g_ky)) (f_bl : fB g_bl) (f_mac : fB g_mac) (f_ky : fB g_ky) (ap_wd_bl : wd ≠ bl) (ap_wd_sta : wd ≠ sta) (ap_wd_inn : wd ≠ inn) (ap_wd_out : wd ≠ out) (ap_wd_mac : wd ≠ mac) (ap_wd_ky : wd ≠ ky) (ap_bl_sta : bl ≠ sta) (ap_bl_inn : bl ≠ inn) (ap_bl_out : bl ≠ out) (ap_bl_mac : bl ≠ mac) (ap_bl_ky : bl ≠ ky) (ap_sta_inn : sta ≠ inn) (ap_sta_out : sta ≠ out) (ap_sta_mac : sta ≠ mac) (ap_sta_ky : sta ≠ ky) (ap_inn_out : inn ≠ out) (ap_inn_mac : inn ≠ mac) (ap_inn_ky : inn ≠ ky) (ap_out_mac : out ≠ mac) (ap_out_ky : out ≠ ky) (ap_mac_ky : mac ≠ ky) (hh0 : KN < 100000) (hh1 : st0 < 100000) : Met l y_Ha_pad (k_Ha_pad :: lw_tg) (mR 1 28) (va_Pc [.ref o, .ref ky, .int (nI st0), .int a3, .int a4] (cPre D E L f sz)) (va_Qv (fun (u : cU) => u.1 = L ∧ (∀ x, x ≠ wd → x ≠ bl → x ≠ sta → u.2 x = f x) ∧ ∃ (g2_wd g2_bl g2_sta : Nat → Int32), fB g2_bl ∧ u.2 wd = .inl (E.2.1, 80, .inl g2_wd) ∧ u.2 bl = .inl (E.1, 64, .inl g2_bl) ∧ u.2 sta = .inl (E.2.1, 5, .inl g2_sta)) (cPost D E (pA L sz)) (pA L sz)) 0 0 (pA L sz) := by
  refine c_enter (own := R_Ha) (by decide) rfl (Nat.le_of_ble_eq_true rfl) ⟨rfl, rfl⟩ (fun p e s m below meth c ls AV QQ H locs hQQ X Y hA hin hr hlk hml hl => ?_)
  have hl : lv_has ls 7 [(0, .ref o), (1, .ref ky), (2, .int (nI st0)), (3, .int a3), (4, .int a4)] := hl
  refine lv_iconst (v := (nI 0)) X.1 X.2.1 d_Ha_pad_0 (by decide) ?_
  refine lv_istore (lv' := [(5, .int (nI 0)), (0, .ref o), (1, .ref ky), (2, .int (nI st0)), (3, .int a3), (4, .int a4)]) X.1 X.2.1 d_Ha_pad_1 hl (by decide) rfl (fun ls hl => ?_)
  have lp1 : ∀ (n2 i : Nat) (g8 : Nat → Int32) (g10 : Nat → Int32) (g13 : Nat → Int32) (f4 : pF) (H : Heap) (locs : List Loc) (ls : Array Slot), 64 - i = n2 → (0 ≤ i) → (i ≤ 64) → fB g10 → f4 o = .inr (6, [.ref wd, .ref bl, .ref sta, .ref inn, .ref out, .int (nI fl), .int tot, .ref mac]) → f4 wd = .inl (E.2.1, 80, .inl g8) → f4 bl = .inl (E.1, 64, .inl g10) → f4 sta = .inl (E.2.1, 5, .inl g13) → f4 inn = .inl (E.2.1, 5, .inl g_inn) → f4 out = .inl (E.2.1, 5, .inl g_out) → f4 mac = .inl (E.1, 20, .inl g_mac) → f4 ky = .inl (E.1, KN, .inl g_ky) → (∀ x, x ≠ wd → x ≠ bl → x ≠ sta → f4 x = f x) → pH D cCl (pA L sz) s.heap L f4 H locs → lv_has ls 7 [(5, .int (nI i)), (0, .ref o), (1, .ref ky), (2, .int (nI st0)), (3, .int a3), (4, .int a4)] → W p l e (mR 1 28) s m AV below meth c H locs 0 0 QQ (F0 m 3 ls []) := by
    intro n2
    induction n2 with
    | zero =>
      intro i g8 g10 g13 f4 H locs ls hm20 hc18 hc19 hg11 e6 e7 e9 e12 e14 e15 e16 e17 hF5 Y hl
      refine lv_iload X.1 X.2.1 d_Ha_pad_3 (lv_at hl 0 rfl) ?_
      refine lv_bipush (v := (nI 64)) X.1 X.2.1 d_Ha_pad_5 (by decide) ?_
      refine lv_icmp_ge (tgt := 69) X.1 X.2.1 d_Ha_pad_7 (by decide) (fun c21 => ?_) (fun c21 => absurd ?_ c21)
      rotate_left
      · (rw [nI_leI (by omega) (by omega)] <;> omega)
      rw [nI_leI (by omega) (by omega)] at c21
      refine lv_aload_n X.1 X.2.1 d_Ha_pad_69 rfl (lv_at hl 1 rfl) ?_
      refine q_get X.1 X.2.1 X.2.2.1 i_Ha X.2.2.2.1 X.2.2.2.2 Y m_o e6 rfl 2 (by decide) (X.2.2.1 _ lk_Ha_17) (fun _ h9 => h9) rfl d_Ha_pad_70 ?_
      refine lv_iconst (v := (nI 0)) X.1 X.2.1 d_Ha_pad_73 (by decide) ?_
      refine lv_ldc (v := (1732584193)) X.1 X.2.1 X.2.2.2.1 (X.2.2.1 _ cn_Ha_39) d_Ha_pad_74 ?_
      refine t_eq (y := nI 1732584193) (by decide) ?_
      refine q_iast X.1 X.2.1 X.2.2.2.2 Y 1 m_sta e12 rfl (vp_in_nI (by omega) (by omega)) d_Ha_pad_76 (fun H locs Y => ?_)
      generalize (upd g13 ((nI 0)).toNatClampNeg (nI 1732584193)) = g22 at Y
      have e25 : (va_up f4 sta (.inl (E.2.1, 5, .inl g22))) sta = .inl (E.2.1, 5, .inl g22) := q_up
      have e26 : (va_up f4 sta (.inl (E.2.1, 5, .inl g22))) o = .inr (6, [.ref wd, .ref bl, .ref sta, .ref inn, .ref out, .int (nI fl), .int tot, .ref mac]) := (q_ne (q_tag e6 e12 (show (6 : Nat) ≠ 1000 by decide))).trans e6
      have e27 : (va_up f4 sta (.inl (E.2.1, 5, .inl g22))) wd = .inl (E.2.1, 80, .inl g8) := (q_ne ap_wd_sta).trans e7
      have e28 : (va_up f4 sta (.inl (E.2.1, 5, .inl g22))) bl = .inl (E.1, 64, .inl g10) := (q_ne ap_bl_sta).trans e9
      have e29 : (va_up f4 sta (.inl (E.2.1, 5, .inl g22))) inn = .inl (E.2.1, 5, .inl g_inn) := (q_ne ap_sta_inn.symm).trans e14
      have e30 : (va_up f4 sta (.inl (E.2.1, 5, .inl g22))) out = .inl (E.2.1, 5, .inl g_out) := (q_ne ap_sta_out.symm).trans e15
      have e31 : (va_up f4 sta (.inl (E.2.1, 5, .inl g22))) mac = .inl (E.1, 20, .inl g_mac) := (q_ne ap_sta_mac.symm).trans e16
      have e32 : (va_up f4 sta (.inl (E.2.1, 5, .inl g22))) ky = .inl (E.1, KN, .inl g_ky) := (q_ne ap_sta_ky.symm).trans e17
      have hF33 : ∀ x, x ≠ wd → x ≠ bl → x ≠ sta → (va_up f4 sta (.inl (E.2.1, 5, .inl g22))) x = f x := fun x h0 h1 h2 => (q_ne h2).trans (hF5 x h0 h1 h2)
      have Y : pH D cCl (pA L sz) s.heap L (va_up f4 sta (.inl (E.2.1, 5, .inl g22))) H locs := Y
      generalize (va_up f4 sta (.inl (E.2.1, 5, .inl g22))) = f24 at Y e25 e26 e27 e28 e29 e30 e31 e32 hF33
      refine lv_aload_n X.1 X.2.1 d_Ha_pad_77 rfl (lv_at hl 1 rfl) ?_
      refine q_get X.1 X.2.1 X.2.2.1 i_Ha X.2.2.2.1 X.2.2.2.2 Y m_o e26 rfl 2 (by decide) (X.2.2.1 _ lk_Ha_17) (fun _ h9 => h9) rfl d_Ha_pad_78 ?_
      refine lv_iconst (v := (nI 1)) X.1 X.2.1 d_Ha_pad_81 (by decide) ?_
      refine lv_ldc (v := (-271733879)) X.1 X.2.1 X.2.2.2.1 (X.2.2.1 _ cn_Ha_40) d_Ha_pad_82 ?_
      refine q_iast X.1 X.2.1 X.2.2.2.2 Y 1 m_sta e25 rfl (vp_in_nI (by omega) (by omega)) d_Ha_pad_84 (fun H locs Y => ?_)
      generalize (upd g22 ((nI 1)).toNatClampNeg (-271733879)) = g34 at Y
      have e37 : (va_up f24 sta (.inl (E.2.1, 5, .inl g34))) sta = .inl (E.2.1, 5, .inl g34) := q_up
      have e38 : (va_up f24 sta (.inl (E.2.1, 5, .inl g34))) o = .inr (6, [.ref wd, .ref bl, .ref sta, .ref inn, .ref out, .int (nI fl), .int tot, .ref mac]) := (q_ne (q_tag e26 e25 (show (6 : Nat) ≠ 1000 by decide))).trans e26
      have e39 : (va_up f24 sta (.inl (E.2.1, 5, .inl g34))) wd = .inl (E.2.1, 80, .inl g8) := (q_ne ap_wd_sta).trans e27
      have e40 : (va_up f24 sta (.inl (E.2.1, 5, .inl g34))) bl = .inl (E.1, 64, .inl g10) := (q_ne ap_bl_sta).trans e28
      have e41 : (va_up f24 sta (.inl (E.2.1, 5, .inl g34))) inn = .inl (E.2.1, 5, .inl g_inn) := (q_ne ap_sta_inn.symm).trans e29
      have e42 : (va_up f24 sta (.inl (E.2.1, 5, .inl g34))) out = .inl (E.2.1, 5, .inl g_out) := (q_ne ap_sta_out.symm).trans e30
      have e43 : (va_up f24 sta (.inl (E.2.1, 5, .inl g34))) mac = .inl (E.1, 20, .inl g_mac) := (q_ne ap_sta_mac.symm).trans e31
      have e44 : (va_up f24 sta (.inl (E.2.1, 5, .inl g34))) ky = .inl (E.1, KN, .inl g_ky) := (q_ne ap_sta_ky.symm).trans e32
      have hF45 : ∀ x, x ≠ wd → x ≠ bl → x ≠ sta → (va_up f24 sta (.inl (E.2.1, 5, .inl g34))) x = f x := fun x h0 h1 h2 => (q_ne h2).trans (hF33 x h0 h1 h2)
      have Y : pH D cCl (pA L sz) s.heap L (va_up f24 sta (.inl (E.2.1, 5, .inl g34))) H locs := Y
      generalize (va_up f24 sta (.inl (E.2.1, 5, .inl g34))) = f36 at Y e37 e38 e39 e40 e41 e42 e43 e44 hF45
      refine lv_aload_n X.1 X.2.1 d_Ha_pad_85 rfl (lv_at hl 1 rfl) ?_
      refine q_get X.1 X.2.1 X.2.2.1 i_Ha X.2.2.2.1 X.2.2.2.2 Y m_o e38 rfl 2 (by decide) (X.2.2.1 _ lk_Ha_17) (fun _ h9 => h9) rfl d_Ha_pad_86 ?_
      refine lv_iconst (v := (nI 2)) X.1 X.2.1 d_Ha_pad_89 (by decide) ?_
      refine lv_ldc (v := (-1732584194)) X.1 X.2.1 X.2.2.2.1 (X.2.2.1 _ cn_Ha_41) d_Ha_pad_90 ?_
      refine q_iast X.1 X.2.1 X.2.2.2.2 Y 1 m_sta e37 rfl (vp_in_nI (by omega) (by omega)) d_Ha_pad_92 (fun H locs Y => ?_)
      generalize (upd g34 ((nI 2)).toNatClampNeg (-1732584194)) = g46 at Y
      have e49 : (va_up f36 sta (.inl (E.2.1, 5, .inl g46))) sta = .inl (E.2.1, 5, .inl g46) := q_up
      have e50 : (va_up f36 sta (.inl (E.2.1, 5, .inl g46))) o = .inr (6, [.ref wd, .ref bl, .ref sta, .ref inn, .ref out, .int (nI fl), .int tot, .ref mac]) := (q_ne (q_tag e38 e37 (show (6 : Nat) ≠ 1000 by decide))).trans e38
      have e51 : (va_up f36 sta (.inl (E.2.1, 5, .inl g46))) wd = .inl (E.2.1, 80, .inl g8) := (q_ne ap_wd_sta).trans e39
      have e52 : (va_up f36 sta (.inl (E.2.1, 5, .inl g46))) bl = .inl (E.1, 64, .inl g10) := (q_ne ap_bl_sta).trans e40
      have e53 : (va_up f36 sta (.inl (E.2.1, 5, .inl g46))) inn = .inl (E.2.1, 5, .inl g_inn) := (q_ne ap_sta_inn.symm).trans e41
      have e54 : (va_up f36 sta (.inl (E.2.1, 5, .inl g46))) out = .inl (E.2.1, 5, .inl g_out) := (q_ne ap_sta_out.symm).trans e42
      have e55 : (va_up f36 sta (.inl (E.2.1, 5, .inl g46))) mac = .inl (E.1, 20, .inl g_mac) := (q_ne ap_sta_mac.symm).trans e43
      have e56 : (va_up f36 sta (.inl (E.2.1, 5, .inl g46))) ky = .inl (E.1, KN, .inl g_ky) := (q_ne ap_sta_ky.symm).trans e44
      have hF57 : ∀ x, x ≠ wd → x ≠ bl → x ≠ sta → (va_up f36 sta (.inl (E.2.1, 5, .inl g46))) x = f x := fun x h0 h1 h2 => (q_ne h2).trans (hF45 x h0 h1 h2)
      have Y : pH D cCl (pA L sz) s.heap L (va_up f36 sta (.inl (E.2.1, 5, .inl g46))) H locs := Y
      generalize (va_up f36 sta (.inl (E.2.1, 5, .inl g46))) = f48 at Y e49 e50 e51 e52 e53 e54 e55 e56 hF57
      refine lv_aload_n X.1 X.2.1 d_Ha_pad_93 rfl (lv_at hl 1 rfl) ?_
      refine q_get X.1 X.2.1 X.2.2.1 i_Ha X.2.2.2.1 X.2.2.2.2 Y m_o e50 rfl 2 (by decide) (X.2.2.1 _ lk_Ha_17) (fun _ h9 => h9) rfl d_Ha_pad_94 ?_
      refine lv_iconst (v := (nI 3)) X.1 X.2.1 d_Ha_pad_97 (by decide) ?_
      refine lv_ldc (v := (271733878)) X.1 X.2.1 X.2.2.2.1 (X.2.2.1 _ cn_Ha_42) d_Ha_pad_98 ?_
      refine t_eq (y := nI 271733878) (by decide) ?_
      refine q_iast X.1 X.2.1 X.2.2.2.2 Y 1 m_sta e49 rfl (vp_in_nI (by omega) (by omega)) d_Ha_pad_100 (fun H locs Y => ?_)
      generalize (upd g46 ((nI 3)).toNatClampNeg (nI 271733878)) = g58 at Y
      have e61 : (va_up f48 sta (.inl (E.2.1, 5, .inl g58))) sta = .inl (E.2.1, 5, .inl g58) := q_up
      have e62 : (va_up f48 sta (.inl (E.2.1, 5, .inl g58))) o = .inr (6, [.ref wd, .ref bl, .ref sta, .ref inn, .ref out, .int (nI fl), .int tot, .ref mac]) := (q_ne (q_tag e50 e49 (show (6 : Nat) ≠ 1000 by decide))).trans e50
      have e63 : (va_up f48 sta (.inl (E.2.1, 5, .inl g58))) wd = .inl (E.2.1, 80, .inl g8) := (q_ne ap_wd_sta).trans e51
      have e64 : (va_up f48 sta (.inl (E.2.1, 5, .inl g58))) bl = .inl (E.1, 64, .inl g10) := (q_ne ap_bl_sta).trans e52
      have e65 : (va_up f48 sta (.inl (E.2.1, 5, .inl g58))) inn = .inl (E.2.1, 5, .inl g_inn) := (q_ne ap_sta_inn.symm).trans e53
      have e66 : (va_up f48 sta (.inl (E.2.1, 5, .inl g58))) out = .inl (E.2.1, 5, .inl g_out) := (q_ne ap_sta_out.symm).trans e54
      have e67 : (va_up f48 sta (.inl (E.2.1, 5, .inl g58))) mac = .inl (E.1, 20, .inl g_mac) := (q_ne ap_sta_mac.symm).trans e55
      have e68 : (va_up f48 sta (.inl (E.2.1, 5, .inl g58))) ky = .inl (E.1, KN, .inl g_ky) := (q_ne ap_sta_ky.symm).trans e56
      have hF69 : ∀ x, x ≠ wd → x ≠ bl → x ≠ sta → (va_up f48 sta (.inl (E.2.1, 5, .inl g58))) x = f x := fun x h0 h1 h2 => (q_ne h2).trans (hF57 x h0 h1 h2)
      have Y : pH D cCl (pA L sz) s.heap L (va_up f48 sta (.inl (E.2.1, 5, .inl g58))) H locs := Y
      generalize (va_up f48 sta (.inl (E.2.1, 5, .inl g58))) = f60 at Y e61 e62 e63 e64 e65 e66 e67 e68 hF69
      refine lv_aload_n X.1 X.2.1 d_Ha_pad_101 rfl (lv_at hl 1 rfl) ?_
      refine q_get X.1 X.2.1 X.2.2.1 i_Ha X.2.2.2.1 X.2.2.2.2 Y m_o e62 rfl 2 (by decide) (X.2.2.1 _ lk_Ha_17) (fun _ h9 => h9) rfl d_Ha_pad_102 ?_
      refine lv_iconst (v := (nI 4)) X.1 X.2.1 d_Ha_pad_105 (by decide) ?_
      refine lv_ldc (v := (-1009589776)) X.1 X.2.1 X.2.2.2.1 (X.2.2.1 _ cn_Ha_43) d_Ha_pad_106 ?_
      refine q_iast X.1 X.2.1 X.2.2.2.2 Y 1 m_sta e61 rfl (vp_in_nI (by omega) (by omega)) d_Ha_pad_108 (fun H locs Y => ?_)
      generalize (upd g58 ((nI 4)).toNatClampNeg (-1009589776)) = g70 at Y
      have e73 : (va_up f60 sta (.inl (E.2.1, 5, .inl g70))) sta = .inl (E.2.1, 5, .inl g70) := q_up
      have e74 : (va_up f60 sta (.inl (E.2.1, 5, .inl g70))) o = .inr (6, [.ref wd, .ref bl, .ref sta, .ref inn, .ref out, .int (nI fl), .int tot, .ref mac]) := (q_ne (q_tag e62 e61 (show (6 : Nat) ≠ 1000 by decide))).trans e62
      have e75 : (va_up f60 sta (.inl (E.2.1, 5, .inl g70))) wd = .inl (E.2.1, 80, .inl g8) := (q_ne ap_wd_sta).trans e63
      have e76 : (va_up f60 sta (.inl (E.2.1, 5, .inl g70))) bl = .inl (E.1, 64, .inl g10) := (q_ne ap_bl_sta).trans e64
      have e77 : (va_up f60 sta (.inl (E.2.1, 5, .inl g70))) inn = .inl (E.2.1, 5, .inl g_inn) := (q_ne ap_sta_inn.symm).trans e65
      have e78 : (va_up f60 sta (.inl (E.2.1, 5, .inl g70))) out = .inl (E.2.1, 5, .inl g_out) := (q_ne ap_sta_out.symm).trans e66
      have e79 : (va_up f60 sta (.inl (E.2.1, 5, .inl g70))) mac = .inl (E.1, 20, .inl g_mac) := (q_ne ap_sta_mac.symm).trans e67
      have e80 : (va_up f60 sta (.inl (E.2.1, 5, .inl g70))) ky = .inl (E.1, KN, .inl g_ky) := (q_ne ap_sta_ky.symm).trans e68
      have hF81 : ∀ x, x ≠ wd → x ≠ bl → x ≠ sta → (va_up f60 sta (.inl (E.2.1, 5, .inl g70))) x = f x := fun x h0 h1 h2 => (q_ne h2).trans (hF69 x h0 h1 h2)
      have Y : pH D cCl (pA L sz) s.heap L (va_up f60 sta (.inl (E.2.1, 5, .inl g70))) H locs := Y
      generalize (va_up f60 sta (.inl (E.2.1, 5, .inl g70))) = f72 at Y e73 e74 e75 e76 e77 e78 e79 e80 hF81
      refine lv_aload_n X.1 X.2.1 d_Ha_pad_109 rfl (lv_at hl 1 rfl) ?_
      refine c_callv (As := []) (rest := []) (n := 0) X Y hA hml hl.1 (c_Ha_compress l D E L f72 H.size  o wd bl sta inn out mac (fl) (tot) g8 g10 g70 g_inn g_out g_mac m_o m_wd m_bl m_sta m_inn m_out m_mac e74 e75 e76 e73 e77 e78 e79 hg11 f_mac ap_wd_bl ap_wd_sta ap_wd_inn ap_wd_out ap_wd_mac ap_bl_sta ap_bl_inn ap_bl_out ap_bl_mac ap_sta_inn ap_sta_out ap_sta_mac ap_inn_out ap_inn_mac ap_out_mac) m_o e74 rfl kl_Ha_Ha_compress ks_Ha_compress kx_Ha_compress ki_Ha_compress ini_Ha ⟨rfl, rfl⟩ hd_Ha_compress ⟨by decide, by decide⟩ rfl (Nat.le_of_ble_eq_true rfl) d_Ha_pad_110 ⟨Nat.le_refl _, Nat.le_refl _⟩ (fun u H locs hp Y => ?_)
      obtain ⟨L83, f82⟩ := u
      obtain ⟨eL86, hF84, g88, g89, e90, e91⟩ := hp
      dsimp only at eL86 hF84 e90 e91 Y
      rw [eL86] at Y
      have e92 : f82 o = .inr (6, [.ref wd, .ref bl, .ref sta, .ref inn, .ref out, .int (nI fl), .int tot, .ref mac]) := (hF84 o (q_tag e74 e75 (show (6 : Nat) ≠ 1000 by decide)) (q_tag e74 e73 (show (6 : Nat) ≠ 1000 by decide))).trans e74
      have e93 : f82 bl = .inl (E.1, 64, .inl g10) := (hF84 bl ap_wd_bl.symm ap_bl_sta).trans e76
      have e94 : f82 inn = .inl (E.2.1, 5, .inl g_inn) := (hF84 inn ap_wd_inn.symm ap_sta_inn.symm).trans e77
      have e95 : f82 out = .inl (E.2.1, 5, .inl g_out) := (hF84 out ap_wd_out.symm ap_sta_out.symm).trans e78
      have e96 : f82 mac = .inl (E.1, 20, .inl g_mac) := (hF84 mac ap_wd_mac.symm ap_sta_mac.symm).trans e79
      have e97 : f82 ky = .inl (E.1, KN, .inl g_ky) := (hF84 ky ap_wd_ky.symm ap_sta_ky.symm).trans e80
      have hF98 : ∀ x, x ≠ wd → x ≠ bl → x ≠ sta → f82 x = f x := fun x h0 h1 h2 => (hF84 x h0 h2).trans (hF81 x h0 h1 h2)
      exact c_retv hQQ X Y hr hlk ⟨rfl, hF98, g88, g10, g89, hg11, e90, e93, e91⟩ d_Ha_pad_113
    | succ n2 ih3 =>
      intro i g8 g10 g13 f4 H locs ls hm20 hc18 hc19 hg11 e6 e7 e9 e12 e14 e15 e16 e17 hF5 Y hl
      refine lv_iload X.1 X.2.1 d_Ha_pad_3 (lv_at hl 0 rfl) ?_
      refine lv_bipush (v := (nI 64)) X.1 X.2.1 d_Ha_pad_5 (by decide) ?_
      refine lv_icmp_ge (tgt := 69) X.1 X.2.1 d_Ha_pad_7 (by decide) (fun c99 => absurd c99 ?_) (fun c99 => ?_)
      · (rw [nI_leI (by omega) (by omega)] <;> omega)
      rw [nI_leI (by omega) (by omega)] at c99
      refine lv_iload X.1 X.2.1 d_Ha_pad_10 (lv_at hl 0 rfl) ?_
      refine lv_iload_n X.1 X.2.1 d_Ha_pad_12 rfl (lv_at hl 4 rfl) ?_
      refine lv_icmp_ge (tgt := 33) X.1 X.2.1 d_Ha_pad_13 (by decide) (fun c100 => ?_) (fun c100 => ?_)
      · skip
        refine lv_iconst (v := (nI 0)) X.1 X.2.1 d_Ha_pad_33 (by decide) ?_
        refine lv_istore (lv' := [(6, .int (nI 0)), (5, .int (nI i)), (0, .ref o), (1, .ref ky), (2, .int (nI st0)), (3, .int a3), (4, .int a4)]) X.1 X.2.1 d_Ha_pad_34 hl (by decide) rfl (fun ls hl => ?_)
        refine lv_aload_n X.1 X.2.1 d_Ha_pad_36 rfl (lv_at hl 2 rfl) ?_
        refine q_get X.1 X.2.1 X.2.2.1 i_Ha X.2.2.2.1 X.2.2.2.2 Y m_o e6 rfl 1 (by decide) (X.2.2.1 _ lk_Ha_13) (fun _ h9 => h9) rfl d_Ha_pad_37 ?_
        refine lv_iload X.1 X.2.1 d_Ha_pad_40 (lv_at hl 1 rfl) ?_
        refine lv_iload X.1 X.2.1 d_Ha_pad_42 (lv_at hl 0 rfl) ?_
        refine lv_if_eq (tgt := 59) X.1 X.2.1 d_Ha_pad_44 (by decide) (fun c101 => ?_) (fun c101 => absurd ?_ c101)
        rotate_left
        · (rw [← nI_0, nI_eq (by omega) (by omega)] <;> omega)
        rw [← nI_0] at c101
        rw [nI_eq (by omega) (by omega)] at c101
        refine lv_iload X.1 X.2.1 d_Ha_pad_59 (lv_at hl 6 rfl) ?_
        obtain ⟨v102, ev102⟩ : ∃ z : Int32, (a4 : Int32).toInt8.toInt32 = z := ⟨_, rfl⟩
        refine lv_i2b (v := v102) X.1 X.2.1 d_Ha_pad_61 ev102 ?_
        refine q_bast X.1 X.2.1 X.2.2.2.2 Y 0 m_bl e9 rfl (vp_in_nI (by omega) (by omega)) d_Ha_pad_62 (fun H locs Y => ?_)
        have hg104 : fB (upd g10 ((nI i)).toNatClampNeg (vp_nar .byte v102)) := fB_upd hg11
        generalize (upd g10 ((nI i)).toNatClampNeg (vp_nar .byte v102)) = g103 at Y hg104
        have e106 : (va_up f4 bl (.inl (E.1, 64, .inl g103))) bl = .inl (E.1, 64, .inl g103) := q_up
        have e107 : (va_up f4 bl (.inl (E.1, 64, .inl g103))) o = .inr (6, [.ref wd, .ref bl, .ref sta, .ref inn, .ref out, .int (nI fl), .int tot, .ref mac]) := (q_ne (q_tag e6 e9 (show (6 : Nat) ≠ 1000 by decide))).trans e6
        have e108 : (va_up f4 bl (.inl (E.1, 64, .inl g103))) wd = .inl (E.2.1, 80, .inl g8) := (q_ne ap_wd_bl).trans e7
        have e109 : (va_up f4 bl (.inl (E.1, 64, .inl g103))) sta = .inl (E.2.1, 5, .inl g13) := (q_ne ap_bl_sta.symm).trans e12
        have e110 : (va_up f4 bl (.inl (E.1, 64, .inl g103))) inn = .inl (E.2.1, 5, .inl g_inn) := (q_ne ap_bl_inn.symm).trans e14
        have e111 : (va_up f4 bl (.inl (E.1, 64, .inl g103))) out = .inl (E.2.1, 5, .inl g_out) := (q_ne ap_bl_out.symm).trans e15
        have e112 : (va_up f4 bl (.inl (E.1, 64, .inl g103))) mac = .inl (E.1, 20, .inl g_mac) := (q_ne ap_bl_mac.symm).trans e16
        have e113 : (va_up f4 bl (.inl (E.1, 64, .inl g103))) ky = .inl (E.1, KN, .inl g_ky) := (q_ne ap_bl_ky.symm).trans e17
        have hF114 : ∀ x, x ≠ wd → x ≠ bl → x ≠ sta → (va_up f4 bl (.inl (E.1, 64, .inl g103))) x = f x := fun x h0 h1 h2 => (q_ne h1).trans (hF5 x h0 h1 h2)
        have Y : pH D cCl (pA L sz) s.heap L (va_up f4 bl (.inl (E.1, 64, .inl g103))) H locs := Y
        generalize (va_up f4 bl (.inl (E.1, 64, .inl g103))) = f105 at Y e106 e107 e108 e109 e110 e111 e112 e113 hF114
        refine lv_iinc (v := (nI (i + 1))) (lv' := [(5, .int (nI (i + 1))), (6, .int (nI 0)), (0, .ref o), (1, .ref ky), (2, .int (nI st0)), (3, .int a3), (4, .int a4)]) X.1 X.2.1 d_Ha_pad_63 hl (k := 1) rfl (nI_add _ 1) (by decide) rfl (fun ls hl => ?_)
        refine lv_goto (tgt := 3) X.1 X.2.1 d_Ha_pad_66 (by decide) ?_
        exact ih3  (i + 1)    g8 g103 g13 f105 _ _ _ (by omega) (by omega) (by omega) hg104 e107 e108 e106 e109 e110 e111 e112 e113 hF114 Y (lv_sub hl [0, 2, 3, 4, 5, 6] rfl)
      · skip
        refine lv_iload_n X.1 X.2.1 d_Ha_pad_16 rfl (lv_at hl 3 rfl) ?_
        refine lv_if_lt (tgt := 33) X.1 X.2.1 d_Ha_pad_17 (by decide) (fun c115 => ?_) (fun c115 => ?_)
        · skip
          rw [← nI_0] at c115
          rw [nI_ltI (by omega) (by omega)] at c115
          refine lv_iconst (v := (nI 0)) X.1 X.2.1 d_Ha_pad_33 (by decide) ?_
          refine lv_istore (lv' := [(6, .int (nI 0)), (5, .int (nI i)), (0, .ref o), (1, .ref ky), (2, .int (nI st0)), (3, .int a3), (4, .int a4)]) X.1 X.2.1 d_Ha_pad_34 hl (by decide) rfl (fun ls hl => ?_)
          refine lv_aload_n X.1 X.2.1 d_Ha_pad_36 rfl (lv_at hl 2 rfl) ?_
          refine q_get X.1 X.2.1 X.2.2.1 i_Ha X.2.2.2.1 X.2.2.2.2 Y m_o e6 rfl 1 (by decide) (X.2.2.1 _ lk_Ha_13) (fun _ h9 => h9) rfl d_Ha_pad_37 ?_
          refine lv_iload X.1 X.2.1 d_Ha_pad_40 (lv_at hl 1 rfl) ?_
          refine lv_iload X.1 X.2.1 d_Ha_pad_42 (lv_at hl 0 rfl) ?_
          refine lv_if_eq (tgt := 59) X.1 X.2.1 d_Ha_pad_44 (by decide) (fun c116 => ?_) (fun c116 => absurd ?_ c116)
          rotate_left
          · (rw [← nI_0, nI_eq (by omega) (by omega)] <;> omega)
          rw [← nI_0] at c116
          rw [nI_eq (by omega) (by omega)] at c116
          refine lv_iload X.1 X.2.1 d_Ha_pad_59 (lv_at hl 6 rfl) ?_
          obtain ⟨v117, ev117⟩ : ∃ z : Int32, (a4 : Int32).toInt8.toInt32 = z := ⟨_, rfl⟩
          refine lv_i2b (v := v117) X.1 X.2.1 d_Ha_pad_61 ev117 ?_
          refine q_bast X.1 X.2.1 X.2.2.2.2 Y 0 m_bl e9 rfl (vp_in_nI (by omega) (by omega)) d_Ha_pad_62 (fun H locs Y => ?_)
          have hg119 : fB (upd g10 ((nI i)).toNatClampNeg (vp_nar .byte v117)) := fB_upd hg11
          generalize (upd g10 ((nI i)).toNatClampNeg (vp_nar .byte v117)) = g118 at Y hg119
          have e121 : (va_up f4 bl (.inl (E.1, 64, .inl g118))) bl = .inl (E.1, 64, .inl g118) := q_up
          have e122 : (va_up f4 bl (.inl (E.1, 64, .inl g118))) o = .inr (6, [.ref wd, .ref bl, .ref sta, .ref inn, .ref out, .int (nI fl), .int tot, .ref mac]) := (q_ne (q_tag e6 e9 (show (6 : Nat) ≠ 1000 by decide))).trans e6
          have e123 : (va_up f4 bl (.inl (E.1, 64, .inl g118))) wd = .inl (E.2.1, 80, .inl g8) := (q_ne ap_wd_bl).trans e7
          have e124 : (va_up f4 bl (.inl (E.1, 64, .inl g118))) sta = .inl (E.2.1, 5, .inl g13) := (q_ne ap_bl_sta.symm).trans e12
          have e125 : (va_up f4 bl (.inl (E.1, 64, .inl g118))) inn = .inl (E.2.1, 5, .inl g_inn) := (q_ne ap_bl_inn.symm).trans e14
          have e126 : (va_up f4 bl (.inl (E.1, 64, .inl g118))) out = .inl (E.2.1, 5, .inl g_out) := (q_ne ap_bl_out.symm).trans e15
          have e127 : (va_up f4 bl (.inl (E.1, 64, .inl g118))) mac = .inl (E.1, 20, .inl g_mac) := (q_ne ap_bl_mac.symm).trans e16
          have e128 : (va_up f4 bl (.inl (E.1, 64, .inl g118))) ky = .inl (E.1, KN, .inl g_ky) := (q_ne ap_bl_ky.symm).trans e17
          have hF129 : ∀ x, x ≠ wd → x ≠ bl → x ≠ sta → (va_up f4 bl (.inl (E.1, 64, .inl g118))) x = f x := fun x h0 h1 h2 => (q_ne h1).trans (hF5 x h0 h1 h2)
          have Y : pH D cCl (pA L sz) s.heap L (va_up f4 bl (.inl (E.1, 64, .inl g118))) H locs := Y
          generalize (va_up f4 bl (.inl (E.1, 64, .inl g118))) = f120 at Y e121 e122 e123 e124 e125 e126 e127 e128 hF129
          refine lv_iinc (v := (nI (i + 1))) (lv' := [(5, .int (nI (i + 1))), (6, .int (nI 0)), (0, .ref o), (1, .ref ky), (2, .int (nI st0)), (3, .int a3), (4, .int a4)]) X.1 X.2.1 d_Ha_pad_63 hl (k := 1) rfl (nI_add _ 1) (by decide) rfl (fun ls hl => ?_)
          refine lv_goto (tgt := 3) X.1 X.2.1 d_Ha_pad_66 (by decide) ?_
          exact ih3  (i + 1)    g8 g118 g13 f120 _ _ _ (by omega) (by omega) (by omega) hg119 e122 e123 e121 e124 e125 e126 e127 e128 hF129 Y (lv_sub hl [0, 2, 3, 4, 5, 6] rfl)
        · skip
          rw [← nI_0] at c115
          rw [nI_ltI (by omega) (by omega)] at c115
          refine lv_iload_n X.1 X.2.1 d_Ha_pad_20 rfl (lv_at hl 3 rfl) ?_
          refine lv_iload X.1 X.2.1 d_Ha_pad_21 (lv_at hl 0 rfl) ?_
          refine lv_iadd X.1 X.2.1 d_Ha_pad_23 ?_
          refine t_eq (y := nI (st0 + i)) (nI_add _ _) ?_
          refine lv_aload_n X.1 X.2.1 d_Ha_pad_24 rfl (lv_at hl 2 rfl) ?_
          refine q_alen X.1 X.2.1 X.2.2.2.2 Y 0 m_ky e17 rfl (v := nI (KN)) rfl d_Ha_pad_25 ?_
          refine lv_icmp_ge (tgt := 33) X.1 X.2.1 d_Ha_pad_26 (by decide) (fun c130 => ?_) (fun c130 => ?_)
          · skip
            rw [nI_leI (by omega) (by omega)] at c130
            refine lv_iconst (v := (nI 0)) X.1 X.2.1 d_Ha_pad_33 (by decide) ?_
            refine lv_istore (lv' := [(6, .int (nI 0)), (5, .int (nI i)), (0, .ref o), (1, .ref ky), (2, .int (nI st0)), (3, .int a3), (4, .int a4)]) X.1 X.2.1 d_Ha_pad_34 hl (by decide) rfl (fun ls hl => ?_)
            refine lv_aload_n X.1 X.2.1 d_Ha_pad_36 rfl (lv_at hl 2 rfl) ?_
            refine q_get X.1 X.2.1 X.2.2.1 i_Ha X.2.2.2.1 X.2.2.2.2 Y m_o e6 rfl 1 (by decide) (X.2.2.1 _ lk_Ha_13) (fun _ h9 => h9) rfl d_Ha_pad_37 ?_
            refine lv_iload X.1 X.2.1 d_Ha_pad_40 (lv_at hl 1 rfl) ?_
            refine lv_iload X.1 X.2.1 d_Ha_pad_42 (lv_at hl 0 rfl) ?_
            refine lv_if_eq (tgt := 59) X.1 X.2.1 d_Ha_pad_44 (by decide) (fun c131 => ?_) (fun c131 => absurd ?_ c131)
            rotate_left
            · (rw [← nI_0, nI_eq (by omega) (by omega)] <;> omega)
            rw [← nI_0] at c131
            rw [nI_eq (by omega) (by omega)] at c131
            refine lv_iload X.1 X.2.1 d_Ha_pad_59 (lv_at hl 6 rfl) ?_
            obtain ⟨v132, ev132⟩ : ∃ z : Int32, (a4 : Int32).toInt8.toInt32 = z := ⟨_, rfl⟩
            refine lv_i2b (v := v132) X.1 X.2.1 d_Ha_pad_61 ev132 ?_
            refine q_bast X.1 X.2.1 X.2.2.2.2 Y 0 m_bl e9 rfl (vp_in_nI (by omega) (by omega)) d_Ha_pad_62 (fun H locs Y => ?_)
            have hg134 : fB (upd g10 ((nI i)).toNatClampNeg (vp_nar .byte v132)) := fB_upd hg11
            generalize (upd g10 ((nI i)).toNatClampNeg (vp_nar .byte v132)) = g133 at Y hg134
            have e136 : (va_up f4 bl (.inl (E.1, 64, .inl g133))) bl = .inl (E.1, 64, .inl g133) := q_up
            have e137 : (va_up f4 bl (.inl (E.1, 64, .inl g133))) o = .inr (6, [.ref wd, .ref bl, .ref sta, .ref inn, .ref out, .int (nI fl), .int tot, .ref mac]) := (q_ne (q_tag e6 e9 (show (6 : Nat) ≠ 1000 by decide))).trans e6
            have e138 : (va_up f4 bl (.inl (E.1, 64, .inl g133))) wd = .inl (E.2.1, 80, .inl g8) := (q_ne ap_wd_bl).trans e7
            have e139 : (va_up f4 bl (.inl (E.1, 64, .inl g133))) sta = .inl (E.2.1, 5, .inl g13) := (q_ne ap_bl_sta.symm).trans e12
            have e140 : (va_up f4 bl (.inl (E.1, 64, .inl g133))) inn = .inl (E.2.1, 5, .inl g_inn) := (q_ne ap_bl_inn.symm).trans e14
            have e141 : (va_up f4 bl (.inl (E.1, 64, .inl g133))) out = .inl (E.2.1, 5, .inl g_out) := (q_ne ap_bl_out.symm).trans e15
            have e142 : (va_up f4 bl (.inl (E.1, 64, .inl g133))) mac = .inl (E.1, 20, .inl g_mac) := (q_ne ap_bl_mac.symm).trans e16
            have e143 : (va_up f4 bl (.inl (E.1, 64, .inl g133))) ky = .inl (E.1, KN, .inl g_ky) := (q_ne ap_bl_ky.symm).trans e17
            have hF144 : ∀ x, x ≠ wd → x ≠ bl → x ≠ sta → (va_up f4 bl (.inl (E.1, 64, .inl g133))) x = f x := fun x h0 h1 h2 => (q_ne h1).trans (hF5 x h0 h1 h2)
            have Y : pH D cCl (pA L sz) s.heap L (va_up f4 bl (.inl (E.1, 64, .inl g133))) H locs := Y
            generalize (va_up f4 bl (.inl (E.1, 64, .inl g133))) = f135 at Y e136 e137 e138 e139 e140 e141 e142 e143 hF144
            refine lv_iinc (v := (nI (i + 1))) (lv' := [(5, .int (nI (i + 1))), (6, .int (nI 0)), (0, .ref o), (1, .ref ky), (2, .int (nI st0)), (3, .int a3), (4, .int a4)]) X.1 X.2.1 d_Ha_pad_63 hl (k := 1) rfl (nI_add _ 1) (by decide) rfl (fun ls hl => ?_)
            refine lv_goto (tgt := 3) X.1 X.2.1 d_Ha_pad_66 (by decide) ?_
            exact ih3  (i + 1)    g8 g133 g13 f135 _ _ _ (by omega) (by omega) (by omega) hg134 e137 e138 e136 e139 e140 e141 e142 e143 hF144 Y (lv_sub hl [0, 2, 3, 4, 5, 6] rfl)
          · skip
            rw [nI_leI (by omega) (by omega)] at c130
            refine lv_iconst (v := (nI 1)) X.1 X.2.1 d_Ha_pad_29 (by decide) ?_
            refine lv_goto (tgt := 34) X.1 X.2.1 d_Ha_pad_30 (by decide) ?_
            refine lv_istore (lv' := [(6, .int (nI 1)), (5, .int (nI i)), (0, .ref o), (1, .ref ky), (2, .int (nI st0)), (3, .int a3), (4, .int a4)]) X.1 X.2.1 d_Ha_pad_34 hl (by decide) rfl (fun ls hl => ?_)
            refine lv_aload_n X.1 X.2.1 d_Ha_pad_36 rfl (lv_at hl 2 rfl) ?_
            refine q_get X.1 X.2.1 X.2.2.1 i_Ha X.2.2.2.1 X.2.2.2.2 Y m_o e6 rfl 1 (by decide) (X.2.2.1 _ lk_Ha_13) (fun _ h9 => h9) rfl d_Ha_pad_37 ?_
            refine lv_iload X.1 X.2.1 d_Ha_pad_40 (lv_at hl 1 rfl) ?_
            refine lv_iload X.1 X.2.1 d_Ha_pad_42 (lv_at hl 0 rfl) ?_
            refine lv_if_eq (tgt := 59) X.1 X.2.1 d_Ha_pad_44 (by decide) (fun c145 => absurd c145 ?_) (fun c145 => ?_)
            · (rw [← nI_0, nI_eq (by omega) (by omega)] <;> omega)
            rw [← nI_0] at c145
            rw [nI_eq (by omega) (by omega)] at c145
            refine lv_aload_n X.1 X.2.1 d_Ha_pad_47 rfl (lv_at hl 3 rfl) ?_
            refine lv_iload_n X.1 X.2.1 d_Ha_pad_48 rfl (lv_at hl 4 rfl) ?_
            refine lv_iload X.1 X.2.1 d_Ha_pad_49 (lv_at hl 1 rfl) ?_
            refine lv_iadd X.1 X.2.1 d_Ha_pad_51 ?_
            refine t_eq (y := nI (st0 + i)) (nI_add _ _) ?_
            refine q_bald X.1 X.2.1 X.2.2.2.2 Y 0 m_ky e17 rfl (vp_in_nI (by omega) (by omega)) d_Ha_pad_52 ?_
            refine t_any (fun v146 => ?_)
            refine lv_iload X.1 X.2.1 d_Ha_pad_53 (lv_at hl 6 rfl) ?_
            refine lv_ixor X.1 X.2.1 d_Ha_pad_55 ?_
            refine t_any (fun v147 => ?_)
            refine lv_goto (tgt := 61) X.1 X.2.1 d_Ha_pad_56 (by decide) ?_
            obtain ⟨v148, ev148⟩ : ∃ z : Int32, (v147 : Int32).toInt8.toInt32 = z := ⟨_, rfl⟩
            refine lv_i2b (v := v148) X.1 X.2.1 d_Ha_pad_61 ev148 ?_
            refine q_bast X.1 X.2.1 X.2.2.2.2 Y 0 m_bl e9 rfl (vp_in_nI (by omega) (by omega)) d_Ha_pad_62 (fun H locs Y => ?_)
            have hg150 : fB (upd g10 ((nI i)).toNatClampNeg (vp_nar .byte v148)) := fB_upd hg11
            generalize (upd g10 ((nI i)).toNatClampNeg (vp_nar .byte v148)) = g149 at Y hg150
            have e152 : (va_up f4 bl (.inl (E.1, 64, .inl g149))) bl = .inl (E.1, 64, .inl g149) := q_up
            have e153 : (va_up f4 bl (.inl (E.1, 64, .inl g149))) o = .inr (6, [.ref wd, .ref bl, .ref sta, .ref inn, .ref out, .int (nI fl), .int tot, .ref mac]) := (q_ne (q_tag e6 e9 (show (6 : Nat) ≠ 1000 by decide))).trans e6
            have e154 : (va_up f4 bl (.inl (E.1, 64, .inl g149))) wd = .inl (E.2.1, 80, .inl g8) := (q_ne ap_wd_bl).trans e7
            have e155 : (va_up f4 bl (.inl (E.1, 64, .inl g149))) sta = .inl (E.2.1, 5, .inl g13) := (q_ne ap_bl_sta.symm).trans e12
            have e156 : (va_up f4 bl (.inl (E.1, 64, .inl g149))) inn = .inl (E.2.1, 5, .inl g_inn) := (q_ne ap_bl_inn.symm).trans e14
            have e157 : (va_up f4 bl (.inl (E.1, 64, .inl g149))) out = .inl (E.2.1, 5, .inl g_out) := (q_ne ap_bl_out.symm).trans e15
            have e158 : (va_up f4 bl (.inl (E.1, 64, .inl g149))) mac = .inl (E.1, 20, .inl g_mac) := (q_ne ap_bl_mac.symm).trans e16
            have e159 : (va_up f4 bl (.inl (E.1, 64, .inl g149))) ky = .inl (E.1, KN, .inl g_ky) := (q_ne ap_bl_ky.symm).trans e17
            have hF160 : ∀ x, x ≠ wd → x ≠ bl → x ≠ sta → (va_up f4 bl (.inl (E.1, 64, .inl g149))) x = f x := fun x h0 h1 h2 => (q_ne h1).trans (hF5 x h0 h1 h2)
            have Y : pH D cCl (pA L sz) s.heap L (va_up f4 bl (.inl (E.1, 64, .inl g149))) H locs := Y
            generalize (va_up f4 bl (.inl (E.1, 64, .inl g149))) = f151 at Y e152 e153 e154 e155 e156 e157 e158 e159 hF160
            refine lv_iinc (v := (nI (i + 1))) (lv' := [(5, .int (nI (i + 1))), (6, .int (nI 1)), (0, .ref o), (1, .ref ky), (2, .int (nI st0)), (3, .int a3), (4, .int a4)]) X.1 X.2.1 d_Ha_pad_63 hl (k := 1) rfl (nI_add _ 1) (by decide) rfl (fun ls hl => ?_)
            refine lv_goto (tgt := 3) X.1 X.2.1 d_Ha_pad_66 (by decide) ?_
            exact ih3  (i + 1)    g8 g149 g13 f151 _ _ _ (by omega) (by omega) (by omega) hg150 e153 e154 e152 e155 e156 e157 e158 e159 hF160 Y (lv_sub hl [0, 2, 3, 4, 5, 6] rfl)
  exact lp1 (64 - 0) (0)    g_wd g_bl g_sta f _ _ _ (by omega) (by omega) (by omega) f_bl e_o e_wd e_bl e_sta e_inn e_out e_mac e_ky (fun _ _ _ _ => rfl) Y (lv_sub hl [0, 1, 2, 3, 4, 5] rfl)
set_option maxHeartbeats 4000000 in
set_option maxRecDepth 100000 in
theorem c_Ha_close (l : Launch) (D : va_G) (E : cE) (L : List Nat) (f : pF) (sz : Nat) (o wd bl sta inn out mac fl : Nat) (tot : Int32) (g_wd g_bl g_sta g_inn g_out g_mac : Nat → Int32) (m_o : o ∈ L) (m_wd : wd ∈ L) (m_bl : bl ∈ L) (m_sta : sta ∈ L) (m_inn : inn ∈ L) (m_out : out ∈ L) (m_mac : mac ∈ L) (e_o : f o = .inr (6, [.ref wd, .ref bl, .ref sta, .ref inn, .ref out, .int (nI fl), .int tot, .ref mac])) (e_wd : f wd = .inl (E.2.1, 80, .inl g_wd)) (e_bl : f bl = .inl (E.1, 64, .inl g_bl)) (e_sta : f sta = .inl (E.2.1, 5, .inl g_sta)) (e_inn : f inn = .inl (E.2.1, 5, .inl g_inn)) (e_out : f out = .inl (E.2.1, 5, .inl g_out)) (e_mac : f mac = .inl (E.1, 20, .inl g_mac)) (f_bl : fB g_bl) (f_mac : fB g_mac) (ap_wd_bl : wd ≠ bl) (ap_wd_sta : wd ≠ sta) (ap_wd_inn : wd ≠ inn) (ap_wd_out : wd ≠ out) (ap_wd_mac : wd ≠ mac) (ap_bl_sta : bl ≠ sta) (ap_bl_inn : bl ≠ inn) (ap_bl_out : bl ≠ out) (ap_bl_mac : bl ≠ mac) (ap_sta_inn : sta ≠ inn) (ap_sta_out : sta ≠ out) (ap_sta_mac : sta ≠ mac) (ap_inn_out : inn ≠ out) (ap_inn_mac : inn ≠ mac) (ap_out_mac : out ≠ mac) (hh0 : fl < 64) : Met l y_Ha_close (k_Ha_close :: lw_tg) (mR 1 28) (va_Pc [.ref o] (cPre D E L f sz)) (va_Qv (fun (u : cU) => u.1 = L ∧ (∀ x, x ≠ wd → x ≠ bl → x ≠ sta → x ≠ mac → u.2 x = f x) ∧ ∃ (g2_wd g2_bl g2_sta g2_mac : Nat → Int32), fB g2_bl ∧ fB g2_mac ∧ u.2 wd = .inl (E.2.1, 80, .inl g2_wd) ∧ u.2 bl = .inl (E.1, 64, .inl g2_bl) ∧ u.2 sta = .inl (E.2.1, 5, .inl g2_sta) ∧ u.2 mac = .inl (E.1, 20, .inl g2_mac)) (cPost D E (pA L sz)) (pA L sz)) 0 0 (pA L sz) := by
  refine c_enter (own := R_Ha) (by decide) rfl (Nat.le_of_ble_eq_true rfl) ⟨rfl, rfl⟩ (fun p e s m below meth c ls AV QQ H locs hQQ X Y hA hin hr hlk hml hl => ?_)
  have hl : lv_has ls 3 [(0, .ref o)] := hl
  refine lv_aload_n X.1 X.2.1 d_Ha_close_0 rfl (lv_at hl 0 rfl) ?_
  refine q_get X.1 X.2.1 X.2.2.1 i_Ha X.2.2.2.1 X.2.2.2.2 Y m_o e_o rfl 1 (by decide) (X.2.2.1 _ lk_Ha_13) (fun _ h9 => h9) rfl d_Ha_close_1 ?_
  refine lv_aload_n X.1 X.2.1 d_Ha_close_4 rfl (lv_at hl 0 rfl) ?_
  refine q_get X.1 X.2.1 X.2.2.1 i_Ha X.2.2.2.1 X.2.2.2.2 Y m_o e_o rfl 5 (by decide) (X.2.2.1 _ lk_Ha_47) (fun _ h9 => h9) rfl d_Ha_close_5 ?_
  refine lv_bipush (v := (-128)) X.1 X.2.1 d_Ha_close_8 (by decide) ?_
  refine q_bast X.1 X.2.1 X.2.2.2.2 Y 0 m_bl e_bl rfl (vp_in_nI (by omega) (by omega)) d_Ha_close_10 (fun H locs Y => ?_)
  have hg2 : fB (upd g_bl ((nI fl)).toNatClampNeg (vp_nar .byte (-128))) := fB_upd f_bl
  generalize (upd g_bl ((nI fl)).toNatClampNeg (vp_nar .byte (-128))) = g1 at Y hg2
  have e4 : (va_up f bl (.inl (E.1, 64, .inl g1))) bl = .inl (E.1, 64, .inl g1) := q_up
  have e5 : (va_up f bl (.inl (E.1, 64, .inl g1))) o = .inr (6, [.ref wd, .ref bl, .ref sta, .ref inn, .ref out, .int (nI fl), .int tot, .ref mac]) := (q_ne (q_tag e_o e_bl (show (6 : Nat) ≠ 1000 by decide))).trans e_o
  have e6 : (va_up f bl (.inl (E.1, 64, .inl g1))) wd = .inl (E.2.1, 80, .inl g_wd) := (q_ne ap_wd_bl).trans e_wd
  have e7 : (va_up f bl (.inl (E.1, 64, .inl g1))) sta = .inl (E.2.1, 5, .inl g_sta) := (q_ne ap_bl_sta.symm).trans e_sta
  have e8 : (va_up f bl (.inl (E.1, 64, .inl g1))) inn = .inl (E.2.1, 5, .inl g_inn) := (q_ne ap_bl_inn.symm).trans e_inn
  have e9 : (va_up f bl (.inl (E.1, 64, .inl g1))) out = .inl (E.2.1, 5, .inl g_out) := (q_ne ap_bl_out.symm).trans e_out
  have e10 : (va_up f bl (.inl (E.1, 64, .inl g1))) mac = .inl (E.1, 20, .inl g_mac) := (q_ne ap_bl_mac.symm).trans e_mac
  have hF11 : ∀ x, x ≠ wd → x ≠ bl → x ≠ sta → x ≠ mac → (va_up f bl (.inl (E.1, 64, .inl g1))) x = f x := fun x h0 h1 h2 h3 => (q_ne h1).trans rfl
  have Y : pH D cCl (pA L sz) s.heap L (va_up f bl (.inl (E.1, 64, .inl g1))) H locs := Y
  generalize (va_up f bl (.inl (E.1, 64, .inl g1))) = f3 at Y e4 e5 e6 e7 e8 e9 e10 hF11
  refine lv_aload_n X.1 X.2.1 d_Ha_close_11 rfl (lv_at hl 0 rfl) ?_
  refine q_get X.1 X.2.1 X.2.2.1 i_Ha X.2.2.2.1 X.2.2.2.2 Y m_o e5 rfl 5 (by decide) (X.2.2.1 _ lk_Ha_47) (fun _ h9 => h9) rfl d_Ha_close_12 ?_
  refine lv_iconst (v := (nI 1)) X.1 X.2.1 d_Ha_close_15 (by decide) ?_
  refine lv_iadd X.1 X.2.1 d_Ha_close_16 ?_
  refine t_eq (y := nI (fl + 1)) (nI_add _ _) ?_
  refine lv_istore_n (lv' := [(1, .int (nI (fl + 1))), (0, .ref o)]) X.1 X.2.1 d_Ha_close_17 rfl hl (by decide) rfl (fun ls hl => ?_)
  have lp12 : ∀ (n13 i : Nat) (g19 : Nat → Int32) (g21 : Nat → Int32) (g24 : Nat → Int32) (g28 : Nat → Int32) (f15 : pF) (H : Heap) (locs : List Loc) (ls : Array Slot), 64 - i = n13 → ((fl + 1) ≤ i) → (i ≤ 64) → fB g21 → fB g28 → f15 o = .inr (6, [.ref wd, .ref bl, .ref sta, .ref inn, .ref out, .int (nI fl), .int tot, .ref mac]) → f15 wd = .inl (E.2.1, 80, .inl g19) → f15 bl = .inl (E.1, 64, .inl g21) → f15 sta = .inl (E.2.1, 5, .inl g24) → f15 inn = .inl (E.2.1, 5, .inl g_inn) → f15 out = .inl (E.2.1, 5, .inl g_out) → f15 mac = .inl (E.1, 20, .inl g28) → (∀ x, x ≠ wd → x ≠ bl → x ≠ sta → x ≠ mac → f15 x = f x) → pH D cCl (pA L sz) s.heap L f15 H locs → lv_has ls 3 [(1, .int (nI i)), (0, .ref o)] → W p l e (mR 1 28) s m AV below meth c H locs 0 0 QQ (F0 m 18 ls []) := by
    intro n13
    induction n13 with
    | zero =>
      intro i g19 g21 g24 g28 f15 H locs ls hm32 hc30 hc31 hg22 hg29 e17 e18 e20 e23 e25 e26 e27 hF16 Y hl
      refine lv_iload_n X.1 X.2.1 d_Ha_close_18 rfl (lv_at hl 0 rfl) ?_
      refine lv_bipush (v := (nI 64)) X.1 X.2.1 d_Ha_close_19 (by decide) ?_
      refine lv_icmp_ge (tgt := 37) X.1 X.2.1 d_Ha_close_21 (by decide) (fun c33 => ?_) (fun c33 => absurd ?_ c33)
      rotate_left
      · (rw [nI_leI (by omega) (by omega)] <;> omega)
      rw [nI_leI (by omega) (by omega)] at c33
      refine lv_aload_n X.1 X.2.1 d_Ha_close_37 rfl (lv_at hl 1 rfl) ?_
      refine q_get X.1 X.2.1 X.2.2.1 i_Ha X.2.2.2.1 X.2.2.2.2 Y m_o e17 rfl 5 (by decide) (X.2.2.1 _ lk_Ha_47) (fun _ h9 => h9) rfl d_Ha_close_38 ?_
      refine lv_bipush (v := (nI 56)) X.1 X.2.1 d_Ha_close_41 (by decide) ?_
      refine lv_icmp_lt (tgt := 71) X.1 X.2.1 d_Ha_close_43 (by decide) (fun c34 => ?_) (fun c34 => ?_)
      · skip
        rw [nI_ltI (by omega) (by omega)] at c34
        refine lv_aload_n X.1 X.2.1 d_Ha_close_71 rfl (lv_at hl 1 rfl) ?_
        refine q_get X.1 X.2.1 X.2.2.1 i_Ha X.2.2.2.1 X.2.2.2.2 Y m_o e17 rfl 6 (by decide) (X.2.2.1 _ lk_Ha_51) (fun _ h9 => h9) rfl d_Ha_close_72 ?_
        refine lv_bipush (v := (nI 8)) X.1 X.2.1 d_Ha_close_75 (by decide) ?_
        refine lv_imul X.1 X.2.1 d_Ha_close_77 ?_
        refine t_any (fun v35 => ?_)
        refine lv_istore_n (lv' := [(1, .int v35), (0, .ref o)]) X.1 X.2.1 d_Ha_close_78 rfl hl (by decide) rfl (fun ls hl => ?_)
        refine lv_iconst (v := (nI 0)) X.1 X.2.1 d_Ha_close_79 (by decide) ?_
        refine lv_istore_n (lv' := [(2, .int (nI 0)), (1, .int v35), (0, .ref o)]) X.1 X.2.1 d_Ha_close_80 rfl hl (by decide) rfl (fun ls hl => ?_)
        have lp36 : ∀ (n37 i : Nat) (g43 : Nat → Int32) (g45 : Nat → Int32) (g48 : Nat → Int32) (g52 : Nat → Int32) (f39 : pF) (H : Heap) (locs : List Loc) (ls : Array Slot), 4 - i = n37 → (0 ≤ i) → (i ≤ 4) → fB g45 → fB g52 → f39 o = .inr (6, [.ref wd, .ref bl, .ref sta, .ref inn, .ref out, .int (nI fl), .int tot, .ref mac]) → f39 wd = .inl (E.2.1, 80, .inl g43) → f39 bl = .inl (E.1, 64, .inl g45) → f39 sta = .inl (E.2.1, 5, .inl g48) → f39 inn = .inl (E.2.1, 5, .inl g_inn) → f39 out = .inl (E.2.1, 5, .inl g_out) → f39 mac = .inl (E.1, 20, .inl g52) → (∀ x, x ≠ wd → x ≠ bl → x ≠ sta → x ≠ mac → f39 x = f x) → pH D cCl (pA L sz) s.heap L f39 H locs → lv_has ls 3 [(2, .int (nI i)), (1, .int v35), (0, .ref o)] → W p l e (mR 1 28) s m AV below meth c H locs 0 0 QQ (F0 m 81 ls []) := by
          intro n37
          induction n37 with
          | zero =>
            intro i g43 g45 g48 g52 f39 H locs ls hm56 hc54 hc55 hg46 hg53 e41 e42 e44 e47 e49 e50 e51 hF40 Y hl
            refine lv_iload_n X.1 X.2.1 d_Ha_close_81 rfl (lv_at hl 0 rfl) ?_
            refine lv_iconst (v := (nI 4)) X.1 X.2.1 d_Ha_close_82 (by decide) ?_
            refine lv_icmp_ge (tgt := 108) X.1 X.2.1 d_Ha_close_83 (by decide) (fun c57 => ?_) (fun c57 => absurd ?_ c57)
            rotate_left
            · (rw [nI_leI (by omega) (by omega)] <;> omega)
            rw [nI_leI (by omega) (by omega)] at c57
            refine lv_aload_n X.1 X.2.1 d_Ha_close_108 rfl (lv_at hl 2 rfl) ?_
            refine c_callv (As := []) (rest := []) (n := 0) X Y hA hml hl.1 (c_Ha_compress l D E L f39 H.size  o wd bl sta inn out mac (fl) (tot) g43 g45 g48 g_inn g_out g52 m_o m_wd m_bl m_sta m_inn m_out m_mac e41 e42 e44 e47 e49 e50 e51 hg46 hg53 ap_wd_bl ap_wd_sta ap_wd_inn ap_wd_out ap_wd_mac ap_bl_sta ap_bl_inn ap_bl_out ap_bl_mac ap_sta_inn ap_sta_out ap_sta_mac ap_inn_out ap_inn_mac ap_out_mac) m_o e41 rfl kl_Ha_Ha_compress ks_Ha_compress kx_Ha_compress ki_Ha_compress ini_Ha ⟨rfl, rfl⟩ hd_Ha_compress ⟨by decide, by decide⟩ rfl (Nat.le_of_ble_eq_true rfl) d_Ha_close_109 ⟨Nat.le_refl _, Nat.le_refl _⟩ (fun u H locs hp Y => ?_)
            obtain ⟨L59, f58⟩ := u
            obtain ⟨eL62, hF60, g64, g65, e66, e67⟩ := hp
            dsimp only at eL62 hF60 e66 e67 Y
            rw [eL62] at Y
            have e68 : f58 o = .inr (6, [.ref wd, .ref bl, .ref sta, .ref inn, .ref out, .int (nI fl), .int tot, .ref mac]) := (hF60 o (q_tag e41 e42 (show (6 : Nat) ≠ 1000 by decide)) (q_tag e41 e47 (show (6 : Nat) ≠ 1000 by decide))).trans e41
            have e69 : f58 bl = .inl (E.1, 64, .inl g45) := (hF60 bl ap_wd_bl.symm ap_bl_sta).trans e44
            have e70 : f58 inn = .inl (E.2.1, 5, .inl g_inn) := (hF60 inn ap_wd_inn.symm ap_sta_inn.symm).trans e49
            have e71 : f58 out = .inl (E.2.1, 5, .inl g_out) := (hF60 out ap_wd_out.symm ap_sta_out.symm).trans e50
            have e72 : f58 mac = .inl (E.1, 20, .inl g52) := (hF60 mac ap_wd_mac.symm ap_sta_mac.symm).trans e51
            have hF73 : ∀ x, x ≠ wd → x ≠ bl → x ≠ sta → x ≠ mac → f58 x = f x := fun x h0 h1 h2 h3 => (hF60 x h0 h2).trans (hF40 x h0 h1 h2 h3)
            refine lv_iconst (v := (nI 0)) X.1 X.2.1 d_Ha_close_112 (by decide) ?_
            refine lv_istore_n (lv' := [(2, .int (nI 0)), (1, .int v35), (0, .ref o)]) X.1 X.2.1 d_Ha_close_113 rfl hl (by decide) rfl (fun ls hl => ?_)
            have lp74 : ∀ (n75 i : Nat) (g81 : Nat → Int32) (g83 : Nat → Int32) (g86 : Nat → Int32) (g90 : Nat → Int32) (f77 : pF) (H : Heap) (locs : List Loc) (ls : Array Slot), 20 - i = n75 → (0 ≤ i) → (i ≤ 20) → fB g83 → fB g90 → f77 o = .inr (6, [.ref wd, .ref bl, .ref sta, .ref inn, .ref out, .int (nI fl), .int tot, .ref mac]) → f77 wd = .inl (E.2.1, 80, .inl g81) → f77 bl = .inl (E.1, 64, .inl g83) → f77 sta = .inl (E.2.1, 5, .inl g86) → f77 inn = .inl (E.2.1, 5, .inl g_inn) → f77 out = .inl (E.2.1, 5, .inl g_out) → f77 mac = .inl (E.1, 20, .inl g90) → (∀ x, x ≠ wd → x ≠ bl → x ≠ sta → x ≠ mac → f77 x = f x) → pH D cCl (pA L sz) s.heap L f77 H locs → lv_has ls 3 [(2, .int (nI i)), (1, .int v35), (0, .ref o)] → W p l e (mR 1 28) s m AV below meth c H locs 0 0 QQ (F0 m 114 ls []) := by
              intro n75
              induction n75 with
              | zero =>
                intro i g81 g83 g86 g90 f77 H locs ls hm94 hc92 hc93 hg84 hg91 e79 e80 e82 e85 e87 e88 e89 hF78 Y hl
                refine lv_iload_n X.1 X.2.1 d_Ha_close_114 rfl (lv_at hl 0 rfl) ?_
                refine lv_bipush (v := (nI 20)) X.1 X.2.1 d_Ha_close_115 (by decide) ?_
                refine lv_icmp_ge (tgt := 151) X.1 X.2.1 d_Ha_close_117 (by decide) (fun c95 => ?_) (fun c95 => absurd ?_ c95)
                rotate_left
                · (rw [nI_leI (by omega) (by omega)] <;> omega)
                rw [nI_leI (by omega) (by omega)] at c95
                exact c_retv hQQ X Y hr hlk ⟨rfl, hF78, g81, g83, g86, g90, hg84, hg91, e80, e82, e85, e89⟩ d_Ha_close_151
              | succ n75 ih76 =>
                intro i g81 g83 g86 g90 f77 H locs ls hm94 hc92 hc93 hg84 hg91 e79 e80 e82 e85 e87 e88 e89 hF78 Y hl
                refine lv_iload_n X.1 X.2.1 d_Ha_close_114 rfl (lv_at hl 0 rfl) ?_
                refine lv_bipush (v := (nI 20)) X.1 X.2.1 d_Ha_close_115 (by decide) ?_
                refine lv_icmp_ge (tgt := 151) X.1 X.2.1 d_Ha_close_117 (by decide) (fun c96 => absurd c96 ?_) (fun c96 => ?_)
                · (rw [nI_leI (by omega) (by omega)] <;> omega)
                rw [nI_leI (by omega) (by omega)] at c96
                refine lv_aload_n X.1 X.2.1 d_Ha_close_120 rfl (lv_at hl 2 rfl) ?_
                refine q_get X.1 X.2.1 X.2.2.1 i_Ha X.2.2.2.1 X.2.2.2.2 Y m_o e79 rfl 7 (by decide) (X.2.2.1 _ lk_Ha_26) (fun _ h9 => h9) rfl d_Ha_close_121 ?_
                refine lv_iload_n X.1 X.2.1 d_Ha_close_124 rfl (lv_at hl 0 rfl) ?_
                refine lv_aload_n X.1 X.2.1 d_Ha_close_125 rfl (lv_at hl 2 rfl) ?_
                refine q_get X.1 X.2.1 X.2.2.1 i_Ha X.2.2.2.1 X.2.2.2.2 Y m_o e79 rfl 2 (by decide) (X.2.2.1 _ lk_Ha_17) (fun _ h9 => h9) rfl d_Ha_close_126 ?_
                refine lv_iload_n X.1 X.2.1 d_Ha_close_129 rfl (lv_at hl 0 rfl) ?_
                refine lv_iconst (v := (nI 4)) X.1 X.2.1 d_Ha_close_130 (by decide) ?_
                refine lv_idiv X.1 X.2.1 d_Ha_close_131 (nI_ne0 (by omega) (by omega)) ?_
                refine t_eq (y := nI ((i) / (4))) (pk_div (by omega) (by omega) (by omega)) ?_
                refine q_iald X.1 X.2.1 X.2.2.2.2 Y 1 m_sta e85 rfl (vp_in_nI (by omega) (by omega)) d_Ha_close_132 ?_
                refine t_any (fun v97 => ?_)
                refine lv_bipush (v := (nI 24)) X.1 X.2.1 d_Ha_close_133 (by decide) ?_
                refine lv_iload_n X.1 X.2.1 d_Ha_close_135 rfl (lv_at hl 0 rfl) ?_
                refine lv_iconst (v := (nI 4)) X.1 X.2.1 d_Ha_close_136 (by decide) ?_
                refine lv_irem X.1 X.2.1 d_Ha_close_137 (nI_ne0 (by omega) (by omega)) ?_
                refine t_eq (y := nI ((i) % (4))) (pk_rem (by omega) (by omega) (by omega)) ?_
                refine lv_bipush (v := (nI 8)) X.1 X.2.1 d_Ha_close_138 (by decide) ?_
                refine lv_imul X.1 X.2.1 d_Ha_close_140 ?_
                refine t_eq (y := nI (((i) % (4)) * (8))) (pk_mul _ _) ?_
                refine lv_isub X.1 X.2.1 d_Ha_close_141 ?_
                refine t_eq (y := nI (24 - (((i) % (4)) * (8)))) (pk_sub (by omega)) ?_
                refine lv_ishr X.1 X.2.1 d_Ha_close_142 ?_
                refine t_any (fun v98 => ?_)
                obtain ⟨v99, ev99⟩ : ∃ z : Int32, (v98 : Int32).toInt8.toInt32 = z := ⟨_, rfl⟩
                refine lv_i2b (v := v99) X.1 X.2.1 d_Ha_close_143 ev99 ?_
                refine q_bast X.1 X.2.1 X.2.2.2.2 Y 0 m_mac e89 rfl (vp_in_nI (by omega) (by omega)) d_Ha_close_144 (fun H locs Y => ?_)
                have hg101 : fB (upd g90 ((nI i)).toNatClampNeg (vp_nar .byte v99)) := fB_upd hg91
                generalize (upd g90 ((nI i)).toNatClampNeg (vp_nar .byte v99)) = g100 at Y hg101
                have e103 : (va_up f77 mac (.inl (E.1, 20, .inl g100))) mac = .inl (E.1, 20, .inl g100) := q_up
                have e104 : (va_up f77 mac (.inl (E.1, 20, .inl g100))) o = .inr (6, [.ref wd, .ref bl, .ref sta, .ref inn, .ref out, .int (nI fl), .int tot, .ref mac]) := (q_ne (q_tag e79 e89 (show (6 : Nat) ≠ 1000 by decide))).trans e79
                have e105 : (va_up f77 mac (.inl (E.1, 20, .inl g100))) wd = .inl (E.2.1, 80, .inl g81) := (q_ne ap_wd_mac).trans e80
                have e106 : (va_up f77 mac (.inl (E.1, 20, .inl g100))) bl = .inl (E.1, 64, .inl g83) := (q_ne ap_bl_mac).trans e82
                have e107 : (va_up f77 mac (.inl (E.1, 20, .inl g100))) sta = .inl (E.2.1, 5, .inl g86) := (q_ne ap_sta_mac).trans e85
                have e108 : (va_up f77 mac (.inl (E.1, 20, .inl g100))) inn = .inl (E.2.1, 5, .inl g_inn) := (q_ne ap_inn_mac).trans e87
                have e109 : (va_up f77 mac (.inl (E.1, 20, .inl g100))) out = .inl (E.2.1, 5, .inl g_out) := (q_ne ap_out_mac).trans e88
                have hF110 : ∀ x, x ≠ wd → x ≠ bl → x ≠ sta → x ≠ mac → (va_up f77 mac (.inl (E.1, 20, .inl g100))) x = f x := fun x h0 h1 h2 h3 => (q_ne h3).trans (hF78 x h0 h1 h2 h3)
                have Y : pH D cCl (pA L sz) s.heap L (va_up f77 mac (.inl (E.1, 20, .inl g100))) H locs := Y
                generalize (va_up f77 mac (.inl (E.1, 20, .inl g100))) = f102 at Y e103 e104 e105 e106 e107 e108 e109 hF110
                refine lv_iinc (v := (nI (i + 1))) (lv' := [(2, .int (nI (i + 1))), (1, .int v35), (0, .ref o)]) X.1 X.2.1 d_Ha_close_145 hl (k := 0) rfl (nI_add _ 1) (by decide) rfl (fun ls hl => ?_)
                refine lv_goto (tgt := 114) X.1 X.2.1 d_Ha_close_148 (by decide) ?_
                exact ih76  (i + 1)    g81 g83 g86 g100 f102 _ _ _ (by omega) (by omega) (by omega) hg84 hg101 e104 e105 e106 e107 e108 e109 e103 hF110 Y (lv_sub hl [0, 1, 2] rfl)
            exact lp74 (20 - 0) (0)    g64 g45 g65 g52 f58 _ _ _ (by omega) (by omega) (by omega) hg46 hg53 e68 e66 e69 e67 e70 e71 e72 hF73 Y (lv_sub hl [0, 1, 2] rfl)
          | succ n37 ih38 =>
            intro i g43 g45 g48 g52 f39 H locs ls hm56 hc54 hc55 hg46 hg53 e41 e42 e44 e47 e49 e50 e51 hF40 Y hl
            refine lv_iload_n X.1 X.2.1 d_Ha_close_81 rfl (lv_at hl 0 rfl) ?_
            refine lv_iconst (v := (nI 4)) X.1 X.2.1 d_Ha_close_82 (by decide) ?_
            refine lv_icmp_ge (tgt := 108) X.1 X.2.1 d_Ha_close_83 (by decide) (fun c111 => absurd c111 ?_) (fun c111 => ?_)
            · (rw [nI_leI (by omega) (by omega)] <;> omega)
            rw [nI_leI (by omega) (by omega)] at c111
            refine lv_aload_n X.1 X.2.1 d_Ha_close_86 rfl (lv_at hl 2 rfl) ?_
            refine q_get X.1 X.2.1 X.2.2.1 i_Ha X.2.2.2.1 X.2.2.2.2 Y m_o e41 rfl 1 (by decide) (X.2.2.1 _ lk_Ha_13) (fun _ h9 => h9) rfl d_Ha_close_87 ?_
            refine lv_bipush (v := (nI 63)) X.1 X.2.1 d_Ha_close_90 (by decide) ?_
            refine lv_iload_n X.1 X.2.1 d_Ha_close_92 rfl (lv_at hl 0 rfl) ?_
            refine lv_isub X.1 X.2.1 d_Ha_close_93 ?_
            refine t_eq (y := nI (63 - (i))) (pk_sub (by omega)) ?_
            refine lv_iload_n X.1 X.2.1 d_Ha_close_94 rfl (lv_at hl 1 rfl) ?_
            refine lv_bipush (v := (nI 8)) X.1 X.2.1 d_Ha_close_95 (by decide) ?_
            refine lv_iload_n X.1 X.2.1 d_Ha_close_97 rfl (lv_at hl 0 rfl) ?_
            refine lv_imul X.1 X.2.1 d_Ha_close_98 ?_
            refine t_eq (y := nI ((8) * (i))) (pk_mul _ _) ?_
            refine lv_ishr X.1 X.2.1 d_Ha_close_99 ?_
            refine t_any (fun v112 => ?_)
            obtain ⟨v113, ev113⟩ : ∃ z : Int32, (v112 : Int32).toInt8.toInt32 = z := ⟨_, rfl⟩
            refine lv_i2b (v := v113) X.1 X.2.1 d_Ha_close_100 ev113 ?_
            refine q_bast X.1 X.2.1 X.2.2.2.2 Y 0 m_bl e44 rfl (vp_in_nI (by omega) (by omega)) d_Ha_close_101 (fun H locs Y => ?_)
            have hg115 : fB (upd g45 ((nI (63 - (i)))).toNatClampNeg (vp_nar .byte v113)) := fB_upd hg46
            generalize (upd g45 ((nI (63 - (i)))).toNatClampNeg (vp_nar .byte v113)) = g114 at Y hg115
            have e117 : (va_up f39 bl (.inl (E.1, 64, .inl g114))) bl = .inl (E.1, 64, .inl g114) := q_up
            have e118 : (va_up f39 bl (.inl (E.1, 64, .inl g114))) o = .inr (6, [.ref wd, .ref bl, .ref sta, .ref inn, .ref out, .int (nI fl), .int tot, .ref mac]) := (q_ne (q_tag e41 e44 (show (6 : Nat) ≠ 1000 by decide))).trans e41
            have e119 : (va_up f39 bl (.inl (E.1, 64, .inl g114))) wd = .inl (E.2.1, 80, .inl g43) := (q_ne ap_wd_bl).trans e42
            have e120 : (va_up f39 bl (.inl (E.1, 64, .inl g114))) sta = .inl (E.2.1, 5, .inl g48) := (q_ne ap_bl_sta.symm).trans e47
            have e121 : (va_up f39 bl (.inl (E.1, 64, .inl g114))) inn = .inl (E.2.1, 5, .inl g_inn) := (q_ne ap_bl_inn.symm).trans e49
            have e122 : (va_up f39 bl (.inl (E.1, 64, .inl g114))) out = .inl (E.2.1, 5, .inl g_out) := (q_ne ap_bl_out.symm).trans e50
            have e123 : (va_up f39 bl (.inl (E.1, 64, .inl g114))) mac = .inl (E.1, 20, .inl g52) := (q_ne ap_bl_mac.symm).trans e51
            have hF124 : ∀ x, x ≠ wd → x ≠ bl → x ≠ sta → x ≠ mac → (va_up f39 bl (.inl (E.1, 64, .inl g114))) x = f x := fun x h0 h1 h2 h3 => (q_ne h1).trans (hF40 x h0 h1 h2 h3)
            have Y : pH D cCl (pA L sz) s.heap L (va_up f39 bl (.inl (E.1, 64, .inl g114))) H locs := Y
            generalize (va_up f39 bl (.inl (E.1, 64, .inl g114))) = f116 at Y e117 e118 e119 e120 e121 e122 e123 hF124
            refine lv_iinc (v := (nI (i + 1))) (lv' := [(2, .int (nI (i + 1))), (1, .int v35), (0, .ref o)]) X.1 X.2.1 d_Ha_close_102 hl (k := 0) rfl (nI_add _ 1) (by decide) rfl (fun ls hl => ?_)
            refine lv_goto (tgt := 81) X.1 X.2.1 d_Ha_close_105 (by decide) ?_
            exact ih38  (i + 1)    g43 g114 g48 g52 f116 _ _ _ (by omega) (by omega) (by omega) hg115 hg53 e118 e119 e117 e120 e121 e122 e123 hF124 Y (lv_sub hl [0, 1, 2] rfl)
        exact lp36 (4 - 0) (0)    g19 g21 g24 g28 f15 _ _ _ (by omega) (by omega) (by omega) hg22 hg29 e17 e18 e20 e23 e25 e26 e27 hF16 Y (lv_sub hl [0, 1, 2] rfl)
      · skip
        rw [nI_ltI (by omega) (by omega)] at c34
        refine lv_aload_n X.1 X.2.1 d_Ha_close_46 rfl (lv_at hl 1 rfl) ?_
        refine c_callv (As := []) (rest := []) (n := 0) X Y hA hml hl.1 (c_Ha_compress l D E L f15 H.size  o wd bl sta inn out mac (fl) (tot) g19 g21 g24 g_inn g_out g28 m_o m_wd m_bl m_sta m_inn m_out m_mac e17 e18 e20 e23 e25 e26 e27 hg22 hg29 ap_wd_bl ap_wd_sta ap_wd_inn ap_wd_out ap_wd_mac ap_bl_sta ap_bl_inn ap_bl_out ap_bl_mac ap_sta_inn ap_sta_out ap_sta_mac ap_inn_out ap_inn_mac ap_out_mac) m_o e17 rfl kl_Ha_Ha_compress ks_Ha_compress kx_Ha_compress ki_Ha_compress ini_Ha ⟨rfl, rfl⟩ hd_Ha_compress ⟨by decide, by decide⟩ rfl (Nat.le_of_ble_eq_true rfl) d_Ha_close_47 ⟨Nat.le_refl _, Nat.le_refl _⟩ (fun u H locs hp Y => ?_)
        obtain ⟨L126, f125⟩ := u
        obtain ⟨eL129, hF127, g131, g132, e133, e134⟩ := hp
        dsimp only at eL129 hF127 e133 e134 Y
        rw [eL129] at Y
        have e135 : f125 o = .inr (6, [.ref wd, .ref bl, .ref sta, .ref inn, .ref out, .int (nI fl), .int tot, .ref mac]) := (hF127 o (q_tag e17 e18 (show (6 : Nat) ≠ 1000 by decide)) (q_tag e17 e23 (show (6 : Nat) ≠ 1000 by decide))).trans e17
        have e136 : f125 bl = .inl (E.1, 64, .inl g21) := (hF127 bl ap_wd_bl.symm ap_bl_sta).trans e20
        have e137 : f125 inn = .inl (E.2.1, 5, .inl g_inn) := (hF127 inn ap_wd_inn.symm ap_sta_inn.symm).trans e25
        have e138 : f125 out = .inl (E.2.1, 5, .inl g_out) := (hF127 out ap_wd_out.symm ap_sta_out.symm).trans e26
        have e139 : f125 mac = .inl (E.1, 20, .inl g28) := (hF127 mac ap_wd_mac.symm ap_sta_mac.symm).trans e27
        have hF140 : ∀ x, x ≠ wd → x ≠ bl → x ≠ sta → x ≠ mac → f125 x = f x := fun x h0 h1 h2 h3 => (hF127 x h0 h2).trans (hF16 x h0 h1 h2 h3)
        refine lv_iconst (v := (nI 0)) X.1 X.2.1 d_Ha_close_50 (by decide) ?_
        refine lv_istore_n (lv' := [(1, .int (nI 0)), (0, .ref o)]) X.1 X.2.1 d_Ha_close_51 rfl hl (by decide) rfl (fun ls hl => ?_)
        have lp141 : ∀ (n142 i : Nat) (g148 : Nat → Int32) (g150 : Nat → Int32) (g153 : Nat → Int32) (g157 : Nat → Int32) (f144 : pF) (H : Heap) (locs : List Loc) (ls : Array Slot), 64 - i = n142 → (0 ≤ i) → (i ≤ 64) → fB g150 → fB g157 → f144 o = .inr (6, [.ref wd, .ref bl, .ref sta, .ref inn, .ref out, .int (nI fl), .int tot, .ref mac]) → f144 wd = .inl (E.2.1, 80, .inl g148) → f144 bl = .inl (E.1, 64, .inl g150) → f144 sta = .inl (E.2.1, 5, .inl g153) → f144 inn = .inl (E.2.1, 5, .inl g_inn) → f144 out = .inl (E.2.1, 5, .inl g_out) → f144 mac = .inl (E.1, 20, .inl g157) → (∀ x, x ≠ wd → x ≠ bl → x ≠ sta → x ≠ mac → f144 x = f x) → pH D cCl (pA L sz) s.heap L f144 H locs → lv_has ls 3 [(1, .int (nI i)), (0, .ref o)] → W p l e (mR 1 28) s m AV below meth c H locs 0 0 QQ (F0 m 52 ls []) := by
          intro n142
          induction n142 with
          | zero =>
            intro i g148 g150 g153 g157 f144 H locs ls hm161 hc159 hc160 hg151 hg158 e146 e147 e149 e152 e154 e155 e156 hF145 Y hl
            refine lv_iload_n X.1 X.2.1 d_Ha_close_52 rfl (lv_at hl 0 rfl) ?_
            refine lv_bipush (v := (nI 64)) X.1 X.2.1 d_Ha_close_53 (by decide) ?_
            refine lv_icmp_ge (tgt := 71) X.1 X.2.1 d_Ha_close_55 (by decide) (fun c162 => ?_) (fun c162 => absurd ?_ c162)
            rotate_left
            · (rw [nI_leI (by omega) (by omega)] <;> omega)
            rw [nI_leI (by omega) (by omega)] at c162
            refine lv_aload_n X.1 X.2.1 d_Ha_close_71 rfl (lv_at hl 1 rfl) ?_
            refine q_get X.1 X.2.1 X.2.2.1 i_Ha X.2.2.2.1 X.2.2.2.2 Y m_o e146 rfl 6 (by decide) (X.2.2.1 _ lk_Ha_51) (fun _ h9 => h9) rfl d_Ha_close_72 ?_
            refine lv_bipush (v := (nI 8)) X.1 X.2.1 d_Ha_close_75 (by decide) ?_
            refine lv_imul X.1 X.2.1 d_Ha_close_77 ?_
            refine t_any (fun v163 => ?_)
            refine lv_istore_n (lv' := [(1, .int v163), (0, .ref o)]) X.1 X.2.1 d_Ha_close_78 rfl hl (by decide) rfl (fun ls hl => ?_)
            refine lv_iconst (v := (nI 0)) X.1 X.2.1 d_Ha_close_79 (by decide) ?_
            refine lv_istore_n (lv' := [(2, .int (nI 0)), (1, .int v163), (0, .ref o)]) X.1 X.2.1 d_Ha_close_80 rfl hl (by decide) rfl (fun ls hl => ?_)
            have lp164 : ∀ (n165 i : Nat) (g171 : Nat → Int32) (g173 : Nat → Int32) (g176 : Nat → Int32) (g180 : Nat → Int32) (f167 : pF) (H : Heap) (locs : List Loc) (ls : Array Slot), 4 - i = n165 → (0 ≤ i) → (i ≤ 4) → fB g173 → fB g180 → f167 o = .inr (6, [.ref wd, .ref bl, .ref sta, .ref inn, .ref out, .int (nI fl), .int tot, .ref mac]) → f167 wd = .inl (E.2.1, 80, .inl g171) → f167 bl = .inl (E.1, 64, .inl g173) → f167 sta = .inl (E.2.1, 5, .inl g176) → f167 inn = .inl (E.2.1, 5, .inl g_inn) → f167 out = .inl (E.2.1, 5, .inl g_out) → f167 mac = .inl (E.1, 20, .inl g180) → (∀ x, x ≠ wd → x ≠ bl → x ≠ sta → x ≠ mac → f167 x = f x) → pH D cCl (pA L sz) s.heap L f167 H locs → lv_has ls 3 [(2, .int (nI i)), (1, .int v163), (0, .ref o)] → W p l e (mR 1 28) s m AV below meth c H locs 0 0 QQ (F0 m 81 ls []) := by
              intro n165
              induction n165 with
              | zero =>
                intro i g171 g173 g176 g180 f167 H locs ls hm184 hc182 hc183 hg174 hg181 e169 e170 e172 e175 e177 e178 e179 hF168 Y hl
                refine lv_iload_n X.1 X.2.1 d_Ha_close_81 rfl (lv_at hl 0 rfl) ?_
                refine lv_iconst (v := (nI 4)) X.1 X.2.1 d_Ha_close_82 (by decide) ?_
                refine lv_icmp_ge (tgt := 108) X.1 X.2.1 d_Ha_close_83 (by decide) (fun c185 => ?_) (fun c185 => absurd ?_ c185)
                rotate_left
                · (rw [nI_leI (by omega) (by omega)] <;> omega)
                rw [nI_leI (by omega) (by omega)] at c185
                refine lv_aload_n X.1 X.2.1 d_Ha_close_108 rfl (lv_at hl 2 rfl) ?_
                refine c_callv (As := []) (rest := []) (n := 0) X Y hA hml hl.1 (c_Ha_compress l D E L f167 H.size  o wd bl sta inn out mac (fl) (tot) g171 g173 g176 g_inn g_out g180 m_o m_wd m_bl m_sta m_inn m_out m_mac e169 e170 e172 e175 e177 e178 e179 hg174 hg181 ap_wd_bl ap_wd_sta ap_wd_inn ap_wd_out ap_wd_mac ap_bl_sta ap_bl_inn ap_bl_out ap_bl_mac ap_sta_inn ap_sta_out ap_sta_mac ap_inn_out ap_inn_mac ap_out_mac) m_o e169 rfl kl_Ha_Ha_compress ks_Ha_compress kx_Ha_compress ki_Ha_compress ini_Ha ⟨rfl, rfl⟩ hd_Ha_compress ⟨by decide, by decide⟩ rfl (Nat.le_of_ble_eq_true rfl) d_Ha_close_109 ⟨Nat.le_refl _, Nat.le_refl _⟩ (fun u H locs hp Y => ?_)
                obtain ⟨L187, f186⟩ := u
                obtain ⟨eL190, hF188, g192, g193, e194, e195⟩ := hp
                dsimp only at eL190 hF188 e194 e195 Y
                rw [eL190] at Y
                have e196 : f186 o = .inr (6, [.ref wd, .ref bl, .ref sta, .ref inn, .ref out, .int (nI fl), .int tot, .ref mac]) := (hF188 o (q_tag e169 e170 (show (6 : Nat) ≠ 1000 by decide)) (q_tag e169 e175 (show (6 : Nat) ≠ 1000 by decide))).trans e169
                have e197 : f186 bl = .inl (E.1, 64, .inl g173) := (hF188 bl ap_wd_bl.symm ap_bl_sta).trans e172
                have e198 : f186 inn = .inl (E.2.1, 5, .inl g_inn) := (hF188 inn ap_wd_inn.symm ap_sta_inn.symm).trans e177
                have e199 : f186 out = .inl (E.2.1, 5, .inl g_out) := (hF188 out ap_wd_out.symm ap_sta_out.symm).trans e178
                have e200 : f186 mac = .inl (E.1, 20, .inl g180) := (hF188 mac ap_wd_mac.symm ap_sta_mac.symm).trans e179
                have hF201 : ∀ x, x ≠ wd → x ≠ bl → x ≠ sta → x ≠ mac → f186 x = f x := fun x h0 h1 h2 h3 => (hF188 x h0 h2).trans (hF168 x h0 h1 h2 h3)
                refine lv_iconst (v := (nI 0)) X.1 X.2.1 d_Ha_close_112 (by decide) ?_
                refine lv_istore_n (lv' := [(2, .int (nI 0)), (1, .int v163), (0, .ref o)]) X.1 X.2.1 d_Ha_close_113 rfl hl (by decide) rfl (fun ls hl => ?_)
                have lp202 : ∀ (n203 i : Nat) (g209 : Nat → Int32) (g211 : Nat → Int32) (g214 : Nat → Int32) (g218 : Nat → Int32) (f205 : pF) (H : Heap) (locs : List Loc) (ls : Array Slot), 20 - i = n203 → (0 ≤ i) → (i ≤ 20) → fB g211 → fB g218 → f205 o = .inr (6, [.ref wd, .ref bl, .ref sta, .ref inn, .ref out, .int (nI fl), .int tot, .ref mac]) → f205 wd = .inl (E.2.1, 80, .inl g209) → f205 bl = .inl (E.1, 64, .inl g211) → f205 sta = .inl (E.2.1, 5, .inl g214) → f205 inn = .inl (E.2.1, 5, .inl g_inn) → f205 out = .inl (E.2.1, 5, .inl g_out) → f205 mac = .inl (E.1, 20, .inl g218) → (∀ x, x ≠ wd → x ≠ bl → x ≠ sta → x ≠ mac → f205 x = f x) → pH D cCl (pA L sz) s.heap L f205 H locs → lv_has ls 3 [(2, .int (nI i)), (1, .int v163), (0, .ref o)] → W p l e (mR 1 28) s m AV below meth c H locs 0 0 QQ (F0 m 114 ls []) := by
                  intro n203
                  induction n203 with
                  | zero =>
                    intro i g209 g211 g214 g218 f205 H locs ls hm222 hc220 hc221 hg212 hg219 e207 e208 e210 e213 e215 e216 e217 hF206 Y hl
                    refine lv_iload_n X.1 X.2.1 d_Ha_close_114 rfl (lv_at hl 0 rfl) ?_
                    refine lv_bipush (v := (nI 20)) X.1 X.2.1 d_Ha_close_115 (by decide) ?_
                    refine lv_icmp_ge (tgt := 151) X.1 X.2.1 d_Ha_close_117 (by decide) (fun c223 => ?_) (fun c223 => absurd ?_ c223)
                    rotate_left
                    · (rw [nI_leI (by omega) (by omega)] <;> omega)
                    rw [nI_leI (by omega) (by omega)] at c223
                    exact c_retv hQQ X Y hr hlk ⟨rfl, hF206, g209, g211, g214, g218, hg212, hg219, e208, e210, e213, e217⟩ d_Ha_close_151
                  | succ n203 ih204 =>
                    intro i g209 g211 g214 g218 f205 H locs ls hm222 hc220 hc221 hg212 hg219 e207 e208 e210 e213 e215 e216 e217 hF206 Y hl
                    refine lv_iload_n X.1 X.2.1 d_Ha_close_114 rfl (lv_at hl 0 rfl) ?_
                    refine lv_bipush (v := (nI 20)) X.1 X.2.1 d_Ha_close_115 (by decide) ?_
                    refine lv_icmp_ge (tgt := 151) X.1 X.2.1 d_Ha_close_117 (by decide) (fun c224 => absurd c224 ?_) (fun c224 => ?_)
                    · (rw [nI_leI (by omega) (by omega)] <;> omega)
                    rw [nI_leI (by omega) (by omega)] at c224
                    refine lv_aload_n X.1 X.2.1 d_Ha_close_120 rfl (lv_at hl 2 rfl) ?_
                    refine q_get X.1 X.2.1 X.2.2.1 i_Ha X.2.2.2.1 X.2.2.2.2 Y m_o e207 rfl 7 (by decide) (X.2.2.1 _ lk_Ha_26) (fun _ h9 => h9) rfl d_Ha_close_121 ?_
                    refine lv_iload_n X.1 X.2.1 d_Ha_close_124 rfl (lv_at hl 0 rfl) ?_
                    refine lv_aload_n X.1 X.2.1 d_Ha_close_125 rfl (lv_at hl 2 rfl) ?_
                    refine q_get X.1 X.2.1 X.2.2.1 i_Ha X.2.2.2.1 X.2.2.2.2 Y m_o e207 rfl 2 (by decide) (X.2.2.1 _ lk_Ha_17) (fun _ h9 => h9) rfl d_Ha_close_126 ?_
                    refine lv_iload_n X.1 X.2.1 d_Ha_close_129 rfl (lv_at hl 0 rfl) ?_
                    refine lv_iconst (v := (nI 4)) X.1 X.2.1 d_Ha_close_130 (by decide) ?_
                    refine lv_idiv X.1 X.2.1 d_Ha_close_131 (nI_ne0 (by omega) (by omega)) ?_
                    refine t_eq (y := nI ((i) / (4))) (pk_div (by omega) (by omega) (by omega)) ?_
                    refine q_iald X.1 X.2.1 X.2.2.2.2 Y 1 m_sta e213 rfl (vp_in_nI (by omega) (by omega)) d_Ha_close_132 ?_
                    refine t_any (fun v225 => ?_)
                    refine lv_bipush (v := (nI 24)) X.1 X.2.1 d_Ha_close_133 (by decide) ?_
                    refine lv_iload_n X.1 X.2.1 d_Ha_close_135 rfl (lv_at hl 0 rfl) ?_
                    refine lv_iconst (v := (nI 4)) X.1 X.2.1 d_Ha_close_136 (by decide) ?_
                    refine lv_irem X.1 X.2.1 d_Ha_close_137 (nI_ne0 (by omega) (by omega)) ?_
                    refine t_eq (y := nI ((i) % (4))) (pk_rem (by omega) (by omega) (by omega)) ?_
                    refine lv_bipush (v := (nI 8)) X.1 X.2.1 d_Ha_close_138 (by decide) ?_
                    refine lv_imul X.1 X.2.1 d_Ha_close_140 ?_
                    refine t_eq (y := nI (((i) % (4)) * (8))) (pk_mul _ _) ?_
                    refine lv_isub X.1 X.2.1 d_Ha_close_141 ?_
                    refine t_eq (y := nI (24 - (((i) % (4)) * (8)))) (pk_sub (by omega)) ?_
                    refine lv_ishr X.1 X.2.1 d_Ha_close_142 ?_
                    refine t_any (fun v226 => ?_)
                    obtain ⟨v227, ev227⟩ : ∃ z : Int32, (v226 : Int32).toInt8.toInt32 = z := ⟨_, rfl⟩
                    refine lv_i2b (v := v227) X.1 X.2.1 d_Ha_close_143 ev227 ?_
                    refine q_bast X.1 X.2.1 X.2.2.2.2 Y 0 m_mac e217 rfl (vp_in_nI (by omega) (by omega)) d_Ha_close_144 (fun H locs Y => ?_)
                    have hg229 : fB (upd g218 ((nI i)).toNatClampNeg (vp_nar .byte v227)) := fB_upd hg219
                    generalize (upd g218 ((nI i)).toNatClampNeg (vp_nar .byte v227)) = g228 at Y hg229
                    have e231 : (va_up f205 mac (.inl (E.1, 20, .inl g228))) mac = .inl (E.1, 20, .inl g228) := q_up
                    have e232 : (va_up f205 mac (.inl (E.1, 20, .inl g228))) o = .inr (6, [.ref wd, .ref bl, .ref sta, .ref inn, .ref out, .int (nI fl), .int tot, .ref mac]) := (q_ne (q_tag e207 e217 (show (6 : Nat) ≠ 1000 by decide))).trans e207
                    have e233 : (va_up f205 mac (.inl (E.1, 20, .inl g228))) wd = .inl (E.2.1, 80, .inl g209) := (q_ne ap_wd_mac).trans e208
                    have e234 : (va_up f205 mac (.inl (E.1, 20, .inl g228))) bl = .inl (E.1, 64, .inl g211) := (q_ne ap_bl_mac).trans e210
                    have e235 : (va_up f205 mac (.inl (E.1, 20, .inl g228))) sta = .inl (E.2.1, 5, .inl g214) := (q_ne ap_sta_mac).trans e213
                    have e236 : (va_up f205 mac (.inl (E.1, 20, .inl g228))) inn = .inl (E.2.1, 5, .inl g_inn) := (q_ne ap_inn_mac).trans e215
                    have e237 : (va_up f205 mac (.inl (E.1, 20, .inl g228))) out = .inl (E.2.1, 5, .inl g_out) := (q_ne ap_out_mac).trans e216
                    have hF238 : ∀ x, x ≠ wd → x ≠ bl → x ≠ sta → x ≠ mac → (va_up f205 mac (.inl (E.1, 20, .inl g228))) x = f x := fun x h0 h1 h2 h3 => (q_ne h3).trans (hF206 x h0 h1 h2 h3)
                    have Y : pH D cCl (pA L sz) s.heap L (va_up f205 mac (.inl (E.1, 20, .inl g228))) H locs := Y
                    generalize (va_up f205 mac (.inl (E.1, 20, .inl g228))) = f230 at Y e231 e232 e233 e234 e235 e236 e237 hF238
                    refine lv_iinc (v := (nI (i + 1))) (lv' := [(2, .int (nI (i + 1))), (1, .int v163), (0, .ref o)]) X.1 X.2.1 d_Ha_close_145 hl (k := 0) rfl (nI_add _ 1) (by decide) rfl (fun ls hl => ?_)
                    refine lv_goto (tgt := 114) X.1 X.2.1 d_Ha_close_148 (by decide) ?_
                    exact ih204  (i + 1)    g209 g211 g214 g228 f230 _ _ _ (by omega) (by omega) (by omega) hg212 hg229 e232 e233 e234 e235 e236 e237 e231 hF238 Y (lv_sub hl [0, 1, 2] rfl)
                exact lp202 (20 - 0) (0)    g192 g173 g193 g180 f186 _ _ _ (by omega) (by omega) (by omega) hg174 hg181 e196 e194 e197 e195 e198 e199 e200 hF201 Y (lv_sub hl [0, 1, 2] rfl)
              | succ n165 ih166 =>
                intro i g171 g173 g176 g180 f167 H locs ls hm184 hc182 hc183 hg174 hg181 e169 e170 e172 e175 e177 e178 e179 hF168 Y hl
                refine lv_iload_n X.1 X.2.1 d_Ha_close_81 rfl (lv_at hl 0 rfl) ?_
                refine lv_iconst (v := (nI 4)) X.1 X.2.1 d_Ha_close_82 (by decide) ?_
                refine lv_icmp_ge (tgt := 108) X.1 X.2.1 d_Ha_close_83 (by decide) (fun c239 => absurd c239 ?_) (fun c239 => ?_)
                · (rw [nI_leI (by omega) (by omega)] <;> omega)
                rw [nI_leI (by omega) (by omega)] at c239
                refine lv_aload_n X.1 X.2.1 d_Ha_close_86 rfl (lv_at hl 2 rfl) ?_
                refine q_get X.1 X.2.1 X.2.2.1 i_Ha X.2.2.2.1 X.2.2.2.2 Y m_o e169 rfl 1 (by decide) (X.2.2.1 _ lk_Ha_13) (fun _ h9 => h9) rfl d_Ha_close_87 ?_
                refine lv_bipush (v := (nI 63)) X.1 X.2.1 d_Ha_close_90 (by decide) ?_
                refine lv_iload_n X.1 X.2.1 d_Ha_close_92 rfl (lv_at hl 0 rfl) ?_
                refine lv_isub X.1 X.2.1 d_Ha_close_93 ?_
                refine t_eq (y := nI (63 - (i))) (pk_sub (by omega)) ?_
                refine lv_iload_n X.1 X.2.1 d_Ha_close_94 rfl (lv_at hl 1 rfl) ?_
                refine lv_bipush (v := (nI 8)) X.1 X.2.1 d_Ha_close_95 (by decide) ?_
                refine lv_iload_n X.1 X.2.1 d_Ha_close_97 rfl (lv_at hl 0 rfl) ?_
                refine lv_imul X.1 X.2.1 d_Ha_close_98 ?_
                refine t_eq (y := nI ((8) * (i))) (pk_mul _ _) ?_
                refine lv_ishr X.1 X.2.1 d_Ha_close_99 ?_
                refine t_any (fun v240 => ?_)
                obtain ⟨v241, ev241⟩ : ∃ z : Int32, (v240 : Int32).toInt8.toInt32 = z := ⟨_, rfl⟩
                refine lv_i2b (v := v241) X.1 X.2.1 d_Ha_close_100 ev241 ?_
                refine q_bast X.1 X.2.1 X.2.2.2.2 Y 0 m_bl e172 rfl (vp_in_nI (by omega) (by omega)) d_Ha_close_101 (fun H locs Y => ?_)
                have hg243 : fB (upd g173 ((nI (63 - (i)))).toNatClampNeg (vp_nar .byte v241)) := fB_upd hg174
                generalize (upd g173 ((nI (63 - (i)))).toNatClampNeg (vp_nar .byte v241)) = g242 at Y hg243
                have e245 : (va_up f167 bl (.inl (E.1, 64, .inl g242))) bl = .inl (E.1, 64, .inl g242) := q_up
                have e246 : (va_up f167 bl (.inl (E.1, 64, .inl g242))) o = .inr (6, [.ref wd, .ref bl, .ref sta, .ref inn, .ref out, .int (nI fl), .int tot, .ref mac]) := (q_ne (q_tag e169 e172 (show (6 : Nat) ≠ 1000 by decide))).trans e169
                have e247 : (va_up f167 bl (.inl (E.1, 64, .inl g242))) wd = .inl (E.2.1, 80, .inl g171) := (q_ne ap_wd_bl).trans e170
                have e248 : (va_up f167 bl (.inl (E.1, 64, .inl g242))) sta = .inl (E.2.1, 5, .inl g176) := (q_ne ap_bl_sta.symm).trans e175
                have e249 : (va_up f167 bl (.inl (E.1, 64, .inl g242))) inn = .inl (E.2.1, 5, .inl g_inn) := (q_ne ap_bl_inn.symm).trans e177
                have e250 : (va_up f167 bl (.inl (E.1, 64, .inl g242))) out = .inl (E.2.1, 5, .inl g_out) := (q_ne ap_bl_out.symm).trans e178
                have e251 : (va_up f167 bl (.inl (E.1, 64, .inl g242))) mac = .inl (E.1, 20, .inl g180) := (q_ne ap_bl_mac.symm).trans e179
                have hF252 : ∀ x, x ≠ wd → x ≠ bl → x ≠ sta → x ≠ mac → (va_up f167 bl (.inl (E.1, 64, .inl g242))) x = f x := fun x h0 h1 h2 h3 => (q_ne h1).trans (hF168 x h0 h1 h2 h3)
                have Y : pH D cCl (pA L sz) s.heap L (va_up f167 bl (.inl (E.1, 64, .inl g242))) H locs := Y
                generalize (va_up f167 bl (.inl (E.1, 64, .inl g242))) = f244 at Y e245 e246 e247 e248 e249 e250 e251 hF252
                refine lv_iinc (v := (nI (i + 1))) (lv' := [(2, .int (nI (i + 1))), (1, .int v163), (0, .ref o)]) X.1 X.2.1 d_Ha_close_102 hl (k := 0) rfl (nI_add _ 1) (by decide) rfl (fun ls hl => ?_)
                refine lv_goto (tgt := 81) X.1 X.2.1 d_Ha_close_105 (by decide) ?_
                exact ih166  (i + 1)    g171 g242 g176 g180 f244 _ _ _ (by omega) (by omega) (by omega) hg243 hg181 e246 e247 e245 e248 e249 e250 e251 hF252 Y (lv_sub hl [0, 1, 2] rfl)
            exact lp164 (4 - 0) (0)    g148 g150 g153 g157 f144 _ _ _ (by omega) (by omega) (by omega) hg151 hg158 e146 e147 e149 e152 e154 e155 e156 hF145 Y (lv_sub hl [0, 1, 2] rfl)
          | succ n142 ih143 =>
            intro i g148 g150 g153 g157 f144 H locs ls hm161 hc159 hc160 hg151 hg158 e146 e147 e149 e152 e154 e155 e156 hF145 Y hl
            refine lv_iload_n X.1 X.2.1 d_Ha_close_52 rfl (lv_at hl 0 rfl) ?_
            refine lv_bipush (v := (nI 64)) X.1 X.2.1 d_Ha_close_53 (by decide) ?_
            refine lv_icmp_ge (tgt := 71) X.1 X.2.1 d_Ha_close_55 (by decide) (fun c253 => absurd c253 ?_) (fun c253 => ?_)
            · (rw [nI_leI (by omega) (by omega)] <;> omega)
            rw [nI_leI (by omega) (by omega)] at c253
            refine lv_aload_n X.1 X.2.1 d_Ha_close_58 rfl (lv_at hl 1 rfl) ?_
            refine q_get X.1 X.2.1 X.2.2.1 i_Ha X.2.2.2.1 X.2.2.2.2 Y m_o e146 rfl 1 (by decide) (X.2.2.1 _ lk_Ha_13) (fun _ h9 => h9) rfl d_Ha_close_59 ?_
            refine lv_iload_n X.1 X.2.1 d_Ha_close_62 rfl (lv_at hl 0 rfl) ?_
            refine lv_iconst (v := (nI 0)) X.1 X.2.1 d_Ha_close_63 (by decide) ?_
            refine q_bast X.1 X.2.1 X.2.2.2.2 Y 0 m_bl e149 rfl (vp_in_nI (by omega) (by omega)) d_Ha_close_64 (fun H locs Y => ?_)
            have hg255 : fB (upd g150 ((nI i)).toNatClampNeg (vp_nar .byte (nI 0))) := fB_upd hg151
            generalize (upd g150 ((nI i)).toNatClampNeg (vp_nar .byte (nI 0))) = g254 at Y hg255
            have e257 : (va_up f144 bl (.inl (E.1, 64, .inl g254))) bl = .inl (E.1, 64, .inl g254) := q_up
            have e258 : (va_up f144 bl (.inl (E.1, 64, .inl g254))) o = .inr (6, [.ref wd, .ref bl, .ref sta, .ref inn, .ref out, .int (nI fl), .int tot, .ref mac]) := (q_ne (q_tag e146 e149 (show (6 : Nat) ≠ 1000 by decide))).trans e146
            have e259 : (va_up f144 bl (.inl (E.1, 64, .inl g254))) wd = .inl (E.2.1, 80, .inl g148) := (q_ne ap_wd_bl).trans e147
            have e260 : (va_up f144 bl (.inl (E.1, 64, .inl g254))) sta = .inl (E.2.1, 5, .inl g153) := (q_ne ap_bl_sta.symm).trans e152
            have e261 : (va_up f144 bl (.inl (E.1, 64, .inl g254))) inn = .inl (E.2.1, 5, .inl g_inn) := (q_ne ap_bl_inn.symm).trans e154
            have e262 : (va_up f144 bl (.inl (E.1, 64, .inl g254))) out = .inl (E.2.1, 5, .inl g_out) := (q_ne ap_bl_out.symm).trans e155
            have e263 : (va_up f144 bl (.inl (E.1, 64, .inl g254))) mac = .inl (E.1, 20, .inl g157) := (q_ne ap_bl_mac.symm).trans e156
            have hF264 : ∀ x, x ≠ wd → x ≠ bl → x ≠ sta → x ≠ mac → (va_up f144 bl (.inl (E.1, 64, .inl g254))) x = f x := fun x h0 h1 h2 h3 => (q_ne h1).trans (hF145 x h0 h1 h2 h3)
            have Y : pH D cCl (pA L sz) s.heap L (va_up f144 bl (.inl (E.1, 64, .inl g254))) H locs := Y
            generalize (va_up f144 bl (.inl (E.1, 64, .inl g254))) = f256 at Y e257 e258 e259 e260 e261 e262 e263 hF264
            refine lv_iinc (v := (nI (i + 1))) (lv' := [(1, .int (nI (i + 1))), (0, .ref o)]) X.1 X.2.1 d_Ha_close_65 hl (k := 0) rfl (nI_add _ 1) (by decide) rfl (fun ls hl => ?_)
            refine lv_goto (tgt := 52) X.1 X.2.1 d_Ha_close_68 (by decide) ?_
            exact ih143  (i + 1)    g148 g254 g153 g157 f256 _ _ _ (by omega) (by omega) (by omega) hg255 hg158 e258 e259 e257 e260 e261 e262 e263 hF264 Y (lv_sub hl [0, 1] rfl)
        exact lp141 (64 - 0) (0)    g131 g21 g132 g28 f125 _ _ _ (by omega) (by omega) (by omega) hg22 hg29 e135 e133 e136 e134 e137 e138 e139 hF140 Y (lv_sub hl [0, 1] rfl)
    | succ n13 ih14 =>
      intro i g19 g21 g24 g28 f15 H locs ls hm32 hc30 hc31 hg22 hg29 e17 e18 e20 e23 e25 e26 e27 hF16 Y hl
      refine lv_iload_n X.1 X.2.1 d_Ha_close_18 rfl (lv_at hl 0 rfl) ?_
      refine lv_bipush (v := (nI 64)) X.1 X.2.1 d_Ha_close_19 (by decide) ?_
      refine lv_icmp_ge (tgt := 37) X.1 X.2.1 d_Ha_close_21 (by decide) (fun c265 => absurd c265 ?_) (fun c265 => ?_)
      · (rw [nI_leI (by omega) (by omega)] <;> omega)
      rw [nI_leI (by omega) (by omega)] at c265
      refine lv_aload_n X.1 X.2.1 d_Ha_close_24 rfl (lv_at hl 1 rfl) ?_
      refine q_get X.1 X.2.1 X.2.2.1 i_Ha X.2.2.2.1 X.2.2.2.2 Y m_o e17 rfl 1 (by decide) (X.2.2.1 _ lk_Ha_13) (fun _ h9 => h9) rfl d_Ha_close_25 ?_
      refine lv_iload_n X.1 X.2.1 d_Ha_close_28 rfl (lv_at hl 0 rfl) ?_
      refine lv_iconst (v := (nI 0)) X.1 X.2.1 d_Ha_close_29 (by decide) ?_
      refine q_bast X.1 X.2.1 X.2.2.2.2 Y 0 m_bl e20 rfl (vp_in_nI (by omega) (by omega)) d_Ha_close_30 (fun H locs Y => ?_)
      have hg267 : fB (upd g21 ((nI i)).toNatClampNeg (vp_nar .byte (nI 0))) := fB_upd hg22
      generalize (upd g21 ((nI i)).toNatClampNeg (vp_nar .byte (nI 0))) = g266 at Y hg267
      have e269 : (va_up f15 bl (.inl (E.1, 64, .inl g266))) bl = .inl (E.1, 64, .inl g266) := q_up
      have e270 : (va_up f15 bl (.inl (E.1, 64, .inl g266))) o = .inr (6, [.ref wd, .ref bl, .ref sta, .ref inn, .ref out, .int (nI fl), .int tot, .ref mac]) := (q_ne (q_tag e17 e20 (show (6 : Nat) ≠ 1000 by decide))).trans e17
      have e271 : (va_up f15 bl (.inl (E.1, 64, .inl g266))) wd = .inl (E.2.1, 80, .inl g19) := (q_ne ap_wd_bl).trans e18
      have e272 : (va_up f15 bl (.inl (E.1, 64, .inl g266))) sta = .inl (E.2.1, 5, .inl g24) := (q_ne ap_bl_sta.symm).trans e23
      have e273 : (va_up f15 bl (.inl (E.1, 64, .inl g266))) inn = .inl (E.2.1, 5, .inl g_inn) := (q_ne ap_bl_inn.symm).trans e25
      have e274 : (va_up f15 bl (.inl (E.1, 64, .inl g266))) out = .inl (E.2.1, 5, .inl g_out) := (q_ne ap_bl_out.symm).trans e26
      have e275 : (va_up f15 bl (.inl (E.1, 64, .inl g266))) mac = .inl (E.1, 20, .inl g28) := (q_ne ap_bl_mac.symm).trans e27
      have hF276 : ∀ x, x ≠ wd → x ≠ bl → x ≠ sta → x ≠ mac → (va_up f15 bl (.inl (E.1, 64, .inl g266))) x = f x := fun x h0 h1 h2 h3 => (q_ne h1).trans (hF16 x h0 h1 h2 h3)
      have Y : pH D cCl (pA L sz) s.heap L (va_up f15 bl (.inl (E.1, 64, .inl g266))) H locs := Y
      generalize (va_up f15 bl (.inl (E.1, 64, .inl g266))) = f268 at Y e269 e270 e271 e272 e273 e274 e275 hF276
      refine lv_iinc (v := (nI (i + 1))) (lv' := [(1, .int (nI (i + 1))), (0, .ref o)]) X.1 X.2.1 d_Ha_close_31 hl (k := 0) rfl (nI_add _ 1) (by decide) rfl (fun ls hl => ?_)
      refine lv_goto (tgt := 18) X.1 X.2.1 d_Ha_close_34 (by decide) ?_
      exact ih14  (i + 1)    g19 g266 g24 g28 f268 _ _ _ (by omega) (by omega) (by omega) hg267 hg29 e270 e271 e269 e272 e273 e274 e275 hF276 Y (lv_sub hl [0, 1] rfl)
  exact lp12 (64 - (fl + 1)) (fl + 1)    g_wd g1 g_sta g_mac f3 _ _ _ (by omega) (by omega) (by omega) hg2 f_mac e5 e6 e4 e7 e8 e9 e10 hF11 Y (lv_sub hl [0, 1] rfl)
