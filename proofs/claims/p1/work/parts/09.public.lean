abbrev b_clock : ByteArray := prog_14_method_7_code
def y_clock : MethodName := ⟨R_M, "clock", "(I)Z"⟩
abbrev k_clock : Cond := .code y_clock b_clock 2 (some .boolean)
theorem ki_clock : k_clock ∈ lw_tg := in_t 2328 (by decide +kernel)
theorem ks_clock : Cond.instanceMethod y_clock ∈ lw_tg := in_t 2326 (by decide +kernel)
theorem d_clock_0 : decode b_clock 0 = .ok (.iload_n 1, 1) := by decide +kernel
theorem d_clock_1 : decode b_clock 1 = .ok (.ifCond .lt 10, 3) := by decide +kernel
theorem d_clock_4 : decode b_clock 4 = .ok (.iload_n 1, 1) := by decide +kernel
theorem d_clock_5 : decode b_clock 5 = .ok (.ldc_w 351, 3) := by decide +kernel
theorem d_clock_8 : decode b_clock 8 = .ok (.if_icmp .le 5, 3) := by decide +kernel
theorem d_clock_11 : decode b_clock 11 = .ok (.iconst 0, 1) := by decide +kernel
theorem d_clock_12 : decode b_clock 12 = .ok (.ireturn, 1) := by decide +kernel
theorem d_clock_13 : decode b_clock 13 = .ok (.aload_n 0, 1) := by decide +kernel
theorem d_clock_14 : decode b_clock 14 = .ok (.iload_n 1, 1) := by decide +kernel
theorem d_clock_15 : decode b_clock 15 = .ok (.putfield 18, 3) := by decide +kernel
theorem d_clock_18 : decode b_clock 18 = .ok (.iconst 1, 1) := by decide +kernel
theorem d_clock_19 : decode b_clock 19 = .ok (.ireturn, 1) := by decide +kernel
abbrev b_room : ByteArray := prog_14_method_93_code
def y_room : MethodName := ⟨R_M, "room", "(I)Z"⟩
abbrev k_room : Cond := .code y_room b_room 2 (some .boolean)
theorem ki_room : k_room ∈ lw_tg := in_t 2351 (by decide +kernel)
theorem ks_room : Cond.instanceMethod y_room ∈ lw_tg := in_t 2349 (by decide +kernel)
theorem d_room_0 : decode b_room 0 = .ok (.iload_n 1, 1) := by decide +kernel
theorem d_room_1 : decode b_room 1 = .ok (.iconst 1, 1) := by decide +kernel
theorem d_room_2 : decode b_room 2 = .ok (.if_icmp .lt 9, 3) := by decide +kernel
theorem d_room_5 : decode b_room 5 = .ok (.iload_n 1, 1) := by decide +kernel
theorem d_room_6 : decode b_room 6 = .ok (.bipush 32, 2) := by decide +kernel
theorem d_room_8 : decode b_room 8 = .ok (.if_icmp .le 5, 3) := by decide +kernel
theorem d_room_11 : decode b_room 11 = .ok (.iconst 0, 1) := by decide +kernel
theorem d_room_12 : decode b_room 12 = .ok (.ireturn, 1) := by decide +kernel
theorem d_room_13 : decode b_room 13 = .ok (.aload_n 0, 1) := by decide +kernel
theorem d_room_14 : decode b_room 14 = .ok (.iload_n 1, 1) := by decide +kernel
theorem d_room_15 : decode b_room 15 = .ok (.putfield 134, 3) := by decide +kernel
theorem d_room_18 : decode b_room 18 = .ok (.iconst 1, 1) := by decide +kernel
theorem d_room_19 : decode b_room 19 = .ok (.ireturn, 1) := by decide +kernel
abbrev b_feed : ByteArray := prog_14_method_3_code
def y_feed : MethodName := ⟨R_M, "feed", "(IIIII)Z"⟩
abbrev k_feed : Cond := .code y_feed b_feed 8 (some .boolean)
theorem ki_feed : k_feed ∈ lw_tg := in_t 2312 (by decide +kernel)
theorem ks_feed : Cond.instanceMethod y_feed ∈ lw_tg := in_t 2310 (by decide +kernel)
theorem d_feed_0 : decode b_feed 0 = .ok (.aload_n 0, 1) := by decide +kernel
theorem d_feed_1 : decode b_feed 1 = .ok (.getfield 332, 3) := by decide +kernel
theorem d_feed_4 : decode b_feed 4 = .ok (.bipush 20, 2) := by decide +kernel
theorem d_feed_6 : decode b_feed 6 = .ok (.iadd, 1) := by decide +kernel
theorem d_feed_7 : decode b_feed 7 = .ok (.sipush 4000, 3) := by decide +kernel
theorem d_feed_10 : decode b_feed 10 = .ok (.if_icmp .le 5, 3) := by decide +kernel
theorem d_feed_13 : decode b_feed 13 = .ok (.iconst 0, 1) := by decide +kernel
theorem d_feed_14 : decode b_feed 14 = .ok (.ireturn, 1) := by decide +kernel
theorem d_feed_15 : decode b_feed 15 = .ok (.iconst 0, 1) := by decide +kernel
theorem d_feed_16 : decode b_feed 16 = .ok (.istore 6, 2) := by decide +kernel
theorem d_feed_18 : decode b_feed 18 = .ok (.iload 6, 2) := by decide +kernel
theorem d_feed_20 : decode b_feed 20 = .ok (.bipush 20, 2) := by decide +kernel
theorem d_feed_22 : decode b_feed 22 = .ok (.if_icmp .ge 90, 3) := by decide +kernel
theorem d_feed_25 : decode b_feed 25 = .ok (.iload 6, 2) := by decide +kernel
theorem d_feed_27 : decode b_feed 27 = .ok (.iconst 4, 1) := by decide +kernel
theorem d_feed_28 : decode b_feed 28 = .ok (.if_icmp .ge 7, 3) := by decide +kernel
theorem d_feed_31 : decode b_feed 31 = .ok (.iload_n 1, 1) := by decide +kernel
theorem d_feed_32 : decode b_feed 32 = .ok (.goto 39, 3) := by decide +kernel
theorem d_feed_35 : decode b_feed 35 = .ok (.iload 6, 2) := by decide +kernel
theorem d_feed_37 : decode b_feed 37 = .ok (.bipush 8, 2) := by decide +kernel
theorem d_feed_39 : decode b_feed 39 = .ok (.if_icmp .ge 7, 3) := by decide +kernel
theorem d_feed_42 : decode b_feed 42 = .ok (.iload_n 2, 1) := by decide +kernel
theorem d_feed_43 : decode b_feed 43 = .ok (.goto 28, 3) := by decide +kernel
theorem d_feed_46 : decode b_feed 46 = .ok (.iload 6, 2) := by decide +kernel
theorem d_feed_48 : decode b_feed 48 = .ok (.bipush 12, 2) := by decide +kernel
theorem d_feed_50 : decode b_feed 50 = .ok (.if_icmp .ge 7, 3) := by decide +kernel
theorem d_feed_53 : decode b_feed 53 = .ok (.iload_n 3, 1) := by decide +kernel
theorem d_feed_54 : decode b_feed 54 = .ok (.goto 17, 3) := by decide +kernel
theorem d_feed_57 : decode b_feed 57 = .ok (.iload 6, 2) := by decide +kernel
theorem d_feed_59 : decode b_feed 59 = .ok (.bipush 16, 2) := by decide +kernel
theorem d_feed_61 : decode b_feed 61 = .ok (.if_icmp .ge 8, 3) := by decide +kernel
theorem d_feed_64 : decode b_feed 64 = .ok (.iload 4, 2) := by decide +kernel
theorem d_feed_66 : decode b_feed 66 = .ok (.goto 5, 3) := by decide +kernel
theorem d_feed_69 : decode b_feed 69 = .ok (.iload 5, 2) := by decide +kernel
theorem d_feed_71 : decode b_feed 71 = .ok (.istore 7, 2) := by decide +kernel
theorem d_feed_73 : decode b_feed 73 = .ok (.aload_n 0, 1) := by decide +kernel
theorem d_feed_74 : decode b_feed 74 = .ok (.getfield 10, 3) := by decide +kernel
theorem d_feed_77 : decode b_feed 77 = .ok (.aload_n 0, 1) := by decide +kernel
theorem d_feed_78 : decode b_feed 78 = .ok (.getfield 332, 3) := by decide +kernel
theorem d_feed_81 : decode b_feed 81 = .ok (.iload 7, 2) := by decide +kernel
theorem d_feed_83 : decode b_feed 83 = .ok (.bipush 24, 2) := by decide +kernel
theorem d_feed_85 : decode b_feed 85 = .ok (.bipush 8, 2) := by decide +kernel
theorem d_feed_87 : decode b_feed 87 = .ok (.iload 6, 2) := by decide +kernel
theorem d_feed_89 : decode b_feed 89 = .ok (.iconst 4, 1) := by decide +kernel
theorem d_feed_90 : decode b_feed 90 = .ok (.irem, 1) := by decide +kernel
theorem d_feed_91 : decode b_feed 91 = .ok (.imul, 1) := by decide +kernel
theorem d_feed_92 : decode b_feed 92 = .ok (.isub, 1) := by decide +kernel
theorem d_feed_93 : decode b_feed 93 = .ok (.ishr, 1) := by decide +kernel
theorem d_feed_94 : decode b_feed 94 = .ok (.i2b, 1) := by decide +kernel
theorem d_feed_95 : decode b_feed 95 = .ok (.bastore, 1) := by decide +kernel
theorem d_feed_96 : decode b_feed 96 = .ok (.aload_n 0, 1) := by decide +kernel
theorem d_feed_97 : decode b_feed 97 = .ok (.dup, 1) := by decide +kernel
theorem d_feed_98 : decode b_feed 98 = .ok (.getfield 332, 3) := by decide +kernel
theorem d_feed_101 : decode b_feed 101 = .ok (.iconst 1, 1) := by decide +kernel
theorem d_feed_102 : decode b_feed 102 = .ok (.iadd, 1) := by decide +kernel
theorem d_feed_103 : decode b_feed 103 = .ok (.putfield 332, 3) := by decide +kernel
theorem d_feed_106 : decode b_feed 106 = .ok (.iinc 6 1, 3) := by decide +kernel
theorem d_feed_109 : decode b_feed 109 = .ok (.goto (-91), 3) := by decide +kernel
theorem d_feed_112 : decode b_feed 112 = .ok (.iconst 1, 1) := by decide +kernel
theorem d_feed_113 : decode b_feed 113 = .ok (.ireturn, 1) := by decide +kernel
abbrev b_carry : ByteArray := prog_14_method_6_code
def y_carry : MethodName := ⟨R_M, "carry", "(II)I"⟩
abbrev k_carry : Cond := .code y_carry b_carry 5 (some .int)
theorem ki_carry : k_carry ∈ lw_tg := in_t 2324 (by decide +kernel)
theorem ks_carry : Cond.instanceMethod y_carry ∈ lw_tg := in_t 2322 (by decide +kernel)
theorem d_carry_0 : decode b_carry 0 = .ok (.aload_n 0, 1) := by decide +kernel
theorem d_carry_1 : decode b_carry 1 = .ok (.getfield 348, 3) := by decide +kernel
theorem d_carry_4 : decode b_carry 4 = .ok (.sipush 4000, 3) := by decide +kernel
theorem d_carry_7 : decode b_carry 7 = .ok (.if_icmp .ge 10, 3) := by decide +kernel
theorem d_carry_10 : decode b_carry 10 = .ok (.aload_n 0, 1) := by decide +kernel
theorem d_carry_11 : decode b_carry 11 = .ok (.getfield 348, 3) := by decide +kernel
theorem d_carry_14 : decode b_carry 14 = .ok (.goto 6, 3) := by decide +kernel
theorem d_carry_17 : decode b_carry 17 = .ok (.sipush 4000, 3) := by decide +kernel
theorem d_carry_20 : decode b_carry 20 = .ok (.istore_n 3, 1) := by decide +kernel
theorem d_carry_21 : decode b_carry 21 = .ok (.iconst 0, 1) := by decide +kernel
theorem d_carry_22 : decode b_carry 22 = .ok (.istore 4, 2) := by decide +kernel
theorem d_carry_24 : decode b_carry 24 = .ok (.iload 4, 2) := by decide +kernel
theorem d_carry_26 : decode b_carry 26 = .ok (.iload_n 3, 1) := by decide +kernel
theorem d_carry_27 : decode b_carry 27 = .ok (.if_icmp .ge 42, 3) := by decide +kernel
theorem d_carry_30 : decode b_carry 30 = .ok (.aload_n 0, 1) := by decide +kernel
theorem d_carry_31 : decode b_carry 31 = .ok (.getfield 10, 3) := by decide +kernel
theorem d_carry_34 : decode b_carry 34 = .ok (.iload 4, 2) := by decide +kernel
theorem d_carry_36 : decode b_carry 36 = .ok (.iload 4, 2) := by decide +kernel
theorem d_carry_38 : decode b_carry 38 = .ok (.iload_n 1, 1) := by decide +kernel
theorem d_carry_39 : decode b_carry 39 = .ok (.if_icmp .ne 16, 3) := by decide +kernel
theorem d_carry_42 : decode b_carry 42 = .ok (.aload_n 0, 1) := by decide +kernel
theorem d_carry_43 : decode b_carry 43 = .ok (.getfield 14, 3) := by decide +kernel
theorem d_carry_46 : decode b_carry 46 = .ok (.iload 4, 2) := by decide +kernel
theorem d_carry_48 : decode b_carry 48 = .ok (.baload, 1) := by decide +kernel
theorem d_carry_49 : decode b_carry 49 = .ok (.iload_n 2, 1) := by decide +kernel
theorem d_carry_50 : decode b_carry 50 = .ok (.ixor, 1) := by decide +kernel
theorem d_carry_51 : decode b_carry 51 = .ok (.i2b, 1) := by decide +kernel
theorem d_carry_52 : decode b_carry 52 = .ok (.goto 10, 3) := by decide +kernel
theorem d_carry_55 : decode b_carry 55 = .ok (.aload_n 0, 1) := by decide +kernel
theorem d_carry_56 : decode b_carry 56 = .ok (.getfield 14, 3) := by decide +kernel
theorem d_carry_59 : decode b_carry 59 = .ok (.iload 4, 2) := by decide +kernel
theorem d_carry_61 : decode b_carry 61 = .ok (.baload, 1) := by decide +kernel
theorem d_carry_62 : decode b_carry 62 = .ok (.bastore, 1) := by decide +kernel
theorem d_carry_63 : decode b_carry 63 = .ok (.iinc 4 1, 3) := by decide +kernel
theorem d_carry_66 : decode b_carry 66 = .ok (.goto (-42), 3) := by decide +kernel
theorem d_carry_69 : decode b_carry 69 = .ok (.aload_n 0, 1) := by decide +kernel
theorem d_carry_70 : decode b_carry 70 = .ok (.iload_n 3, 1) := by decide +kernel
theorem d_carry_71 : decode b_carry 71 = .ok (.putfield 332, 3) := by decide +kernel
theorem d_carry_74 : decode b_carry 74 = .ok (.iload_n 3, 1) := by decide +kernel
theorem d_carry_75 : decode b_carry 75 = .ok (.ireturn, 1) := by decide +kernel
abbrev b_seed : ByteArray := prog_14_method_27_code
def y_seed : MethodName := ⟨R_M, "seed", "()Z"⟩
abbrev k_seed : Cond := .code y_seed b_seed 2 (some .boolean)
theorem ki_seed : k_seed ∈ lw_tg := in_t 2333 (by decide +kernel)
theorem ks_seed : Cond.instanceMethod y_seed ∈ lw_tg := in_t 2331 (by decide +kernel)
theorem d_seed_0 : decode b_seed 0 = .ok (.aload_n 0, 1) := by decide +kernel
theorem d_seed_1 : decode b_seed 1 = .ok (.getfield 332, 3) := by decide +kernel
theorem d_seed_4 : decode b_seed 4 = .ok (.bipush 64, 2) := by decide +kernel
theorem d_seed_6 : decode b_seed 6 = .ok (.if_icmp .le 5, 3) := by decide +kernel
theorem d_seed_9 : decode b_seed 9 = .ok (.iconst 0, 1) := by decide +kernel
theorem d_seed_10 : decode b_seed 10 = .ok (.ireturn, 1) := by decide +kernel
theorem d_seed_11 : decode b_seed 11 = .ok (.iconst 0, 1) := by decide +kernel
theorem d_seed_12 : decode b_seed 12 = .ok (.istore_n 1, 1) := by decide +kernel
theorem d_seed_13 : decode b_seed 13 = .ok (.iload_n 1, 1) := by decide +kernel
theorem d_seed_14 : decode b_seed 14 = .ok (.aload_n 0, 1) := by decide +kernel
theorem d_seed_15 : decode b_seed 15 = .ok (.getfield 332, 3) := by decide +kernel
theorem d_seed_18 : decode b_seed 18 = .ok (.if_icmp .ge 21, 3) := by decide +kernel
theorem d_seed_21 : decode b_seed 21 = .ok (.aload_n 0, 1) := by decide +kernel
theorem d_seed_22 : decode b_seed 22 = .ok (.getfield 86, 3) := by decide +kernel
theorem d_seed_25 : decode b_seed 25 = .ok (.iload_n 1, 1) := by decide +kernel
theorem d_seed_26 : decode b_seed 26 = .ok (.aload_n 0, 1) := by decide +kernel
theorem d_seed_27 : decode b_seed 27 = .ok (.getfield 10, 3) := by decide +kernel
theorem d_seed_30 : decode b_seed 30 = .ok (.iload_n 1, 1) := by decide +kernel
theorem d_seed_31 : decode b_seed 31 = .ok (.baload, 1) := by decide +kernel
theorem d_seed_32 : decode b_seed 32 = .ok (.bastore, 1) := by decide +kernel
theorem d_seed_33 : decode b_seed 33 = .ok (.iinc 1 1, 3) := by decide +kernel
theorem d_seed_36 : decode b_seed 36 = .ok (.goto (-23), 3) := by decide +kernel
theorem d_seed_39 : decode b_seed 39 = .ok (.aload_n 0, 1) := by decide +kernel
theorem d_seed_40 : decode b_seed 40 = .ok (.aload_n 0, 1) := by decide +kernel
theorem d_seed_41 : decode b_seed 41 = .ok (.getfield 332, 3) := by decide +kernel
theorem d_seed_44 : decode b_seed 44 = .ok (.putfield 432, 3) := by decide +kernel
theorem d_seed_47 : decode b_seed 47 = .ok (.aload_n 0, 1) := by decide +kernel
theorem d_seed_48 : decode b_seed 48 = .ok (.iconst 0, 1) := by decide +kernel
theorem d_seed_49 : decode b_seed 49 = .ok (.putfield 332, 3) := by decide +kernel
theorem d_seed_52 : decode b_seed 52 = .ok (.aload_n 0, 1) := by decide +kernel
theorem d_seed_53 : decode b_seed 53 = .ok (.iconst 0, 1) := by decide +kernel
theorem d_seed_54 : decode b_seed 54 = .ok (.putfield 435, 3) := by decide +kernel
theorem d_seed_57 : decode b_seed 57 = .ok (.iconst 1, 1) := by decide +kernel
theorem d_seed_58 : decode b_seed 58 = .ok (.ireturn, 1) := by decide +kernel
abbrev b_end : ByteArray := prog_14_method_4_code
def y_end : MethodName := ⟨R_M, "end", "(I)Z"⟩
abbrev k_end : Cond := .code y_end b_end 2 (some .boolean)
theorem ki_end : k_end ∈ lw_tg := in_t 2316 (by decide +kernel)
theorem ks_end : Cond.instanceMethod y_end ∈ lw_tg := in_t 2314 (by decide +kernel)
theorem d_end_0 : decode b_end 0 = .ok (.iload_n 1, 1) := by decide +kernel
theorem d_end_1 : decode b_end 1 = .ok (.ifCond .lt 11, 3) := by decide +kernel
theorem d_end_4 : decode b_end 4 = .ok (.iload_n 1, 1) := by decide +kernel
theorem d_end_5 : decode b_end 5 = .ok (.aload_n 0, 1) := by decide +kernel
theorem d_end_6 : decode b_end 6 = .ok (.getfield 332, 3) := by decide +kernel
theorem d_end_9 : decode b_end 9 = .ok (.if_icmp .le 5, 3) := by decide +kernel
theorem d_end_12 : decode b_end 12 = .ok (.iconst 0, 1) := by decide +kernel
theorem d_end_13 : decode b_end 13 = .ok (.ireturn, 1) := by decide +kernel
theorem d_end_14 : decode b_end 14 = .ok (.aload_n 0, 1) := by decide +kernel
theorem d_end_15 : decode b_end 15 = .ok (.iload_n 1, 1) := by decide +kernel
theorem d_end_16 : decode b_end 16 = .ok (.putfield 332, 3) := by decide +kernel
theorem d_end_19 : decode b_end 19 = .ok (.iconst 1, 1) := by decide +kernel
theorem d_end_20 : decode b_end 20 = .ok (.ireturn, 1) := by decide +kernel
abbrev b_out : ByteArray := prog_14_method_5_code
def y_out : MethodName := ⟨R_M, "out", "(I)I"⟩
abbrev k_out : Cond := .code y_out b_out 2 (some .int)
theorem ki_out : k_out ∈ lw_tg := in_t 2320 (by decide +kernel)
theorem ks_out : Cond.instanceMethod y_out ∈ lw_tg := in_t 2318 (by decide +kernel)
theorem d_out_0 : decode b_out 0 = .ok (.iload_n 1, 1) := by decide +kernel
theorem d_out_1 : decode b_out 1 = .ok (.iconst (-1), 1) := by decide +kernel
theorem d_out_2 : decode b_out 2 = .ok (.if_icmp .ne 10, 3) := by decide +kernel
theorem d_out_5 : decode b_out 5 = .ok (.aload_n 0, 1) := by decide +kernel
theorem d_out_6 : decode b_out 6 = .ok (.getfield 348, 3) := by decide +kernel
theorem d_out_9 : decode b_out 9 = .ok (.goto 29, 3) := by decide +kernel
theorem d_out_12 : decode b_out 12 = .ok (.iload_n 1, 1) := by decide +kernel
theorem d_out_13 : decode b_out 13 = .ok (.ifCond .lt 24, 3) := by decide +kernel
theorem d_out_16 : decode b_out 16 = .ok (.iload_n 1, 1) := by decide +kernel
theorem d_out_17 : decode b_out 17 = .ok (.aload_n 0, 1) := by decide +kernel
theorem d_out_18 : decode b_out 18 = .ok (.getfield 348, 3) := by decide +kernel
theorem d_out_21 : decode b_out 21 = .ok (.if_icmp .ge 16, 3) := by decide +kernel
theorem d_out_24 : decode b_out 24 = .ok (.aload_n 0, 1) := by decide +kernel
theorem d_out_25 : decode b_out 25 = .ok (.getfield 14, 3) := by decide +kernel
theorem d_out_28 : decode b_out 28 = .ok (.iload_n 1, 1) := by decide +kernel
theorem d_out_29 : decode b_out 29 = .ok (.baload, 1) := by decide +kernel
theorem d_out_30 : decode b_out 30 = .ok (.sipush 255, 3) := by decide +kernel
theorem d_out_33 : decode b_out 33 = .ok (.iand, 1) := by decide +kernel
theorem d_out_34 : decode b_out 34 = .ok (.goto 4, 3) := by decide +kernel
theorem d_out_37 : decode b_out 37 = .ok (.iconst (-1), 1) := by decide +kernel
theorem d_out_38 : decode b_out 38 = .ok (.ireturn, 1) := by decide +kernel
theorem cn_351 : Cond.constant R_M 351 (2000000000) ∈ lw_tg := in_t 2329 (by decide +kernel)
theorem kx_clock : Cond.selects R_M y_clock y_clock ∈ lw_tg := in_t 2327 (by decide +kernel)
theorem hd_clock : y_clock.cls = R_M ∧ y_clock.cls ≠ "java/lang/invoke/MethodHandle" ∧ y_clock.cls ≠ "java/lang/invoke/VarHandle" ∧ (parseMethodDescriptor y_clock.desc).map (fun d => d.parameters.length) = some 1 := by decide +kernel
theorem kx_room : Cond.selects R_M y_room y_room ∈ lw_tg := in_t 2350 (by decide +kernel)
theorem hd_room : y_room.cls = R_M ∧ y_room.cls ≠ "java/lang/invoke/MethodHandle" ∧ y_room.cls ≠ "java/lang/invoke/VarHandle" ∧ (parseMethodDescriptor y_room.desc).map (fun d => d.parameters.length) = some 1 := by decide +kernel
theorem kx_feed : Cond.selects R_M y_feed y_feed ∈ lw_tg := in_t 2311 (by decide +kernel)
theorem hd_feed : y_feed.cls = R_M ∧ y_feed.cls ≠ "java/lang/invoke/MethodHandle" ∧ y_feed.cls ≠ "java/lang/invoke/VarHandle" ∧ (parseMethodDescriptor y_feed.desc).map (fun d => d.parameters.length) = some 5 := by decide +kernel
theorem kx_carry : Cond.selects R_M y_carry y_carry ∈ lw_tg := in_t 2323 (by decide +kernel)
theorem hd_carry : y_carry.cls = R_M ∧ y_carry.cls ≠ "java/lang/invoke/MethodHandle" ∧ y_carry.cls ≠ "java/lang/invoke/VarHandle" ∧ (parseMethodDescriptor y_carry.desc).map (fun d => d.parameters.length) = some 2 := by decide +kernel
theorem kx_seed : Cond.selects R_M y_seed y_seed ∈ lw_tg := in_t 2332 (by decide +kernel)
theorem hd_seed : y_seed.cls = R_M ∧ y_seed.cls ≠ "java/lang/invoke/MethodHandle" ∧ y_seed.cls ≠ "java/lang/invoke/VarHandle" ∧ (parseMethodDescriptor y_seed.desc).map (fun d => d.parameters.length) = some 0 := by decide +kernel
theorem kx_end : Cond.selects R_M y_end y_end ∈ lw_tg := in_t 2315 (by decide +kernel)
theorem hd_end : y_end.cls = R_M ∧ y_end.cls ≠ "java/lang/invoke/MethodHandle" ∧ y_end.cls ≠ "java/lang/invoke/VarHandle" ∧ (parseMethodDescriptor y_end.desc).map (fun d => d.parameters.length) = some 1 := by decide +kernel
theorem kx_out : Cond.selects R_M y_out y_out ∈ lw_tg := in_t 2319 (by decide +kernel)
theorem hd_out : y_out.cls = R_M ∧ y_out.cls ≠ "java/lang/invoke/MethodHandle" ∧ y_out.cls ≠ "java/lang/invoke/VarHandle" ∧ (parseMethodDescriptor y_out.desc).map (fun d => d.parameters.length) = some 1 := by decide +kernel
set_option maxHeartbeats 4000000 in
set_option maxRecDepth 100000 in
theorem c_clock (l : Launch) (D : mD) (E : mE) (h : Nat) (q : Nat → Nat) (sz : Nat) (I : Nat → Int32) (J : Nat → Int64) (B : Nat → Nat → Int32) (G : Nat → Nat → Int64) (a1 : Int32) : Met l y_clock (k_clock :: lw_tg) (mR 0 0) (va_Pc [.ref h, .int a1] (mPre D E h q (I, J, B, G) sz)) (va_Qi (fun (r : Int32) (u : mS) => (∀ j, j ≠ 4 → u.1 j = I j) ∧ u.2.1 = J ∧ (∀ j, u.2.2.1 j = B j) ∧ u.2.2.2 = G ∧ (r = (if a1 < 0 ∨ ¬ a1 ≤ nI 2000000000 then nI 0 else nI 1) ∧ (r = nI 1 → u.1 4 = a1) ∧ (r = nI 0 → u.1 4 = I 4))) (mPost D E h q (mA E h q sz)) (mA E h q sz)) 0 0 (mA E h q sz) := by
  refine m_enter (by decide) rfl (Nat.le_of_ble_eq_true rfl) (fun p e s m below meth c ls AV QQ H locs hQQ X Y hZ hA hr hlk hml hl => ?_)
  have Y : mH D E (mA E h q sz) s.heap h q I J B G H locs := Y
  have hl : lv_has ls 2 [(0, .ref h), (1, .int a1)] := hl
  refine lv_iload_n X.1 X.2.1 d_clock_0 rfl (lv_at hl 1 rfl) ?_
  refine lv_if_lt (tgt := 11) X.1 X.2.1 d_clock_1 (by decide) (fun c1 => ?_) (fun c1 => ?_)
  · skip
    refine lv_iconst (v := (nI 0)) X.1 X.2.1 d_clock_11 (by decide) ?_
    exact m_retz hQQ X Y hr hlk rfl ⟨(fun j h4 => rfl), rfl, (fun j  => rfl), rfl, ⟨(by first | rw [if_pos (Or.inl (by assumption))] | rw [if_pos (Or.inr (by assumption))] | rw [if_neg (by intro h9; rcases h9 with h9 | h9 <;> contradiction)]), fun h9 => absurd h9 (by decide), fun _ => rfl⟩⟩ d_clock_12
  · skip
    refine lv_iload_n X.1 X.2.1 d_clock_4 rfl (lv_at hl 1 rfl) ?_
    refine lv_ldcw (v := (2000000000)) X.1 X.2.1 X.2.2.2.1 (X.2.2.1 _ cn_351) d_clock_5 ?_
    refine t_eq (y := nI 2000000000) (by decide) ?_
    refine lv_icmp_le (tgt := 13) X.1 X.2.1 d_clock_8 (by decide) (fun c2 => ?_) (fun c2 => ?_)
    · skip
      refine lv_aload_n X.1 X.2.1 d_clock_13 rfl (lv_at hl 0 rfl) ?_
      refine lv_iload_n X.1 X.2.1 d_clock_14 rfl (lv_at hl 1 rfl) ?_
      refine m_puti X Y 4 (by decide) lk_now rfl rfl (t_M_ok 4 (by decide)) rfl rfl (sf_now _ _ _ _) (Nat.le_of_ble_eq_true rfl) d_clock_15 (fun H locs Y => ?_)
      refine lv_iconst (v := (nI 1)) X.1 X.2.1 d_clock_18 (by decide) ?_
      exact m_retz hQQ X Y hr hlk rfl ⟨(fun j h4 => ((if_neg h4).trans rfl)), rfl, (fun j  => rfl), rfl, ⟨(by first | rw [if_pos (Or.inl (by assumption))] | rw [if_pos (Or.inr (by assumption))] | rw [if_neg (by intro h9; rcases h9 with h9 | h9 <;> contradiction)]), fun _ => (show upd I 4 a1 4 = a1 from pk_us), fun h9 => absurd h9 (by decide)⟩⟩ d_clock_19
    · skip
      refine lv_iconst (v := (nI 0)) X.1 X.2.1 d_clock_11 (by decide) ?_
      exact m_retz hQQ X Y hr hlk rfl ⟨(fun j h4 => rfl), rfl, (fun j  => rfl), rfl, ⟨(by first | rw [if_pos (Or.inl (by assumption))] | rw [if_pos (Or.inr (by assumption))] | rw [if_neg (by intro h9; rcases h9 with h9 | h9 <;> contradiction)]), fun h9 => absurd h9 (by decide), fun _ => rfl⟩⟩ d_clock_12
set_option maxHeartbeats 4000000 in
set_option maxRecDepth 100000 in
theorem c_room (l : Launch) (D : mD) (E : mE) (h : Nat) (q : Nat → Nat) (sz : Nat) (I : Nat → Int32) (J : Nat → Int64) (B : Nat → Nat → Int32) (G : Nat → Nat → Int64) (a1 : Int32) : Met l y_room (k_room :: lw_tg) (mR 0 0) (va_Pc [.ref h, .int a1] (mPre D E h q (I, J, B, G) sz)) (va_Qi (fun (r : Int32) (u : mS) => (∀ j, j ≠ 57 → u.1 j = I j) ∧ u.2.1 = J ∧ (∀ j, u.2.2.1 j = B j) ∧ u.2.2.2 = G ∧ (r = (if a1 < nI 1 ∨ ¬ a1 ≤ nI 32 then nI 0 else nI 1) ∧ (r = nI 1 → u.1 57 = a1) ∧ (r = nI 0 → u.1 57 = I 57))) (mPost D E h q (mA E h q sz)) (mA E h q sz)) 0 0 (mA E h q sz) := by
  refine m_enter (by decide) rfl (Nat.le_of_ble_eq_true rfl) (fun p e s m below meth c ls AV QQ H locs hQQ X Y hZ hA hr hlk hml hl => ?_)
  have Y : mH D E (mA E h q sz) s.heap h q I J B G H locs := Y
  have hl : lv_has ls 2 [(0, .ref h), (1, .int a1)] := hl
  refine lv_iload_n X.1 X.2.1 d_room_0 rfl (lv_at hl 1 rfl) ?_
  refine lv_iconst (v := (nI 1)) X.1 X.2.1 d_room_1 (by decide) ?_
  refine lv_icmp_lt (tgt := 11) X.1 X.2.1 d_room_2 (by decide) (fun c1 => ?_) (fun c1 => ?_)
  · skip
    refine lv_iconst (v := (nI 0)) X.1 X.2.1 d_room_11 (by decide) ?_
    exact m_retz hQQ X Y hr hlk rfl ⟨(fun j h57 => rfl), rfl, (fun j  => rfl), rfl, ⟨(by first | rw [if_pos (Or.inl (by assumption))] | rw [if_pos (Or.inr (by assumption))] | rw [if_neg (by intro h9; rcases h9 with h9 | h9 <;> contradiction)]), fun h9 => absurd h9 (by decide), fun _ => rfl⟩⟩ d_room_12
  · skip
    refine lv_iload_n X.1 X.2.1 d_room_5 rfl (lv_at hl 1 rfl) ?_
    refine lv_bipush (v := (nI 32)) X.1 X.2.1 d_room_6 (by decide) ?_
    refine lv_icmp_le (tgt := 13) X.1 X.2.1 d_room_8 (by decide) (fun c2 => ?_) (fun c2 => ?_)
    · skip
      refine lv_aload_n X.1 X.2.1 d_room_13 rfl (lv_at hl 0 rfl) ?_
      refine lv_iload_n X.1 X.2.1 d_room_14 rfl (lv_at hl 1 rfl) ?_
      refine m_puti X Y 57 (by decide) lk_most rfl rfl (t_M_ok 57 (by decide)) rfl rfl (sf_most _ _ _ _) (Nat.le_of_ble_eq_true rfl) d_room_15 (fun H locs Y => ?_)
      refine lv_iconst (v := (nI 1)) X.1 X.2.1 d_room_18 (by decide) ?_
      exact m_retz hQQ X Y hr hlk rfl ⟨(fun j h57 => ((if_neg h57).trans rfl)), rfl, (fun j  => rfl), rfl, ⟨(by first | rw [if_pos (Or.inl (by assumption))] | rw [if_pos (Or.inr (by assumption))] | rw [if_neg (by intro h9; rcases h9 with h9 | h9 <;> contradiction)]), fun _ => (show upd I 57 a1 57 = a1 from pk_us), fun h9 => absurd h9 (by decide)⟩⟩ d_room_19
    · skip
      refine lv_iconst (v := (nI 0)) X.1 X.2.1 d_room_11 (by decide) ?_
      exact m_retz hQQ X Y hr hlk rfl ⟨(fun j h57 => rfl), rfl, (fun j  => rfl), rfl, ⟨(by first | rw [if_pos (Or.inl (by assumption))] | rw [if_pos (Or.inr (by assumption))] | rw [if_neg (by intro h9; rcases h9 with h9 | h9 <;> contradiction)]), fun h9 => absurd h9 (by decide), fun _ => rfl⟩⟩ d_room_12
set_option maxHeartbeats 4000000 in
set_option maxRecDepth 100000 in
theorem c_feed (l : Launch) (D : mD) (E : mE) (h : Nat) (q : Nat → Nat) (sz : Nat) (I : Nat → Int32) (J : Nat → Int64) (B : Nat → Nat → Int32) (G : Nat → Nat → Int64) (a1 a2 a3 a4 a5 : Int32) (n : Nat) (hn : I 2 = nI n) (hn2 : n ≤ 4000) : Met l y_feed (k_feed :: lw_tg) (mR 0 0) (va_Pc [.ref h, .int a1, .int a2, .int a3, .int a4, .int a5] (mPre D E h q (I, J, B, G) sz)) (va_Qi (fun (r : Int32) (u : mS) => (∀ j, j ≠ 2 → u.1 j = I j) ∧ u.2.1 = J ∧ (∀ j, j ≠ 0 → u.2.2.1 j = B j) ∧ u.2.2.2 = G ∧ ((n + 20 ≤ 4000 → r = nI 1 ∧ u.1 2 = nI (n + 20)) ∧ (¬ n + 20 ≤ 4000 → r = nI 0 ∧ u.1 2 = nI n))) (mPost D E h q (mA E h q sz)) (mA E h q sz)) 0 0 (mA E h q sz) := by
  refine m_enter (by decide) rfl (Nat.le_of_ble_eq_true rfl) (fun p e s m below meth c ls AV QQ H locs hQQ X Y hZ hA hr hlk hml hl => ?_)
  have Y : mH D E (mA E h q sz) s.heap h q I J B G H locs := Y
  have hl : lv_has ls 8 [(0, .ref h), (1, .int a1), (2, .int a2), (3, .int a3), (4, .int a4), (5, .int a5)] := hl
  refine lv_aload_n X.1 X.2.1 d_feed_0 rfl (lv_at hl 0 rfl) ?_
  refine m_get X Y 2 (by decide) lk_length (gf_length _ _ _) rfl d_feed_1 ?_
  refine t_eq (show I 2 = nI (n) from hn) ?_
  refine lv_bipush (v := (nI 20)) X.1 X.2.1 d_feed_4 (by decide) ?_
  refine lv_iadd X.1 X.2.1 d_feed_6 ?_
  refine t_eq (y := nI (n + 20)) (nI_add _ _) ?_
  refine lv_sipush (v := (nI 4000)) X.1 X.2.1 d_feed_7 (by decide) ?_
  refine lv_icmp_le (tgt := 15) X.1 X.2.1 d_feed_10 (by decide) (fun c1 => ?_) (fun c1 => ?_)
  · skip
    rw [nI_leI (by omega) (by omega)] at c1
    refine lv_iconst (v := (nI 0)) X.1 X.2.1 d_feed_15 (by decide) ?_
    refine lv_istore (lv' := [(6, .int (nI 0)), (0, .ref h), (1, .int a1), (2, .int a2), (3, .int a3), (4, .int a4), (5, .int a5)]) X.1 X.2.1 d_feed_16 hl (by decide) rfl (fun ls hl => ?_)
    have lp5 : ∀ (n2 i3 : Nat) (I6 : Nat → Int32) (B7 : Nat → Nat → Int32) (H : Heap) (locs : List Loc) (ls : Array Slot), i3 + n2 = 20 → 0 ≤ i3 → (∀ j, j ≠ 0 → B7 j = B j) → (∀ j, j ≠ 2 → I6 j = I j) → I6 2 = nI (n + i3) → mH D E (mA E h q sz) s.heap h q I6 J B7 G H locs → lv_has ls 8 [(6, .int (nI i3)), (0, .ref h), (1, .int a1), (2, .int a2), (3, .int a3), (4, .int a4), (5, .int a5)] → W p l e (mR 0 0) s m AV below meth c H locs 0 0 QQ (F0 m 18 ls []) := by
      intro n2
      induction n2 with
      | zero =>
        intro i3 I6 B7 H locs ls hii3 hsi3 hB8 hI9 hk10  Y hl
        refine lv_iload X.1 X.2.1 d_feed_18 (lv_at hl 0 rfl) ?_
        refine lv_bipush (v := (nI 20)) X.1 X.2.1 d_feed_20 (by decide) ?_
        refine lv_icmp_ge (tgt := 112) X.1 X.2.1 d_feed_22 (by decide) (fun c11 => ?_) (fun c11 => absurd ?_ c11)
        rotate_left
        · (rw [nI_leI (by omega) (by omega)] <;> omega)
        rw [nI_leI (by omega) (by omega)] at c11
        refine lv_iconst (v := (nI 1)) X.1 X.2.1 d_feed_112 (by decide) ?_
        exact m_retz hQQ X Y hr hlk rfl ⟨(fun j h2 => (hI9 j h2)), rfl, (fun j h0 => (hB8 j h0)), rfl, ⟨fun _ => ⟨rfl, (show I6 2 = nI (n + i3) from hk10).trans (congrArg nI (show (n + i3 : Nat) = n + 20 by omega))⟩, fun h9 => absurd (show n + 20 ≤ 4000 by omega) h9⟩⟩ d_feed_113
      | succ n2 ih4 =>
        intro i3 I6 B7 H locs ls hii3 hsi3 hB8 hI9 hk10  Y hl
        refine lv_iload X.1 X.2.1 d_feed_18 (lv_at hl 0 rfl) ?_
        refine lv_bipush (v := (nI 20)) X.1 X.2.1 d_feed_20 (by decide) ?_
        refine lv_icmp_ge (tgt := 112) X.1 X.2.1 d_feed_22 (by decide) (fun c12 => absurd c12 ?_) (fun c12 => ?_)
        · (rw [nI_leI (by omega) (by omega)] <;> omega)
        rw [nI_leI (by omega) (by omega)] at c12
        have jn14 : ∀ w13 : Int32, W p l e (mR 0 0) s m AV below meth c H locs 0 0 QQ (F0 m 71 ls [.int w13]) := by
          intro w13
          refine lv_istore (lv' := [(7, .int w13), (6, .int (nI i3)), (0, .ref h), (1, .int a1), (2, .int a2), (3, .int a3), (4, .int a4), (5, .int a5)]) X.1 X.2.1 d_feed_71 hl (by decide) rfl (fun ls hl => ?_)
          refine lv_aload_n X.1 X.2.1 d_feed_73 rfl (lv_at hl 2 rfl) ?_
          refine m_get X Y 0 (by decide) lk_mem (gf_mem _ _ _) rfl d_feed_74 ?_
          refine lv_aload_n X.1 X.2.1 d_feed_77 rfl (lv_at hl 2 rfl) ?_
          refine m_get X Y 2 (by decide) lk_length (gf_length _ _ _) rfl d_feed_78 ?_
          refine t_eq (show I6 2 = nI (n + i3) from hk10) ?_
          refine lv_iload X.1 X.2.1 d_feed_81 (lv_at hl 0 rfl) ?_
          refine lv_bipush (v := (nI 24)) X.1 X.2.1 d_feed_83 (by decide) ?_
          refine lv_bipush (v := (nI 8)) X.1 X.2.1 d_feed_85 (by decide) ?_
          refine lv_iload X.1 X.2.1 d_feed_87 (lv_at hl 1 rfl) ?_
          refine lv_iconst (v := (nI 4)) X.1 X.2.1 d_feed_89 (by decide) ?_
          refine lv_irem X.1 X.2.1 d_feed_90 (nI_ne0 (by omega) (by omega)) ?_
          refine t_eq (y := nI ((i3) % (4))) (pk_rem (by omega) (by omega) (by omega)) ?_
          refine lv_imul X.1 X.2.1 d_feed_91 ?_
          refine t_eq (y := nI ((8) * ((i3) % (4)))) (pk_mul _ _) ?_
          refine lv_isub X.1 X.2.1 d_feed_92 ?_
          refine t_eq (y := nI (24 - ((8) * ((i3) % (4))))) (pk_sub (by omega)) ?_
          refine lv_ishr X.1 X.2.1 d_feed_93 ?_
          refine t_any (fun v15 => ?_)
          obtain ⟨v16, ev16⟩ : ∃ z : Int32, (v15 : Int32).toInt8.toInt32 = z := ⟨_, rfl⟩
          refine lv_i2b (v := v16) X.1 X.2.1 d_feed_94 ev16 ?_
          refine m_bast X Y (aw_mem _ _ _ _ _ _ _) (vp_in_nI (by omega) (by decide)) (sw_mem _ _ _ _ _ _ _ _) d_feed_95 (fun H locs Y => ?_)
          generalize (upd (B7 0) ((nI (n + i3))).toNatClampNeg (vp_nar .byte v16)) = f17 at Y
          refine lv_aload_n X.1 X.2.1 d_feed_96 rfl (lv_at hl 2 rfl) ?_
          refine lv_dup X.1 X.2.1 d_feed_97 rfl ?_
          refine m_get X Y 2 (by decide) lk_length (gf_length _ _ _) rfl d_feed_98 ?_
          refine t_eq (show I6 2 = nI (n + i3) from hk10) ?_
          refine lv_iconst (v := (nI 1)) X.1 X.2.1 d_feed_101 (by decide) ?_
          refine lv_iadd X.1 X.2.1 d_feed_102 ?_
          refine t_eq (y := nI (n + i3 + 1)) (nI_add _ _) ?_
          refine m_puti X Y 2 (by decide) lk_length rfl rfl (t_M_ok 2 (by decide)) rfl rfl (sf_length _ _ _ _) (Nat.le_of_ble_eq_true rfl) d_feed_103 (fun H locs Y => ?_)
          refine lv_iinc (v := (nI (i3 + 1))) (lv' := [(6, .int (nI (i3 + 1))), (7, .int w13), (0, .ref h), (1, .int a1), (2, .int a2), (3, .int a3), (4, .int a4), (5, .int a5)]) X.1 X.2.1 d_feed_106 hl (k := 1) rfl (nI_add _ 1) (by decide) rfl (fun ls hl => ?_)
          refine lv_goto (tgt := 18) X.1 X.2.1 d_feed_109 (by decide) ?_
          exact ih4 (i3 + 1) (upd I6 2 (nI (n + i3 + 1))) (upB B7 0 f17) _ _ _ (by omega) (by omega) (fun j h0 => ((if_neg h0).trans (hB8 j h0))) (fun j h2 => ((if_neg h2).trans (hI9 j h2))) ((show (upd I6 2 (nI (n + i3 + 1))) 2 = nI (n + i3 + 1) from pk_us).trans (congrArg nI (show (n + i3 + 1 : Nat) = n + (i3 + 1) by omega)))  Y (lv_sub hl [0, 2, 3, 4, 5, 6, 7] rfl)
        refine lv_iload X.1 X.2.1 d_feed_25 (lv_at hl 0 rfl) ?_
        refine lv_iconst (v := (nI 4)) X.1 X.2.1 d_feed_27 (by decide) ?_
        refine lv_icmp_ge (tgt := 35) X.1 X.2.1 d_feed_28 (by decide) (fun c18 => ?_) (fun c18 => ?_)
        · skip
          rw [nI_leI (by omega) (by omega)] at c18
          refine lv_iload X.1 X.2.1 d_feed_35 (lv_at hl 0 rfl) ?_
          refine lv_bipush (v := (nI 8)) X.1 X.2.1 d_feed_37 (by decide) ?_
          refine lv_icmp_ge (tgt := 46) X.1 X.2.1 d_feed_39 (by decide) (fun c19 => ?_) (fun c19 => ?_)
          · skip
            rw [nI_leI (by omega) (by omega)] at c19
            refine lv_iload X.1 X.2.1 d_feed_46 (lv_at hl 0 rfl) ?_
            refine lv_bipush (v := (nI 12)) X.1 X.2.1 d_feed_48 (by decide) ?_
            refine lv_icmp_ge (tgt := 57) X.1 X.2.1 d_feed_50 (by decide) (fun c20 => ?_) (fun c20 => ?_)
            · skip
              rw [nI_leI (by omega) (by omega)] at c20
              refine lv_iload X.1 X.2.1 d_feed_57 (lv_at hl 0 rfl) ?_
              refine lv_bipush (v := (nI 16)) X.1 X.2.1 d_feed_59 (by decide) ?_
              refine lv_icmp_ge (tgt := 69) X.1 X.2.1 d_feed_61 (by decide) (fun c21 => ?_) (fun c21 => ?_)
              · skip
                rw [nI_leI (by omega) (by omega)] at c21
                refine lv_iload X.1 X.2.1 d_feed_69 (lv_at hl 6 rfl) ?_
                exact jn14 _
              · skip
                rw [nI_leI (by omega) (by omega)] at c21
                refine lv_iload X.1 X.2.1 d_feed_64 (lv_at hl 5 rfl) ?_
                refine lv_goto (tgt := 71) X.1 X.2.1 d_feed_66 (by decide) ?_
                exact jn14 _
            · skip
              rw [nI_leI (by omega) (by omega)] at c20
              refine lv_iload_n X.1 X.2.1 d_feed_53 rfl (lv_at hl 4 rfl) ?_
              refine lv_goto (tgt := 71) X.1 X.2.1 d_feed_54 (by decide) ?_
              exact jn14 _
          · skip
            rw [nI_leI (by omega) (by omega)] at c19
            refine lv_iload_n X.1 X.2.1 d_feed_42 rfl (lv_at hl 3 rfl) ?_
            refine lv_goto (tgt := 71) X.1 X.2.1 d_feed_43 (by decide) ?_
            exact jn14 _
        · skip
          rw [nI_leI (by omega) (by omega)] at c18
          refine lv_iload_n X.1 X.2.1 d_feed_31 rfl (lv_at hl 2 rfl) ?_
          refine lv_goto (tgt := 71) X.1 X.2.1 d_feed_32 (by decide) ?_
          exact jn14 _
    exact lp5 (20) 0 I B _ _ _ (by omega) (by omega) (fun j h0 => rfl) (fun j h2 => rfl) ((show I 2 = nI (n) from hn).trans (congrArg nI (show (n : Nat) = n + 0 by omega)))  Y (lv_sub hl [0, 1, 2, 3, 4, 5, 6] rfl)
  · skip
    rw [nI_leI (by omega) (by omega)] at c1
    refine lv_iconst (v := (nI 0)) X.1 X.2.1 d_feed_13 (by decide) ?_
    exact m_retz hQQ X Y hr hlk rfl ⟨(fun j h2 => rfl), rfl, (fun j h0 => rfl), rfl, ⟨fun h9 => absurd h9 (by omega), fun _ => ⟨rfl, hn⟩⟩⟩ d_feed_14
set_option maxHeartbeats 4000000 in
set_option maxRecDepth 100000 in
theorem c_seed (l : Launch) (D : mD) (E : mE) (h : Nat) (q : Nat → Nat) (sz : Nat) (I : Nat → Int32) (J : Nat → Int64) (B : Nat → Nat → Int32) (G : Nat → Nat → Int64) (n : Nat) (hn : I 2 = nI n) (hn2 : n ≤ 4000) : Met l y_seed (k_seed :: lw_tg) (mR 0 0) (va_Pc [.ref h] (mPre D E h q (I, J, B, G) sz)) (va_Qi (fun (r : Int32) (u : mS) => (∀ j, j ≠ 2 → j ≠ 32 → j ≠ 33 → u.1 j = I j) ∧ u.2.1 = J ∧ (∀ j, j ≠ 31 → u.2.2.1 j = B j) ∧ u.2.2.2 = G ∧ ((n ≤ 64 → r = nI 1 ∧ u.1 2 = nI 0 ∧ u.1 32 = nI n ∧ u.1 33 = nI 0) ∧ (¬ n ≤ 64 → r = nI 0 ∧ u.1 2 = nI n ∧ u.1 32 = I 32 ∧ u.1 33 = I 33))) (mPost D E h q (mA E h q sz)) (mA E h q sz)) 0 0 (mA E h q sz) := by
  refine m_enter (by decide) rfl (Nat.le_of_ble_eq_true rfl) (fun p e s m below meth c ls AV QQ H locs hQQ X Y hZ hA hr hlk hml hl => ?_)
  have Y : mH D E (mA E h q sz) s.heap h q I J B G H locs := Y
  have hl : lv_has ls 2 [(0, .ref h)] := hl
  refine lv_aload_n X.1 X.2.1 d_seed_0 rfl (lv_at hl 0 rfl) ?_
  refine m_get X Y 2 (by decide) lk_length (gf_length _ _ _) rfl d_seed_1 ?_
  refine t_eq (show I 2 = nI (n) from hn) ?_
  refine lv_bipush (v := (nI 64)) X.1 X.2.1 d_seed_4 (by decide) ?_
  refine lv_icmp_le (tgt := 11) X.1 X.2.1 d_seed_6 (by decide) (fun c1 => ?_) (fun c1 => ?_)
  · skip
    rw [nI_leI (by omega) (by omega)] at c1
    refine lv_iconst (v := (nI 0)) X.1 X.2.1 d_seed_11 (by decide) ?_
    refine lv_istore_n (lv' := [(1, .int (nI 0)), (0, .ref h)]) X.1 X.2.1 d_seed_12 rfl hl (by decide) rfl (fun ls hl => ?_)
    have lp5 : ∀ (n2 i3 : Nat) (B6 : Nat → Nat → Int32) (H : Heap) (locs : List Loc) (ls : Array Slot), i3 + n2 = n → 0 ≤ i3 → (∀ j, j ≠ 31 → B6 j = B j) → mH D E (mA E h q sz) s.heap h q I J B6 G H locs → lv_has ls 2 [(1, .int (nI i3)), (0, .ref h)] → W p l e (mR 0 0) s m AV below meth c H locs 0 0 QQ (F0 m 13 ls []) := by
      intro n2
      induction n2 with
      | zero =>
        intro i3 B6 H locs ls hii3 hsi3 hB7  Y hl
        refine lv_iload_n X.1 X.2.1 d_seed_13 rfl (lv_at hl 0 rfl) ?_
        refine lv_aload_n X.1 X.2.1 d_seed_14 rfl (lv_at hl 1 rfl) ?_
        refine m_get X Y 2 (by decide) lk_length (gf_length _ _ _) rfl d_seed_15 ?_
        refine t_eq (show I 2 = nI (n) from hn) ?_
        refine lv_icmp_ge (tgt := 39) X.1 X.2.1 d_seed_18 (by decide) (fun c8 => ?_) (fun c8 => absurd ?_ c8)
        rotate_left
        · (rw [nI_leI (by omega) (by omega)] <;> omega)
        rw [nI_leI (by omega) (by omega)] at c8
        refine lv_aload_n X.1 X.2.1 d_seed_39 rfl (lv_at hl 1 rfl) ?_
        refine lv_aload_n X.1 X.2.1 d_seed_40 rfl (lv_at hl 1 rfl) ?_
        refine m_get X Y 2 (by decide) lk_length (gf_length _ _ _) rfl d_seed_41 ?_
        refine t_eq (show I 2 = nI (n) from hn) ?_
        refine m_puti X Y 32 (by decide) lk_seedMany rfl rfl (t_M_ok 32 (by decide)) rfl rfl (sf_seedMany _ _ _ _) (Nat.le_of_ble_eq_true rfl) d_seed_44 (fun H locs Y => ?_)
        refine lv_aload_n X.1 X.2.1 d_seed_47 rfl (lv_at hl 1 rfl) ?_
        refine lv_iconst (v := (nI 0)) X.1 X.2.1 d_seed_48 (by decide) ?_
        refine m_puti X Y 2 (by decide) lk_length rfl rfl (t_M_ok 2 (by decide)) rfl rfl (sf_length _ _ _ _) (Nat.le_of_ble_eq_true rfl) d_seed_49 (fun H locs Y => ?_)
        refine lv_aload_n X.1 X.2.1 d_seed_52 rfl (lv_at hl 1 rfl) ?_
        refine lv_iconst (v := (nI 0)) X.1 X.2.1 d_seed_53 (by decide) ?_
        refine m_puti X Y 33 (by decide) lk_coin rfl rfl (t_M_ok 33 (by decide)) rfl rfl (sf_coin _ _ _ _) (Nat.le_of_ble_eq_true rfl) d_seed_54 (fun H locs Y => ?_)
        refine lv_iconst (v := (nI 1)) X.1 X.2.1 d_seed_57 (by decide) ?_
        exact m_retz hQQ X Y hr hlk rfl ⟨(fun j h2 h32 h33 => ((if_neg h33).trans ((if_neg h2).trans ((if_neg h32).trans rfl)))), rfl, (fun j h31 => (hB7 j h31)), rfl, ⟨fun _ => ⟨rfl, (show (upd (upd (upd I 32 (nI (n))) 2 (nI 0)) 33 (nI 0)) 2 = nI (0) from (show (upd (upd (upd I 32 (nI (n))) 2 (nI 0)) 33 (nI 0)) 2 = nI (0) from ((pk_un (by decide)).trans pk_us))), (show (upd (upd (upd I 32 (nI (n))) 2 (nI 0)) 33 (nI 0)) 32 = nI (n) from (show (upd (upd (upd I 32 (nI (n))) 2 (nI 0)) 33 (nI 0)) 32 = nI (n) from ((pk_un (by decide)).trans ((pk_un (by decide)).trans pk_us)))), (show (upd (upd (upd I 32 (nI (n))) 2 (nI 0)) 33 (nI 0)) 33 = nI (0) from (show (upd (upd (upd I 32 (nI (n))) 2 (nI 0)) 33 (nI 0)) 33 = nI (0) from pk_us))⟩, fun h9 => absurd (show n ≤ 64 by omega) h9⟩⟩ d_seed_58
      | succ n2 ih4 =>
        intro i3 B6 H locs ls hii3 hsi3 hB7  Y hl
        refine lv_iload_n X.1 X.2.1 d_seed_13 rfl (lv_at hl 0 rfl) ?_
        refine lv_aload_n X.1 X.2.1 d_seed_14 rfl (lv_at hl 1 rfl) ?_
        refine m_get X Y 2 (by decide) lk_length (gf_length _ _ _) rfl d_seed_15 ?_
        refine t_eq (show I 2 = nI (n) from hn) ?_
        refine lv_icmp_ge (tgt := 39) X.1 X.2.1 d_seed_18 (by decide) (fun c9 => absurd c9 ?_) (fun c9 => ?_)
        · (rw [nI_leI (by omega) (by omega)] <;> omega)
        rw [nI_leI (by omega) (by omega)] at c9
        refine lv_aload_n X.1 X.2.1 d_seed_21 rfl (lv_at hl 1 rfl) ?_
        refine m_get X Y 31 (by decide) lk_seed (gf_seed _ _ _) rfl d_seed_22 ?_
        refine lv_iload_n X.1 X.2.1 d_seed_25 rfl (lv_at hl 0 rfl) ?_
        refine lv_aload_n X.1 X.2.1 d_seed_26 rfl (lv_at hl 1 rfl) ?_
        refine m_get X Y 0 (by decide) lk_mem (gf_mem _ _ _) rfl d_seed_27 ?_
        refine lv_iload_n X.1 X.2.1 d_seed_30 rfl (lv_at hl 0 rfl) ?_
        refine m_bald X Y (aw_mem _ _ _ _ _ _ _) (vp_in_nI (by omega) (by decide)) d_seed_31 ?_
        refine t_any (fun v10 => ?_)
        refine m_bast X Y (aw_seed _ _ _ _ _ _ _) (vp_in_nI (by omega) (by decide)) (sw_seed _ _ _ _ _ _ _ _) d_seed_32 (fun H locs Y => ?_)
        generalize (upd (B6 31) ((nI i3)).toNatClampNeg (vp_nar .byte v10)) = f11 at Y
        refine lv_iinc (v := (nI (i3 + 1))) (lv' := [(1, .int (nI (i3 + 1))), (0, .ref h)]) X.1 X.2.1 d_seed_33 hl (k := 0) rfl (nI_add _ 1) (by decide) rfl (fun ls hl => ?_)
        refine lv_goto (tgt := 13) X.1 X.2.1 d_seed_36 (by decide) ?_
        exact ih4 (i3 + 1) (upB B6 31 f11) _ _ _ (by omega) (by omega) (fun j h31 => ((if_neg h31).trans (hB7 j h31)))  Y (lv_sub hl [0, 1] rfl)
    exact lp5 (n) 0 B _ _ _ (by omega) (by omega) (fun j h31 => rfl)  Y (lv_sub hl [0, 1] rfl)
  · skip
    rw [nI_leI (by omega) (by omega)] at c1
    refine lv_iconst (v := (nI 0)) X.1 X.2.1 d_seed_9 (by decide) ?_
    exact m_retz hQQ X Y hr hlk rfl ⟨(fun j h2 h32 h33 => rfl), rfl, (fun j h31 => rfl), rfl, ⟨fun h9 => absurd h9 (by omega), fun _ => ⟨rfl, hn, rfl, rfl⟩⟩⟩ d_seed_10
set_option maxHeartbeats 4000000 in
set_option maxRecDepth 100000 in
theorem c_carry (l : Launch) (D : mD) (E : mE) (h : Nat) (q : Nat → Nat) (sz : Nat) (I : Nat → Int32) (J : Nat → Int64) (B : Nat → Nat → Int32) (G : Nat → Nat → Int64) (a1 a2 : Int32) (n : Nat) (hn : I 3 = nI n) (hn2 : n ≤ 20000) : Met l y_carry (k_carry :: lw_tg) (mR 0 0) (va_Pc [.ref h, .int a1, .int a2] (mPre D E h q (I, J, B, G) sz)) (va_Qi (fun (r : Int32) (u : mS) => (∀ j, j ≠ 2 → u.1 j = I j) ∧ u.2.1 = J ∧ (∀ j, j ≠ 0 → u.2.2.1 j = B j) ∧ u.2.2.2 = G ∧ (r = nI (min n 4000) ∧ u.1 2 = nI (min n 4000))) (mPost D E h q (mA E h q sz)) (mA E h q sz)) 0 0 (mA E h q sz) := by
  refine m_enter (by decide) rfl (Nat.le_of_ble_eq_true rfl) (fun p e s m below meth c ls AV QQ H locs hQQ X Y hZ hA hr hlk hml hl => ?_)
  have Y : mH D E (mA E h q sz) s.heap h q I J B G H locs := Y
  have hl : lv_has ls 5 [(0, .ref h), (1, .int a1), (2, .int a2)] := hl
  have jn1 : ∀ (k : Nat), k = min n 4000 → W p l e (mR 0 0) s m AV below meth c H locs 0 0 QQ (F0 m 20 ls [.int (nI k)]) := by
    intro k hk
    refine lv_istore_n (lv' := [(3, .int (nI k)), (0, .ref h), (1, .int a1), (2, .int a2)]) X.1 X.2.1 d_carry_20 rfl hl (by decide) rfl (fun ls hl => ?_)
    refine lv_iconst (v := (nI 0)) X.1 X.2.1 d_carry_21 (by decide) ?_
    refine lv_istore (lv' := [(4, .int (nI 0)), (3, .int (nI k)), (0, .ref h), (1, .int a1), (2, .int a2)]) X.1 X.2.1 d_carry_22 hl (by decide) rfl (fun ls hl => ?_)
    have lp5 : ∀ (n2 i3 : Nat) (B6 : Nat → Nat → Int32) (H : Heap) (locs : List Loc) (ls : Array Slot), i3 + n2 = k → 0 ≤ i3 → (∀ j, j ≠ 0 → B6 j = B j) → mH D E (mA E h q sz) s.heap h q I J B6 G H locs → lv_has ls 5 [(4, .int (nI i3)), (3, .int (nI k)), (0, .ref h), (1, .int a1), (2, .int a2)] → W p l e (mR 0 0) s m AV below meth c H locs 0 0 QQ (F0 m 24 ls []) := by
      intro n2
      induction n2 with
      | zero =>
        intro i3 B6 H locs ls hii3 hsi3 hB7  Y hl
        refine lv_iload X.1 X.2.1 d_carry_24 (lv_at hl 0 rfl) ?_
        refine lv_iload_n X.1 X.2.1 d_carry_26 rfl (lv_at hl 1 rfl) ?_
        refine lv_icmp_ge (tgt := 69) X.1 X.2.1 d_carry_27 (by decide) (fun c8 => ?_) (fun c8 => absurd ?_ c8)
        rotate_left
        · (rw [nI_leI (by omega) (by omega)] <;> omega)
        rw [nI_leI (by omega) (by omega)] at c8
        refine lv_aload_n X.1 X.2.1 d_carry_69 rfl (lv_at hl 2 rfl) ?_
        refine lv_iload_n X.1 X.2.1 d_carry_70 rfl (lv_at hl 1 rfl) ?_
        refine m_puti X Y 2 (by decide) lk_length rfl rfl (t_M_ok 2 (by decide)) rfl rfl (sf_length _ _ _ _) (Nat.le_of_ble_eq_true rfl) d_carry_71 (fun H locs Y => ?_)
        refine lv_iload_n X.1 X.2.1 d_carry_74 rfl (lv_at hl 1 rfl) ?_
        exact m_reti hQQ X Y hr hlk ⟨(fun j h2 => ((if_neg h2).trans rfl)), rfl, (fun j h0 => (hB7 j h0)), rfl, ⟨congrArg nI hk, (show (upd I 2 (nI k)) 2 = nI k from pk_us).trans (congrArg nI hk)⟩⟩ d_carry_75
      | succ n2 ih4 =>
        intro i3 B6 H locs ls hii3 hsi3 hB7  Y hl
        refine lv_iload X.1 X.2.1 d_carry_24 (lv_at hl 0 rfl) ?_
        refine lv_iload_n X.1 X.2.1 d_carry_26 rfl (lv_at hl 1 rfl) ?_
        refine lv_icmp_ge (tgt := 69) X.1 X.2.1 d_carry_27 (by decide) (fun c9 => absurd c9 ?_) (fun c9 => ?_)
        · (rw [nI_leI (by omega) (by omega)] <;> omega)
        rw [nI_leI (by omega) (by omega)] at c9
        refine lv_aload_n X.1 X.2.1 d_carry_30 rfl (lv_at hl 2 rfl) ?_
        refine m_get X Y 0 (by decide) lk_mem (gf_mem _ _ _) rfl d_carry_31 ?_
        refine lv_iload X.1 X.2.1 d_carry_34 (lv_at hl 0 rfl) ?_
        have jn11 : ∀ w10 : Int32, W p l e (mR 0 0) s m AV below meth c H locs 0 0 QQ (F0 m 62 ls [.int w10, .int (nI i3), .ref (q 0)]) := by
          intro w10
          refine m_bast X Y (aw_mem _ _ _ _ _ _ _) (vp_in_nI (by omega) (by decide)) (sw_mem _ _ _ _ _ _ _ _) d_carry_62 (fun H locs Y => ?_)
          generalize (upd (B6 0) ((nI i3)).toNatClampNeg (vp_nar .byte w10)) = f12 at Y
          refine lv_iinc (v := (nI (i3 + 1))) (lv' := [(4, .int (nI (i3 + 1))), (3, .int (nI k)), (0, .ref h), (1, .int a1), (2, .int a2)]) X.1 X.2.1 d_carry_63 hl (k := 0) rfl (nI_add _ 1) (by decide) rfl (fun ls hl => ?_)
          refine lv_goto (tgt := 24) X.1 X.2.1 d_carry_66 (by decide) ?_
          exact ih4 (i3 + 1) (upB B6 0 f12) _ _ _ (by omega) (by omega) (fun j h0 => ((if_neg h0).trans (hB7 j h0)))  Y (lv_sub hl [0, 1, 2, 3, 4] rfl)
        refine lv_iload X.1 X.2.1 d_carry_36 (lv_at hl 0 rfl) ?_
        refine lv_iload_n X.1 X.2.1 d_carry_38 rfl (lv_at hl 3 rfl) ?_
        refine lv_icmp_ne (tgt := 55) X.1 X.2.1 d_carry_39 (by decide) (fun c13 => ?_) (fun c13 => ?_)
        · skip
          refine lv_aload_n X.1 X.2.1 d_carry_55 rfl (lv_at hl 2 rfl) ?_
          refine m_get X Y 1 (by decide) lk_outs (gf_outs _ _ _) rfl d_carry_56 ?_
          refine lv_iload X.1 X.2.1 d_carry_59 (lv_at hl 0 rfl) ?_
          refine m_bald X Y (aw_outs _ _ _ _ _ _ _) (vp_in_nI (by omega) (by decide)) d_carry_61 ?_
          refine t_any (fun v14 => ?_)
          exact jn11 _
        · skip
          refine lv_aload_n X.1 X.2.1 d_carry_42 rfl (lv_at hl 2 rfl) ?_
          refine m_get X Y 1 (by decide) lk_outs (gf_outs _ _ _) rfl d_carry_43 ?_
          refine lv_iload X.1 X.2.1 d_carry_46 (lv_at hl 0 rfl) ?_
          refine m_bald X Y (aw_outs _ _ _ _ _ _ _) (vp_in_nI (by omega) (by decide)) d_carry_48 ?_
          refine t_any (fun v15 => ?_)
          refine lv_iload_n X.1 X.2.1 d_carry_49 rfl (lv_at hl 4 rfl) ?_
          refine lv_ixor X.1 X.2.1 d_carry_50 ?_
          refine t_any (fun v16 => ?_)
          obtain ⟨v17, ev17⟩ : ∃ z : Int32, (v16 : Int32).toInt8.toInt32 = z := ⟨_, rfl⟩
          refine lv_i2b (v := v17) X.1 X.2.1 d_carry_51 ev17 ?_
          refine lv_goto (tgt := 62) X.1 X.2.1 d_carry_52 (by decide) ?_
          exact jn11 _
    exact lp5 (k) 0 B _ _ _ (by omega) (by omega) (fun j h0 => rfl)  Y (lv_sub hl [0, 1, 2, 3, 4] rfl)
  refine lv_aload_n X.1 X.2.1 d_carry_0 rfl (lv_at hl 0 rfl) ?_
  refine m_get X Y 3 (by decide) lk_outMany (gf_outMany _ _ _) rfl d_carry_1 ?_
  refine t_eq (show I 3 = nI (n) from hn) ?_
  refine lv_sipush (v := (nI 4000)) X.1 X.2.1 d_carry_4 (by decide) ?_
  refine lv_icmp_ge (tgt := 17) X.1 X.2.1 d_carry_7 (by decide) (fun c18 => ?_) (fun c18 => ?_)
  · skip
    rw [nI_leI (by omega) (by omega)] at c18
    refine lv_sipush (v := (nI 4000)) X.1 X.2.1 d_carry_17 (by decide) ?_
    exact jn1 (4000) (by omega)
  · skip
    rw [nI_leI (by omega) (by omega)] at c18
    refine lv_aload_n X.1 X.2.1 d_carry_10 rfl (lv_at hl 0 rfl) ?_
    refine m_get X Y 3 (by decide) lk_outMany (gf_outMany _ _ _) rfl d_carry_11 ?_
    refine t_eq (show I 3 = nI (n) from hn) ?_
    refine lv_goto (tgt := 20) X.1 X.2.1 d_carry_14 (by decide) ?_
    exact jn1 (n) (by omega)
