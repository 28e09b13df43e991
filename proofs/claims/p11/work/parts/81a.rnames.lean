theorem cn_M_9 : Cond.constant R_M 9 (60000) ∈ lw_tg := in_t 1751 (by decide +kernel)
theorem cn_M_17 : Cond.constant R_M 17 (1000000000) ∈ lw_tg := in_t 1752 (by decide +kernel)
theorem cn_M_187 : Cond.constant R_M 187 (134400) ∈ lw_tg := in_t 1753 (by decide +kernel)
theorem cn_M_639 : Cond.constant R_M 639 (36000) ∈ lw_tg := in_t 1786 (by decide +kernel)
theorem cn_M_640 : Cond.constant R_M 640 (72000) ∈ lw_tg := in_t 1787 (by decide +kernel)
theorem cn_M_352 : Cond.constant R_M 352 (1732584193) ∈ lw_tg := in_t 1809 (by decide +kernel)
theorem cn_M_353 : Cond.constant R_M 353 (-271733879) ∈ lw_tg := in_t 1810 (by decide +kernel)
theorem cn_M_354 : Cond.constant R_M 354 (-1732584194) ∈ lw_tg := in_t 1811 (by decide +kernel)
theorem cn_M_355 : Cond.constant R_M 355 (271733878) ∈ lw_tg := in_t 1812 (by decide +kernel)
theorem cn_M_356 : Cond.constant R_M 356 (-1009589776) ∈ lw_tg := in_t 1813 (by decide +kernel)
theorem cn_M_364 : Cond.constant R_M 364 (1518500249) ∈ lw_tg := in_t 1821 (by decide +kernel)
theorem cn_M_365 : Cond.constant R_M 365 (1859775393) ∈ lw_tg := in_t 1822 (by decide +kernel)
theorem cn_M_366 : Cond.constant R_M 366 (-1894007588) ∈ lw_tg := in_t 1823 (by decide +kernel)
theorem cn_M_367 : Cond.constant R_M 367 (-899497514) ∈ lw_tg := in_t 1824 (by decide +kernel)
theorem cl_M_368 : Cond.constantLong R_M 368 (8) ∈ lw_tg := in_t 1829 (by decide +kernel)
theorem cn_M_351 : Cond.constant R_M 351 (2000000000) ∈ lw_tg := in_t 2329 (by decide +kernel)
theorem cn_M_644 : Cond.constant R_M 644 (1000000) ∈ lw_tg := in_t 2346 (by decide +kernel)
theorem cn_M_645 : Cond.constant R_M 645 (10000000) ∈ lw_tg := in_t 2347 (by decide +kernel)
theorem cl_M_495 : Cond.constantLong R_M 495 (-2147483648) ∈ lw_tg := in_t 2381 (by decide +kernel)
theorem cl_M_497 : Cond.constantLong R_M 497 (2147483647) ∈ lw_tg := in_t 2382 (by decide +kernel)
theorem cl_M_503 : Cond.constantLong R_M 503 (4294967295) ∈ lw_tg := in_t 2387 (by decide +kernel)
theorem cl_M_505 : Cond.constantLong R_M 505 (999999) ∈ lw_tg := in_t 2388 (by decide +kernel)
theorem cl_M_459 : Cond.constantLong R_M 459 (-1) ∈ lw_tg := in_t 2400 (by decide +kernel)
theorem cl_M_464 : Cond.constantLong R_M 464 (86400) ∈ lw_tg := in_t 2404 (by decide +kernel)
theorem cl_M_466 : Cond.constantLong R_M 466 (3600) ∈ lw_tg := in_t 2405 (by decide +kernel)
theorem cl_M_468 : Cond.constantLong R_M 468 (60) ∈ lw_tg := in_t 2406 (by decide +kernel)
theorem cl_M_542 : Cond.constantLong R_M 542 (-9000000000) ∈ lw_tg := in_t 2432 (by decide +kernel)
theorem cl_M_544 : Cond.constantLong R_M 544 (9000000000) ∈ lw_tg := in_t 2433 (by decide +kernel)
theorem cl_M_669 : Cond.constantLong R_M 669 (5) ∈ lw_tg := in_t 2434 (by decide +kernel)
theorem cl_M_671 : Cond.constantLong R_M 671 (10) ∈ lw_tg := in_t 2435 (by decide +kernel)
theorem cl_M_673 : Cond.constantLong R_M 673 (12) ∈ lw_tg := in_t 2436 (by decide +kernel)
theorem cl_M_646 : Cond.constantLong R_M 646 (300) ∈ lw_tg := in_t 2488 (by decide +kernel)
theorem cl_M_697 : Cond.constantLong R_M 697 (17) ∈ lw_tg := in_t 2497 (by decide +kernel)
theorem cl_M_699 : Cond.constantLong R_M 699 (18) ∈ lw_tg := in_t 2498 (by decide +kernel)
theorem cl_M_899 : Cond.constantLong R_M 899 (19) ∈ lw_tg := in_t 2650 (by decide +kernel)
theorem cl_M_901 : Cond.constantLong R_M 901 (11) ∈ lw_tg := in_t 2651 (by decide +kernel)
theorem cl_M_903 : Cond.constantLong R_M 903 (13) ∈ lw_tg := in_t 2652 (by decide +kernel)
theorem cl_M_799 : Cond.constantLong R_M 799 (14) ∈ lw_tg := in_t 2666 (by decide +kernel)
theorem cl_M_810 : Cond.constantLong R_M 810 (2) ∈ lw_tg := in_t 2697 (by decide +kernel)
theorem cl_M_914 : Cond.constantLong R_M 914 (30) ∈ lw_tg := in_t 2718 (by decide +kernel)
theorem cn_M_921 : Cond.constant R_M 921 (-100000) ∈ lw_tg := in_t 2731 (by decide +kernel)
theorem cn_M_922 : Cond.constant R_M 922 (100000) ∈ lw_tg := in_t 2732 (by decide +kernel)
theorem cn_M_926 : Cond.constant R_M 926 (100000000) ∈ lw_tg := in_t 2749 (by decide +kernel)
theorem cl_M_919 : Cond.constantLong R_M 919 (2100000000) ∈ lw_tg := in_t 2754 (by decide +kernel)
theorem cn_M_933 : Cond.constant R_M 933 (2147483647) ∈ lw_tg := in_t 2759 (by decide +kernel)
theorem cl_M_937 : Cond.constantLong R_M 937 (2145916799) ∈ lw_tg := in_t 2763 (by decide +kernel)
theorem cl_M_958 : Cond.constantLong R_M 958 (1000) ∈ lw_tg := in_t 2789 (by decide +kernel)
theorem cn_M_974 : Cond.constant R_M 974 (1073741823) ∈ lw_tg := in_t 2808 (by decide +kernel)
theorem cl_M_981 : Cond.constantLong R_M 981 (15) ∈ lw_tg := in_t 2817 (by decide +kernel)
theorem cl_M_996 : Cond.constantLong R_M 996 (21) ∈ lw_tg := in_t 2844 (by decide +kernel)
theorem cl_M_1003 : Cond.constantLong R_M 1003 (20) ∈ lw_tg := in_t 2862 (by decide +kernel)
theorem cl_M_1007 : Cond.constantLong R_M 1007 (22) ∈ lw_tg := in_t 2872 (by decide +kernel)
theorem zn_64 : ∀ i, i < nZ → zn i ≤ 64 := by decide +kernel
abbrev b_M_word : ByteArray := prog_14_method_2_code
def y_M_word : MethodName := ⟨R_M, "word", "(ILjava/lang/String;)V"⟩
abbrev k_M_word : Cond := .code y_M_word b_M_word 4 none
theorem ki_M_word : k_M_word ∈ lw_tg := in_t 1758 (by decide +kernel)
theorem ks_M_word : Cond.instanceMethod y_M_word ∈ lw_tg := in_t 1757 (by decide +kernel)
theorem kx_M_word : Cond.selects R_M y_M_word y_M_word ∈ lw_tg := List.mem_filter.mpr ⟨List.mem_append_left _ (List.mem_of_getElem? (i := 70) (by decide +kernel)), rfl⟩
theorem kl_M_word : Cond.methodLink R_M 328 y_M_word ∈ lw_tg := in_t 1755 (by decide +kernel)
theorem hd_M_word : y_M_word.cls = R_M ∧ y_M_word.cls ≠ "java/lang/invoke/MethodHandle" ∧ y_M_word.cls ≠ "java/lang/invoke/VarHandle" ∧ (parseMethodDescriptor y_M_word.desc).map (fun d => d.parameters.length) = some 2 := by decide +kernel
theorem d_M_word_0 : decode b_M_word 0 = .ok (.iconst 0, 1) := by decide +kernel
theorem d_M_word_1 : decode b_M_word 1 = .ok (.istore_n 3, 1) := by decide +kernel
theorem d_M_word_2 : decode b_M_word 2 = .ok (.iload_n 3, 1) := by decide +kernel
theorem d_M_word_3 : decode b_M_word 3 = .ok (.aload_n 2, 1) := by decide +kernel
theorem d_M_word_4 : decode b_M_word 4 = .ok (.invokevirtual 339, 3) := by decide +kernel
theorem d_M_word_7 : decode b_M_word 7 = .ok (.if_icmp .ge 23, 3) := by decide +kernel
theorem d_M_word_10 : decode b_M_word 10 = .ok (.aload_n 0, 1) := by decide +kernel
theorem d_M_word_11 : decode b_M_word 11 = .ok (.getfield 10, 3) := by decide +kernel
theorem d_M_word_14 : decode b_M_word 14 = .ok (.iload_n 1, 1) := by decide +kernel
theorem d_M_word_15 : decode b_M_word 15 = .ok (.iload_n 3, 1) := by decide +kernel
theorem d_M_word_16 : decode b_M_word 16 = .ok (.iadd, 1) := by decide +kernel
theorem d_M_word_17 : decode b_M_word 17 = .ok (.aload_n 2, 1) := by decide +kernel
theorem d_M_word_18 : decode b_M_word 18 = .ok (.iload_n 3, 1) := by decide +kernel
theorem d_M_word_19 : decode b_M_word 19 = .ok (.invokevirtual 344, 3) := by decide +kernel
theorem d_M_word_22 : decode b_M_word 22 = .ok (.i2b, 1) := by decide +kernel
theorem d_M_word_23 : decode b_M_word 23 = .ok (.bastore, 1) := by decide +kernel
theorem d_M_word_24 : decode b_M_word 24 = .ok (.iinc 3 1, 3) := by decide +kernel
theorem d_M_word_27 : decode b_M_word 27 = .ok (.goto (-25), 3) := by decide +kernel
theorem d_M_word_30 : decode b_M_word 30 = .ok (.return_, 1) := by decide +kernel
abbrev b_M_feed : ByteArray := prog_14_method_3_code
def y_M_feed : MethodName := ⟨R_M, "feed", "(IIIII)Z"⟩
abbrev k_M_feed : Cond := .code y_M_feed b_M_feed 8 (some .boolean)
theorem ki_M_feed : k_M_feed ∈ lw_tg := in_t 2312 (by decide +kernel)
theorem ks_M_feed : Cond.instanceMethod y_M_feed ∈ lw_tg := in_t 2310 (by decide +kernel)
theorem kx_M_feed : Cond.selects R_M y_M_feed y_M_feed ∈ lw_tg := in_t 2311 (by decide +kernel)
theorem hd_M_feed : y_M_feed.cls = R_M ∧ y_M_feed.cls ≠ "java/lang/invoke/MethodHandle" ∧ y_M_feed.cls ≠ "java/lang/invoke/VarHandle" ∧ (parseMethodDescriptor y_M_feed.desc).map (fun d => d.parameters.length) = some 5 := by decide +kernel
theorem d_M_feed_0 : decode b_M_feed 0 = .ok (.aload_n 0, 1) := by decide +kernel
theorem d_M_feed_1 : decode b_M_feed 1 = .ok (.getfield 332, 3) := by decide +kernel
theorem d_M_feed_4 : decode b_M_feed 4 = .ok (.bipush 20, 2) := by decide +kernel
theorem d_M_feed_6 : decode b_M_feed 6 = .ok (.iadd, 1) := by decide +kernel
theorem d_M_feed_7 : decode b_M_feed 7 = .ok (.sipush 4000, 3) := by decide +kernel
theorem d_M_feed_10 : decode b_M_feed 10 = .ok (.if_icmp .le 5, 3) := by decide +kernel
theorem d_M_feed_13 : decode b_M_feed 13 = .ok (.iconst 0, 1) := by decide +kernel
theorem d_M_feed_14 : decode b_M_feed 14 = .ok (.ireturn, 1) := by decide +kernel
theorem d_M_feed_15 : decode b_M_feed 15 = .ok (.iconst 0, 1) := by decide +kernel
theorem d_M_feed_16 : decode b_M_feed 16 = .ok (.istore 6, 2) := by decide +kernel
theorem d_M_feed_18 : decode b_M_feed 18 = .ok (.iload 6, 2) := by decide +kernel
theorem d_M_feed_20 : decode b_M_feed 20 = .ok (.bipush 20, 2) := by decide +kernel
theorem d_M_feed_22 : decode b_M_feed 22 = .ok (.if_icmp .ge 90, 3) := by decide +kernel
theorem d_M_feed_25 : decode b_M_feed 25 = .ok (.iload 6, 2) := by decide +kernel
theorem d_M_feed_27 : decode b_M_feed 27 = .ok (.iconst 4, 1) := by decide +kernel
theorem d_M_feed_28 : decode b_M_feed 28 = .ok (.if_icmp .ge 7, 3) := by decide +kernel
theorem d_M_feed_31 : decode b_M_feed 31 = .ok (.iload_n 1, 1) := by decide +kernel
theorem d_M_feed_32 : decode b_M_feed 32 = .ok (.goto 39, 3) := by decide +kernel
theorem d_M_feed_35 : decode b_M_feed 35 = .ok (.iload 6, 2) := by decide +kernel
theorem d_M_feed_37 : decode b_M_feed 37 = .ok (.bipush 8, 2) := by decide +kernel
theorem d_M_feed_39 : decode b_M_feed 39 = .ok (.if_icmp .ge 7, 3) := by decide +kernel
theorem d_M_feed_42 : decode b_M_feed 42 = .ok (.iload_n 2, 1) := by decide +kernel
theorem d_M_feed_43 : decode b_M_feed 43 = .ok (.goto 28, 3) := by decide +kernel
theorem d_M_feed_46 : decode b_M_feed 46 = .ok (.iload 6, 2) := by decide +kernel
theorem d_M_feed_48 : decode b_M_feed 48 = .ok (.bipush 12, 2) := by decide +kernel
theorem d_M_feed_50 : decode b_M_feed 50 = .ok (.if_icmp .ge 7, 3) := by decide +kernel
theorem d_M_feed_53 : decode b_M_feed 53 = .ok (.iload_n 3, 1) := by decide +kernel
theorem d_M_feed_54 : decode b_M_feed 54 = .ok (.goto 17, 3) := by decide +kernel
theorem d_M_feed_57 : decode b_M_feed 57 = .ok (.iload 6, 2) := by decide +kernel
theorem d_M_feed_59 : decode b_M_feed 59 = .ok (.bipush 16, 2) := by decide +kernel
theorem d_M_feed_61 : decode b_M_feed 61 = .ok (.if_icmp .ge 8, 3) := by decide +kernel
theorem d_M_feed_64 : decode b_M_feed 64 = .ok (.iload 4, 2) := by decide +kernel
theorem d_M_feed_66 : decode b_M_feed 66 = .ok (.goto 5, 3) := by decide +kernel
theorem d_M_feed_69 : decode b_M_feed 69 = .ok (.iload 5, 2) := by decide +kernel
theorem d_M_feed_71 : decode b_M_feed 71 = .ok (.istore 7, 2) := by decide +kernel
theorem d_M_feed_73 : decode b_M_feed 73 = .ok (.aload_n 0, 1) := by decide +kernel
theorem d_M_feed_74 : decode b_M_feed 74 = .ok (.getfield 10, 3) := by decide +kernel
theorem d_M_feed_77 : decode b_M_feed 77 = .ok (.aload_n 0, 1) := by decide +kernel
theorem d_M_feed_78 : decode b_M_feed 78 = .ok (.getfield 332, 3) := by decide +kernel
theorem d_M_feed_81 : decode b_M_feed 81 = .ok (.iload 7, 2) := by decide +kernel
theorem d_M_feed_83 : decode b_M_feed 83 = .ok (.bipush 24, 2) := by decide +kernel
theorem d_M_feed_85 : decode b_M_feed 85 = .ok (.bipush 8, 2) := by decide +kernel
theorem d_M_feed_87 : decode b_M_feed 87 = .ok (.iload 6, 2) := by decide +kernel
theorem d_M_feed_89 : decode b_M_feed 89 = .ok (.iconst 4, 1) := by decide +kernel
theorem d_M_feed_90 : decode b_M_feed 90 = .ok (.irem, 1) := by decide +kernel
theorem d_M_feed_91 : decode b_M_feed 91 = .ok (.imul, 1) := by decide +kernel
theorem d_M_feed_92 : decode b_M_feed 92 = .ok (.isub, 1) := by decide +kernel
theorem d_M_feed_93 : decode b_M_feed 93 = .ok (.ishr, 1) := by decide +kernel
theorem d_M_feed_94 : decode b_M_feed 94 = .ok (.i2b, 1) := by decide +kernel
theorem d_M_feed_95 : decode b_M_feed 95 = .ok (.bastore, 1) := by decide +kernel
theorem d_M_feed_96 : decode b_M_feed 96 = .ok (.aload_n 0, 1) := by decide +kernel
theorem d_M_feed_97 : decode b_M_feed 97 = .ok (.dup, 1) := by decide +kernel
theorem d_M_feed_98 : decode b_M_feed 98 = .ok (.getfield 332, 3) := by decide +kernel
theorem d_M_feed_101 : decode b_M_feed 101 = .ok (.iconst 1, 1) := by decide +kernel
theorem d_M_feed_102 : decode b_M_feed 102 = .ok (.iadd, 1) := by decide +kernel
theorem d_M_feed_103 : decode b_M_feed 103 = .ok (.putfield 332, 3) := by decide +kernel
theorem d_M_feed_106 : decode b_M_feed 106 = .ok (.iinc 6 1, 3) := by decide +kernel
theorem d_M_feed_109 : decode b_M_feed 109 = .ok (.goto (-91), 3) := by decide +kernel
theorem d_M_feed_112 : decode b_M_feed 112 = .ok (.iconst 1, 1) := by decide +kernel
theorem d_M_feed_113 : decode b_M_feed 113 = .ok (.ireturn, 1) := by decide +kernel
abbrev b_M_end : ByteArray := prog_14_method_4_code
def y_M_end : MethodName := ⟨R_M, "end", "(I)Z"⟩
abbrev k_M_end : Cond := .code y_M_end b_M_end 2 (some .boolean)
theorem ki_M_end : k_M_end ∈ lw_tg := in_t 2316 (by decide +kernel)
theorem ks_M_end : Cond.instanceMethod y_M_end ∈ lw_tg := in_t 2314 (by decide +kernel)
theorem kx_M_end : Cond.selects R_M y_M_end y_M_end ∈ lw_tg := in_t 2315 (by decide +kernel)
theorem hd_M_end : y_M_end.cls = R_M ∧ y_M_end.cls ≠ "java/lang/invoke/MethodHandle" ∧ y_M_end.cls ≠ "java/lang/invoke/VarHandle" ∧ (parseMethodDescriptor y_M_end.desc).map (fun d => d.parameters.length) = some 1 := by decide +kernel
theorem d_M_end_0 : decode b_M_end 0 = .ok (.iload_n 1, 1) := by decide +kernel
theorem d_M_end_1 : decode b_M_end 1 = .ok (.ifCond .lt 11, 3) := by decide +kernel
theorem d_M_end_4 : decode b_M_end 4 = .ok (.iload_n 1, 1) := by decide +kernel
theorem d_M_end_5 : decode b_M_end 5 = .ok (.aload_n 0, 1) := by decide +kernel
theorem d_M_end_6 : decode b_M_end 6 = .ok (.getfield 332, 3) := by decide +kernel
theorem d_M_end_9 : decode b_M_end 9 = .ok (.if_icmp .le 5, 3) := by decide +kernel
theorem d_M_end_12 : decode b_M_end 12 = .ok (.iconst 0, 1) := by decide +kernel
theorem d_M_end_13 : decode b_M_end 13 = .ok (.ireturn, 1) := by decide +kernel
theorem d_M_end_14 : decode b_M_end 14 = .ok (.aload_n 0, 1) := by decide +kernel
theorem d_M_end_15 : decode b_M_end 15 = .ok (.iload_n 1, 1) := by decide +kernel
theorem d_M_end_16 : decode b_M_end 16 = .ok (.putfield 332, 3) := by decide +kernel
theorem d_M_end_19 : decode b_M_end 19 = .ok (.iconst 1, 1) := by decide +kernel
theorem d_M_end_20 : decode b_M_end 20 = .ok (.ireturn, 1) := by decide +kernel
abbrev b_M_out : ByteArray := prog_14_method_5_code
def y_M_out : MethodName := ⟨R_M, "out", "(I)I"⟩
abbrev k_M_out : Cond := .code y_M_out b_M_out 2 (some .int)
theorem ki_M_out : k_M_out ∈ lw_tg := in_t 2320 (by decide +kernel)
theorem ks_M_out : Cond.instanceMethod y_M_out ∈ lw_tg := in_t 2318 (by decide +kernel)
theorem kx_M_out : Cond.selects R_M y_M_out y_M_out ∈ lw_tg := in_t 2319 (by decide +kernel)
theorem hd_M_out : y_M_out.cls = R_M ∧ y_M_out.cls ≠ "java/lang/invoke/MethodHandle" ∧ y_M_out.cls ≠ "java/lang/invoke/VarHandle" ∧ (parseMethodDescriptor y_M_out.desc).map (fun d => d.parameters.length) = some 1 := by decide +kernel
theorem d_M_out_0 : decode b_M_out 0 = .ok (.iload_n 1, 1) := by decide +kernel
theorem d_M_out_1 : decode b_M_out 1 = .ok (.iconst (-1), 1) := by decide +kernel
theorem d_M_out_2 : decode b_M_out 2 = .ok (.if_icmp .ne 10, 3) := by decide +kernel
theorem d_M_out_5 : decode b_M_out 5 = .ok (.aload_n 0, 1) := by decide +kernel
theorem d_M_out_6 : decode b_M_out 6 = .ok (.getfield 348, 3) := by decide +kernel
theorem d_M_out_9 : decode b_M_out 9 = .ok (.goto 29, 3) := by decide +kernel
theorem d_M_out_12 : decode b_M_out 12 = .ok (.iload_n 1, 1) := by decide +kernel
theorem d_M_out_13 : decode b_M_out 13 = .ok (.ifCond .lt 24, 3) := by decide +kernel
theorem d_M_out_16 : decode b_M_out 16 = .ok (.iload_n 1, 1) := by decide +kernel
theorem d_M_out_17 : decode b_M_out 17 = .ok (.aload_n 0, 1) := by decide +kernel
theorem d_M_out_18 : decode b_M_out 18 = .ok (.getfield 348, 3) := by decide +kernel
theorem d_M_out_21 : decode b_M_out 21 = .ok (.if_icmp .ge 16, 3) := by decide +kernel
theorem d_M_out_24 : decode b_M_out 24 = .ok (.aload_n 0, 1) := by decide +kernel
theorem d_M_out_25 : decode b_M_out 25 = .ok (.getfield 14, 3) := by decide +kernel
theorem d_M_out_28 : decode b_M_out 28 = .ok (.iload_n 1, 1) := by decide +kernel
theorem d_M_out_29 : decode b_M_out 29 = .ok (.baload, 1) := by decide +kernel
theorem d_M_out_30 : decode b_M_out 30 = .ok (.sipush 255, 3) := by decide +kernel
theorem d_M_out_33 : decode b_M_out 33 = .ok (.iand, 1) := by decide +kernel
theorem d_M_out_34 : decode b_M_out 34 = .ok (.goto 4, 3) := by decide +kernel
theorem d_M_out_37 : decode b_M_out 37 = .ok (.iconst (-1), 1) := by decide +kernel
theorem d_M_out_38 : decode b_M_out 38 = .ok (.ireturn, 1) := by decide +kernel
abbrev b_M_carry : ByteArray := prog_14_method_6_code
def y_M_carry : MethodName := ⟨R_M, "carry", "(II)I"⟩
abbrev k_M_carry : Cond := .code y_M_carry b_M_carry 5 (some .int)
theorem ki_M_carry : k_M_carry ∈ lw_tg := in_t 2324 (by decide +kernel)
theorem ks_M_carry : Cond.instanceMethod y_M_carry ∈ lw_tg := in_t 2322 (by decide +kernel)
theorem kx_M_carry : Cond.selects R_M y_M_carry y_M_carry ∈ lw_tg := in_t 2323 (by decide +kernel)
theorem hd_M_carry : y_M_carry.cls = R_M ∧ y_M_carry.cls ≠ "java/lang/invoke/MethodHandle" ∧ y_M_carry.cls ≠ "java/lang/invoke/VarHandle" ∧ (parseMethodDescriptor y_M_carry.desc).map (fun d => d.parameters.length) = some 2 := by decide +kernel
theorem d_M_carry_0 : decode b_M_carry 0 = .ok (.aload_n 0, 1) := by decide +kernel
theorem d_M_carry_1 : decode b_M_carry 1 = .ok (.getfield 348, 3) := by decide +kernel
theorem d_M_carry_4 : decode b_M_carry 4 = .ok (.sipush 4000, 3) := by decide +kernel
theorem d_M_carry_7 : decode b_M_carry 7 = .ok (.if_icmp .ge 10, 3) := by decide +kernel
theorem d_M_carry_10 : decode b_M_carry 10 = .ok (.aload_n 0, 1) := by decide +kernel
theorem d_M_carry_11 : decode b_M_carry 11 = .ok (.getfield 348, 3) := by decide +kernel
theorem d_M_carry_14 : decode b_M_carry 14 = .ok (.goto 6, 3) := by decide +kernel
theorem d_M_carry_17 : decode b_M_carry 17 = .ok (.sipush 4000, 3) := by decide +kernel
theorem d_M_carry_20 : decode b_M_carry 20 = .ok (.istore_n 3, 1) := by decide +kernel
theorem d_M_carry_21 : decode b_M_carry 21 = .ok (.iconst 0, 1) := by decide +kernel
theorem d_M_carry_22 : decode b_M_carry 22 = .ok (.istore 4, 2) := by decide +kernel
theorem d_M_carry_24 : decode b_M_carry 24 = .ok (.iload 4, 2) := by decide +kernel
theorem d_M_carry_26 : decode b_M_carry 26 = .ok (.iload_n 3, 1) := by decide +kernel
theorem d_M_carry_27 : decode b_M_carry 27 = .ok (.if_icmp .ge 42, 3) := by decide +kernel
theorem d_M_carry_30 : decode b_M_carry 30 = .ok (.aload_n 0, 1) := by decide +kernel
theorem d_M_carry_31 : decode b_M_carry 31 = .ok (.getfield 10, 3) := by decide +kernel
theorem d_M_carry_34 : decode b_M_carry 34 = .ok (.iload 4, 2) := by decide +kernel
theorem d_M_carry_36 : decode b_M_carry 36 = .ok (.iload 4, 2) := by decide +kernel
theorem d_M_carry_38 : decode b_M_carry 38 = .ok (.iload_n 1, 1) := by decide +kernel
theorem d_M_carry_39 : decode b_M_carry 39 = .ok (.if_icmp .ne 16, 3) := by decide +kernel
theorem d_M_carry_42 : decode b_M_carry 42 = .ok (.aload_n 0, 1) := by decide +kernel
theorem d_M_carry_43 : decode b_M_carry 43 = .ok (.getfield 14, 3) := by decide +kernel
theorem d_M_carry_46 : decode b_M_carry 46 = .ok (.iload 4, 2) := by decide +kernel
theorem d_M_carry_48 : decode b_M_carry 48 = .ok (.baload, 1) := by decide +kernel
theorem d_M_carry_49 : decode b_M_carry 49 = .ok (.iload_n 2, 1) := by decide +kernel
theorem d_M_carry_50 : decode b_M_carry 50 = .ok (.ixor, 1) := by decide +kernel
theorem d_M_carry_51 : decode b_M_carry 51 = .ok (.i2b, 1) := by decide +kernel
theorem d_M_carry_52 : decode b_M_carry 52 = .ok (.goto 10, 3) := by decide +kernel
theorem d_M_carry_55 : decode b_M_carry 55 = .ok (.aload_n 0, 1) := by decide +kernel
theorem d_M_carry_56 : decode b_M_carry 56 = .ok (.getfield 14, 3) := by decide +kernel
theorem d_M_carry_59 : decode b_M_carry 59 = .ok (.iload 4, 2) := by decide +kernel
theorem d_M_carry_61 : decode b_M_carry 61 = .ok (.baload, 1) := by decide +kernel
theorem d_M_carry_62 : decode b_M_carry 62 = .ok (.bastore, 1) := by decide +kernel
theorem d_M_carry_63 : decode b_M_carry 63 = .ok (.iinc 4 1, 3) := by decide +kernel
theorem d_M_carry_66 : decode b_M_carry 66 = .ok (.goto (-42), 3) := by decide +kernel
theorem d_M_carry_69 : decode b_M_carry 69 = .ok (.aload_n 0, 1) := by decide +kernel
theorem d_M_carry_70 : decode b_M_carry 70 = .ok (.iload_n 3, 1) := by decide +kernel
theorem d_M_carry_71 : decode b_M_carry 71 = .ok (.putfield 332, 3) := by decide +kernel
theorem d_M_carry_74 : decode b_M_carry 74 = .ok (.iload_n 3, 1) := by decide +kernel
theorem d_M_carry_75 : decode b_M_carry 75 = .ok (.ireturn, 1) := by decide +kernel
abbrev b_M_clock : ByteArray := prog_14_method_7_code
def y_M_clock : MethodName := ⟨R_M, "clock", "(I)Z"⟩
abbrev k_M_clock : Cond := .code y_M_clock b_M_clock 2 (some .boolean)
theorem ki_M_clock : k_M_clock ∈ lw_tg := in_t 2328 (by decide +kernel)
theorem ks_M_clock : Cond.instanceMethod y_M_clock ∈ lw_tg := in_t 2326 (by decide +kernel)
theorem kx_M_clock : Cond.selects R_M y_M_clock y_M_clock ∈ lw_tg := in_t 2327 (by decide +kernel)
theorem hd_M_clock : y_M_clock.cls = R_M ∧ y_M_clock.cls ≠ "java/lang/invoke/MethodHandle" ∧ y_M_clock.cls ≠ "java/lang/invoke/VarHandle" ∧ (parseMethodDescriptor y_M_clock.desc).map (fun d => d.parameters.length) = some 1 := by decide +kernel
theorem d_M_clock_0 : decode b_M_clock 0 = .ok (.iload_n 1, 1) := by decide +kernel
theorem d_M_clock_1 : decode b_M_clock 1 = .ok (.ifCond .lt 10, 3) := by decide +kernel
theorem d_M_clock_4 : decode b_M_clock 4 = .ok (.iload_n 1, 1) := by decide +kernel
theorem d_M_clock_5 : decode b_M_clock 5 = .ok (.ldc_w 351, 3) := by decide +kernel
theorem d_M_clock_8 : decode b_M_clock 8 = .ok (.if_icmp .le 5, 3) := by decide +kernel
theorem d_M_clock_11 : decode b_M_clock 11 = .ok (.iconst 0, 1) := by decide +kernel
theorem d_M_clock_12 : decode b_M_clock 12 = .ok (.ireturn, 1) := by decide +kernel
theorem d_M_clock_13 : decode b_M_clock 13 = .ok (.aload_n 0, 1) := by decide +kernel
theorem d_M_clock_14 : decode b_M_clock 14 = .ok (.iload_n 1, 1) := by decide +kernel
theorem d_M_clock_15 : decode b_M_clock 15 = .ok (.putfield 18, 3) := by decide +kernel
theorem d_M_clock_18 : decode b_M_clock 18 = .ok (.iconst 1, 1) := by decide +kernel
theorem d_M_clock_19 : decode b_M_clock 19 = .ok (.ireturn, 1) := by decide +kernel
abbrev b_M_begin : ByteArray := prog_14_method_8_code
def y_M_begin : MethodName := ⟨R_M, "begin", "()V"⟩
abbrev k_M_begin : Cond := .code y_M_begin b_M_begin 1 none
theorem ki_M_begin : k_M_begin ∈ lw_tg := in_t 1808 (by decide +kernel)
theorem ks_M_begin : Cond.instanceMethod y_M_begin ∈ lw_tg := in_t 1807 (by decide +kernel)
theorem kx_M_begin : Cond.selects R_M y_M_begin y_M_begin ∈ lw_tg := List.mem_filter.mpr ⟨List.mem_append_left _ (List.mem_of_getElem? (i := 81) (by decide +kernel)), rfl⟩
theorem kl_M_begin : Cond.methodLink R_M 374 y_M_begin ∈ lw_tg := in_t 1805 (by decide +kernel)
theorem hd_M_begin : y_M_begin.cls = R_M ∧ y_M_begin.cls ≠ "java/lang/invoke/MethodHandle" ∧ y_M_begin.cls ≠ "java/lang/invoke/VarHandle" ∧ (parseMethodDescriptor y_M_begin.desc).map (fun d => d.parameters.length) = some 0 := by decide +kernel
theorem d_M_begin_0 : decode b_M_begin 0 = .ok (.aload_n 0, 1) := by decide +kernel
theorem d_M_begin_1 : decode b_M_begin 1 = .ok (.getfield 22, 3) := by decide +kernel
theorem d_M_begin_4 : decode b_M_begin 4 = .ok (.iconst 0, 1) := by decide +kernel
theorem d_M_begin_5 : decode b_M_begin 5 = .ok (.ldc_w 352, 3) := by decide +kernel
theorem d_M_begin_8 : decode b_M_begin 8 = .ok (.iastore, 1) := by decide +kernel
theorem d_M_begin_9 : decode b_M_begin 9 = .ok (.aload_n 0, 1) := by decide +kernel
theorem d_M_begin_10 : decode b_M_begin 10 = .ok (.getfield 22, 3) := by decide +kernel
theorem d_M_begin_13 : decode b_M_begin 13 = .ok (.iconst 1, 1) := by decide +kernel
theorem d_M_begin_14 : decode b_M_begin 14 = .ok (.ldc_w 353, 3) := by decide +kernel
theorem d_M_begin_17 : decode b_M_begin 17 = .ok (.iastore, 1) := by decide +kernel
theorem d_M_begin_18 : decode b_M_begin 18 = .ok (.aload_n 0, 1) := by decide +kernel
theorem d_M_begin_19 : decode b_M_begin 19 = .ok (.getfield 22, 3) := by decide +kernel
theorem d_M_begin_22 : decode b_M_begin 22 = .ok (.iconst 2, 1) := by decide +kernel
theorem d_M_begin_23 : decode b_M_begin 23 = .ok (.ldc_w 354, 3) := by decide +kernel
theorem d_M_begin_26 : decode b_M_begin 26 = .ok (.iastore, 1) := by decide +kernel
theorem d_M_begin_27 : decode b_M_begin 27 = .ok (.aload_n 0, 1) := by decide +kernel
theorem d_M_begin_28 : decode b_M_begin 28 = .ok (.getfield 22, 3) := by decide +kernel
theorem d_M_begin_31 : decode b_M_begin 31 = .ok (.iconst 3, 1) := by decide +kernel
theorem d_M_begin_32 : decode b_M_begin 32 = .ok (.ldc_w 355, 3) := by decide +kernel
theorem d_M_begin_35 : decode b_M_begin 35 = .ok (.iastore, 1) := by decide +kernel
theorem d_M_begin_36 : decode b_M_begin 36 = .ok (.aload_n 0, 1) := by decide +kernel
theorem d_M_begin_37 : decode b_M_begin 37 = .ok (.getfield 22, 3) := by decide +kernel
theorem d_M_begin_40 : decode b_M_begin 40 = .ok (.iconst 4, 1) := by decide +kernel
theorem d_M_begin_41 : decode b_M_begin 41 = .ok (.ldc_w 356, 3) := by decide +kernel
theorem d_M_begin_44 : decode b_M_begin 44 = .ok (.iastore, 1) := by decide +kernel
theorem d_M_begin_45 : decode b_M_begin 45 = .ok (.aload_n 0, 1) := by decide +kernel
theorem d_M_begin_46 : decode b_M_begin 46 = .ok (.iconst 0, 1) := by decide +kernel
theorem d_M_begin_47 : decode b_M_begin 47 = .ok (.putfield 357, 3) := by decide +kernel
theorem d_M_begin_50 : decode b_M_begin 50 = .ok (.return_, 1) := by decide +kernel
abbrev b_M_left : ByteArray := prog_14_method_9_code
def y_M_left : MethodName := ⟨R_M, "left", "(II)I"⟩
abbrev k_M_left : Cond := .code y_M_left b_M_left 2 (some .int)
theorem ki_M_left : k_M_left ∈ lw_tg := in_t 1820 (by decide +kernel)
theorem ks_M_left : Cond.static y_M_left ∈ lw_tg := in_t 1819 (by decide +kernel)
theorem kl_M_left : Cond.methodLink R_M 360 y_M_left ∈ lw_tg := in_t 1818 (by decide +kernel)
theorem hd_M_left : y_M_left.cls = R_M ∧ y_M_left.cls ≠ "java/lang/invoke/MethodHandle" ∧ y_M_left.cls ≠ "java/lang/invoke/VarHandle" ∧ (parseMethodDescriptor y_M_left.desc).map (fun d => d.parameters.length) = some 2 := by decide +kernel
theorem d_M_left_0 : decode b_M_left 0 = .ok (.iload_n 0, 1) := by decide +kernel
theorem d_M_left_1 : decode b_M_left 1 = .ok (.iload_n 1, 1) := by decide +kernel
theorem d_M_left_2 : decode b_M_left 2 = .ok (.ishl, 1) := by decide +kernel
theorem d_M_left_3 : decode b_M_left 3 = .ok (.iload_n 0, 1) := by decide +kernel
theorem d_M_left_4 : decode b_M_left 4 = .ok (.bipush 32, 2) := by decide +kernel
theorem d_M_left_6 : decode b_M_left 6 = .ok (.iload_n 1, 1) := by decide +kernel
theorem d_M_left_7 : decode b_M_left 7 = .ok (.isub, 1) := by decide +kernel
theorem d_M_left_8 : decode b_M_left 8 = .ok (.iushr, 1) := by decide +kernel
theorem d_M_left_9 : decode b_M_left 9 = .ok (.ior, 1) := by decide +kernel
theorem d_M_left_10 : decode b_M_left 10 = .ok (.ireturn, 1) := by decide +kernel
abbrev b_M_hash : ByteArray := prog_14_method_10_code
def y_M_hash : MethodName := ⟨R_M, "hash", "(I)V"⟩
abbrev k_M_hash : Cond := .code y_M_hash b_M_hash 11 none
theorem ki_M_hash : k_M_hash ∈ lw_tg := List.mem_filter.mpr ⟨List.mem_append_right _ (List.mem_append_right _ (List.mem_append_right _ (List.mem_append_right _ (List.mem_append_right _ (List.mem_append_right _ (List.mem_append_right _ (List.mem_append_right _ (List.mem_append_left _ (List.mem_of_getElem? (i := 137) rfl))))))))), rfl⟩
theorem ks_M_hash : Cond.instanceMethod y_M_hash ∈ lw_tg := in_t 1816 (by decide +kernel)
theorem kx_M_hash : Cond.selects R_M y_M_hash y_M_hash ∈ lw_tg := List.mem_filter.mpr ⟨List.mem_append_left _ (List.mem_of_getElem? (i := 82) (by decide +kernel)), rfl⟩
theorem kl_M_hash : Cond.methodLink R_M 370 y_M_hash ∈ lw_tg := in_t 1814 (by decide +kernel)
theorem hd_M_hash : y_M_hash.cls = R_M ∧ y_M_hash.cls ≠ "java/lang/invoke/MethodHandle" ∧ y_M_hash.cls ≠ "java/lang/invoke/VarHandle" ∧ (parseMethodDescriptor y_M_hash.desc).map (fun d => d.parameters.length) = some 1 := by decide +kernel
theorem d_M_hash_0 : decode b_M_hash 0 = .ok (.aload_n 0, 1) := by decide +kernel
theorem d_M_hash_1 : decode b_M_hash 1 = .ok (.getfield 29, 3) := by decide +kernel
theorem d_M_hash_4 : decode b_M_hash 4 = .ok (.aload_n 0, 1) := by decide +kernel
theorem d_M_hash_5 : decode b_M_hash 5 = .ok (.getfield 357, 3) := by decide +kernel
theorem d_M_hash_8 : decode b_M_hash 8 = .ok (.bipush 64, 2) := by decide +kernel
theorem d_M_hash_10 : decode b_M_hash 10 = .ok (.irem, 1) := by decide +kernel
theorem d_M_hash_11 : decode b_M_hash 11 = .ok (.iload_n 1, 1) := by decide +kernel
theorem d_M_hash_12 : decode b_M_hash 12 = .ok (.i2b, 1) := by decide +kernel
theorem d_M_hash_13 : decode b_M_hash 13 = .ok (.bastore, 1) := by decide +kernel
theorem d_M_hash_14 : decode b_M_hash 14 = .ok (.aload_n 0, 1) := by decide +kernel
theorem d_M_hash_15 : decode b_M_hash 15 = .ok (.dup, 1) := by decide +kernel
theorem d_M_hash_16 : decode b_M_hash 16 = .ok (.getfield 357, 3) := by decide +kernel
theorem d_M_hash_19 : decode b_M_hash 19 = .ok (.iconst 1, 1) := by decide +kernel
theorem d_M_hash_20 : decode b_M_hash 20 = .ok (.iadd, 1) := by decide +kernel
theorem d_M_hash_21 : decode b_M_hash 21 = .ok (.putfield 357, 3) := by decide +kernel
theorem d_M_hash_24 : decode b_M_hash 24 = .ok (.aload_n 0, 1) := by decide +kernel
theorem d_M_hash_25 : decode b_M_hash 25 = .ok (.getfield 357, 3) := by decide +kernel
theorem d_M_hash_28 : decode b_M_hash 28 = .ok (.bipush 64, 2) := by decide +kernel
theorem d_M_hash_30 : decode b_M_hash 30 = .ok (.irem, 1) := by decide +kernel
theorem d_M_hash_31 : decode b_M_hash 31 = .ok (.ifCond .eq 4, 3) := by decide +kernel
theorem d_M_hash_34 : decode b_M_hash 34 = .ok (.return_, 1) := by decide +kernel
theorem d_M_hash_35 : decode b_M_hash 35 = .ok (.iconst 0, 1) := by decide +kernel
theorem d_M_hash_36 : decode b_M_hash 36 = .ok (.istore_n 2, 1) := by decide +kernel
theorem d_M_hash_37 : decode b_M_hash 37 = .ok (.iload_n 2, 1) := by decide +kernel
theorem d_M_hash_38 : decode b_M_hash 38 = .ok (.bipush 16, 2) := by decide +kernel
theorem d_M_hash_40 : decode b_M_hash 40 = .ok (.if_icmp .ge 77, 3) := by decide +kernel
theorem d_M_hash_43 : decode b_M_hash 43 = .ok (.aload_n 0, 1) := by decide +kernel
theorem d_M_hash_44 : decode b_M_hash 44 = .ok (.getfield 26, 3) := by decide +kernel
theorem d_M_hash_47 : decode b_M_hash 47 = .ok (.iload_n 2, 1) := by decide +kernel
theorem d_M_hash_48 : decode b_M_hash 48 = .ok (.aload_n 0, 1) := by decide +kernel
theorem d_M_hash_49 : decode b_M_hash 49 = .ok (.getfield 29, 3) := by decide +kernel
theorem d_M_hash_52 : decode b_M_hash 52 = .ok (.iconst 4, 1) := by decide +kernel
theorem d_M_hash_53 : decode b_M_hash 53 = .ok (.iload_n 2, 1) := by decide +kernel
theorem d_M_hash_54 : decode b_M_hash 54 = .ok (.imul, 1) := by decide +kernel
theorem d_M_hash_55 : decode b_M_hash 55 = .ok (.baload, 1) := by decide +kernel
theorem d_M_hash_56 : decode b_M_hash 56 = .ok (.bipush 24, 2) := by decide +kernel
theorem d_M_hash_58 : decode b_M_hash 58 = .ok (.ishl, 1) := by decide +kernel
theorem d_M_hash_59 : decode b_M_hash 59 = .ok (.aload_n 0, 1) := by decide +kernel
theorem d_M_hash_60 : decode b_M_hash 60 = .ok (.getfield 29, 3) := by decide +kernel
theorem d_M_hash_63 : decode b_M_hash 63 = .ok (.iconst 4, 1) := by decide +kernel
theorem d_M_hash_64 : decode b_M_hash 64 = .ok (.iload_n 2, 1) := by decide +kernel
theorem d_M_hash_65 : decode b_M_hash 65 = .ok (.imul, 1) := by decide +kernel
theorem d_M_hash_66 : decode b_M_hash 66 = .ok (.iconst 1, 1) := by decide +kernel
theorem d_M_hash_67 : decode b_M_hash 67 = .ok (.iadd, 1) := by decide +kernel
theorem d_M_hash_68 : decode b_M_hash 68 = .ok (.baload, 1) := by decide +kernel
theorem d_M_hash_69 : decode b_M_hash 69 = .ok (.sipush 255, 3) := by decide +kernel
theorem d_M_hash_72 : decode b_M_hash 72 = .ok (.iand, 1) := by decide +kernel
theorem d_M_hash_73 : decode b_M_hash 73 = .ok (.bipush 16, 2) := by decide +kernel
theorem d_M_hash_75 : decode b_M_hash 75 = .ok (.ishl, 1) := by decide +kernel
theorem d_M_hash_76 : decode b_M_hash 76 = .ok (.ior, 1) := by decide +kernel
theorem d_M_hash_77 : decode b_M_hash 77 = .ok (.aload_n 0, 1) := by decide +kernel
theorem d_M_hash_78 : decode b_M_hash 78 = .ok (.getfield 29, 3) := by decide +kernel
theorem d_M_hash_81 : decode b_M_hash 81 = .ok (.iconst 4, 1) := by decide +kernel
theorem d_M_hash_82 : decode b_M_hash 82 = .ok (.iload_n 2, 1) := by decide +kernel
theorem d_M_hash_83 : decode b_M_hash 83 = .ok (.imul, 1) := by decide +kernel
theorem d_M_hash_84 : decode b_M_hash 84 = .ok (.iconst 2, 1) := by decide +kernel
theorem d_M_hash_85 : decode b_M_hash 85 = .ok (.iadd, 1) := by decide +kernel
theorem d_M_hash_86 : decode b_M_hash 86 = .ok (.baload, 1) := by decide +kernel
theorem d_M_hash_87 : decode b_M_hash 87 = .ok (.sipush 255, 3) := by decide +kernel
theorem d_M_hash_90 : decode b_M_hash 90 = .ok (.iand, 1) := by decide +kernel
theorem d_M_hash_91 : decode b_M_hash 91 = .ok (.bipush 8, 2) := by decide +kernel
theorem d_M_hash_93 : decode b_M_hash 93 = .ok (.ishl, 1) := by decide +kernel
theorem d_M_hash_94 : decode b_M_hash 94 = .ok (.ior, 1) := by decide +kernel
theorem d_M_hash_95 : decode b_M_hash 95 = .ok (.aload_n 0, 1) := by decide +kernel
theorem d_M_hash_96 : decode b_M_hash 96 = .ok (.getfield 29, 3) := by decide +kernel
theorem d_M_hash_99 : decode b_M_hash 99 = .ok (.iconst 4, 1) := by decide +kernel
theorem d_M_hash_100 : decode b_M_hash 100 = .ok (.iload_n 2, 1) := by decide +kernel
theorem d_M_hash_101 : decode b_M_hash 101 = .ok (.imul, 1) := by decide +kernel
theorem d_M_hash_102 : decode b_M_hash 102 = .ok (.iconst 3, 1) := by decide +kernel
theorem d_M_hash_103 : decode b_M_hash 103 = .ok (.iadd, 1) := by decide +kernel
theorem d_M_hash_104 : decode b_M_hash 104 = .ok (.baload, 1) := by decide +kernel
theorem d_M_hash_105 : decode b_M_hash 105 = .ok (.sipush 255, 3) := by decide +kernel
theorem d_M_hash_108 : decode b_M_hash 108 = .ok (.iand, 1) := by decide +kernel
theorem d_M_hash_109 : decode b_M_hash 109 = .ok (.ior, 1) := by decide +kernel
theorem d_M_hash_110 : decode b_M_hash 110 = .ok (.iastore, 1) := by decide +kernel
theorem d_M_hash_111 : decode b_M_hash 111 = .ok (.iinc 2 1, 3) := by decide +kernel
theorem d_M_hash_114 : decode b_M_hash 114 = .ok (.goto (-77), 3) := by decide +kernel
theorem d_M_hash_117 : decode b_M_hash 117 = .ok (.bipush 16, 2) := by decide +kernel
theorem d_M_hash_119 : decode b_M_hash 119 = .ok (.istore_n 2, 1) := by decide +kernel
theorem d_M_hash_120 : decode b_M_hash 120 = .ok (.iload_n 2, 1) := by decide +kernel
theorem d_M_hash_121 : decode b_M_hash 121 = .ok (.bipush 80, 2) := by decide +kernel
theorem d_M_hash_123 : decode b_M_hash 123 = .ok (.if_icmp .ge 57, 3) := by decide +kernel
theorem d_M_hash_126 : decode b_M_hash 126 = .ok (.aload_n 0, 1) := by decide +kernel
theorem d_M_hash_127 : decode b_M_hash 127 = .ok (.getfield 26, 3) := by decide +kernel
theorem d_M_hash_130 : decode b_M_hash 130 = .ok (.iload_n 2, 1) := by decide +kernel
theorem d_M_hash_131 : decode b_M_hash 131 = .ok (.aload_n 0, 1) := by decide +kernel
theorem d_M_hash_132 : decode b_M_hash 132 = .ok (.getfield 26, 3) := by decide +kernel
theorem d_M_hash_135 : decode b_M_hash 135 = .ok (.iload_n 2, 1) := by decide +kernel
theorem d_M_hash_136 : decode b_M_hash 136 = .ok (.iconst 3, 1) := by decide +kernel
theorem d_M_hash_137 : decode b_M_hash 137 = .ok (.isub, 1) := by decide +kernel
theorem d_M_hash_138 : decode b_M_hash 138 = .ok (.iaload, 1) := by decide +kernel
theorem d_M_hash_139 : decode b_M_hash 139 = .ok (.aload_n 0, 1) := by decide +kernel
theorem d_M_hash_140 : decode b_M_hash 140 = .ok (.getfield 26, 3) := by decide +kernel
theorem d_M_hash_143 : decode b_M_hash 143 = .ok (.iload_n 2, 1) := by decide +kernel
theorem d_M_hash_144 : decode b_M_hash 144 = .ok (.bipush 8, 2) := by decide +kernel
theorem d_M_hash_146 : decode b_M_hash 146 = .ok (.isub, 1) := by decide +kernel
theorem d_M_hash_147 : decode b_M_hash 147 = .ok (.iaload, 1) := by decide +kernel
theorem d_M_hash_148 : decode b_M_hash 148 = .ok (.ixor, 1) := by decide +kernel
theorem d_M_hash_149 : decode b_M_hash 149 = .ok (.aload_n 0, 1) := by decide +kernel
theorem d_M_hash_150 : decode b_M_hash 150 = .ok (.getfield 26, 3) := by decide +kernel
theorem d_M_hash_153 : decode b_M_hash 153 = .ok (.iload_n 2, 1) := by decide +kernel
theorem d_M_hash_154 : decode b_M_hash 154 = .ok (.bipush 14, 2) := by decide +kernel
theorem d_M_hash_156 : decode b_M_hash 156 = .ok (.isub, 1) := by decide +kernel
theorem d_M_hash_157 : decode b_M_hash 157 = .ok (.iaload, 1) := by decide +kernel
theorem d_M_hash_158 : decode b_M_hash 158 = .ok (.ixor, 1) := by decide +kernel
theorem d_M_hash_159 : decode b_M_hash 159 = .ok (.aload_n 0, 1) := by decide +kernel
theorem d_M_hash_160 : decode b_M_hash 160 = .ok (.getfield 26, 3) := by decide +kernel
theorem d_M_hash_163 : decode b_M_hash 163 = .ok (.iload_n 2, 1) := by decide +kernel
theorem d_M_hash_164 : decode b_M_hash 164 = .ok (.bipush 16, 2) := by decide +kernel
theorem d_M_hash_166 : decode b_M_hash 166 = .ok (.isub, 1) := by decide +kernel
theorem d_M_hash_167 : decode b_M_hash 167 = .ok (.iaload, 1) := by decide +kernel
theorem d_M_hash_168 : decode b_M_hash 168 = .ok (.ixor, 1) := by decide +kernel
theorem d_M_hash_169 : decode b_M_hash 169 = .ok (.iconst 1, 1) := by decide +kernel
theorem d_M_hash_170 : decode b_M_hash 170 = .ok (.invokestatic 360, 3) := by decide +kernel
theorem d_M_hash_173 : decode b_M_hash 173 = .ok (.iastore, 1) := by decide +kernel
theorem d_M_hash_174 : decode b_M_hash 174 = .ok (.iinc 2 1, 3) := by decide +kernel
theorem d_M_hash_177 : decode b_M_hash 177 = .ok (.goto (-57), 3) := by decide +kernel
theorem d_M_hash_180 : decode b_M_hash 180 = .ok (.aload_n 0, 1) := by decide +kernel
theorem d_M_hash_181 : decode b_M_hash 181 = .ok (.getfield 22, 3) := by decide +kernel
theorem d_M_hash_184 : decode b_M_hash 184 = .ok (.iconst 0, 1) := by decide +kernel
theorem d_M_hash_185 : decode b_M_hash 185 = .ok (.iaload, 1) := by decide +kernel
theorem d_M_hash_186 : decode b_M_hash 186 = .ok (.istore_n 2, 1) := by decide +kernel
theorem d_M_hash_187 : decode b_M_hash 187 = .ok (.aload_n 0, 1) := by decide +kernel
theorem d_M_hash_188 : decode b_M_hash 188 = .ok (.getfield 22, 3) := by decide +kernel
theorem d_M_hash_191 : decode b_M_hash 191 = .ok (.iconst 1, 1) := by decide +kernel
theorem d_M_hash_192 : decode b_M_hash 192 = .ok (.iaload, 1) := by decide +kernel
theorem d_M_hash_193 : decode b_M_hash 193 = .ok (.istore_n 3, 1) := by decide +kernel
theorem d_M_hash_194 : decode b_M_hash 194 = .ok (.aload_n 0, 1) := by decide +kernel
theorem d_M_hash_195 : decode b_M_hash 195 = .ok (.getfield 22, 3) := by decide +kernel
theorem d_M_hash_198 : decode b_M_hash 198 = .ok (.iconst 2, 1) := by decide +kernel
theorem d_M_hash_199 : decode b_M_hash 199 = .ok (.iaload, 1) := by decide +kernel
theorem d_M_hash_200 : decode b_M_hash 200 = .ok (.istore 4, 2) := by decide +kernel
theorem d_M_hash_202 : decode b_M_hash 202 = .ok (.aload_n 0, 1) := by decide +kernel
theorem d_M_hash_203 : decode b_M_hash 203 = .ok (.getfield 22, 3) := by decide +kernel
theorem d_M_hash_206 : decode b_M_hash 206 = .ok (.iconst 3, 1) := by decide +kernel
theorem d_M_hash_207 : decode b_M_hash 207 = .ok (.iaload, 1) := by decide +kernel
theorem d_M_hash_208 : decode b_M_hash 208 = .ok (.istore 5, 2) := by decide +kernel
theorem d_M_hash_210 : decode b_M_hash 210 = .ok (.aload_n 0, 1) := by decide +kernel
theorem d_M_hash_211 : decode b_M_hash 211 = .ok (.getfield 22, 3) := by decide +kernel
theorem d_M_hash_214 : decode b_M_hash 214 = .ok (.iconst 4, 1) := by decide +kernel
theorem d_M_hash_215 : decode b_M_hash 215 = .ok (.iaload, 1) := by decide +kernel
theorem d_M_hash_216 : decode b_M_hash 216 = .ok (.istore 6, 2) := by decide +kernel
theorem d_M_hash_218 : decode b_M_hash 218 = .ok (.iconst 0, 1) := by decide +kernel
theorem d_M_hash_219 : decode b_M_hash 219 = .ok (.istore 7, 2) := by decide +kernel
theorem d_M_hash_221 : decode b_M_hash 221 = .ok (.iload 7, 2) := by decide +kernel
theorem d_M_hash_223 : decode b_M_hash 223 = .ok (.bipush 80, 2) := by decide +kernel
theorem d_M_hash_225 : decode b_M_hash 225 = .ok (.if_icmp .ge 160, 3) := by decide +kernel
theorem d_M_hash_228 : decode b_M_hash 228 = .ok (.iload 7, 2) := by decide +kernel
theorem d_M_hash_230 : decode b_M_hash 230 = .ok (.bipush 20, 2) := by decide +kernel
theorem d_M_hash_232 : decode b_M_hash 232 = .ok (.if_icmp .ge 17, 3) := by decide +kernel
theorem d_M_hash_235 : decode b_M_hash 235 = .ok (.iload_n 3, 1) := by decide +kernel
theorem d_M_hash_236 : decode b_M_hash 236 = .ok (.iload 4, 2) := by decide +kernel
theorem d_M_hash_238 : decode b_M_hash 238 = .ok (.iand, 1) := by decide +kernel
theorem d_M_hash_239 : decode b_M_hash 239 = .ok (.iload_n 3, 1) := by decide +kernel
theorem d_M_hash_240 : decode b_M_hash 240 = .ok (.iconst (-1), 1) := by decide +kernel
theorem d_M_hash_241 : decode b_M_hash 241 = .ok (.ixor, 1) := by decide +kernel
theorem d_M_hash_242 : decode b_M_hash 242 = .ok (.iload 5, 2) := by decide +kernel
theorem d_M_hash_244 : decode b_M_hash 244 = .ok (.iand, 1) := by decide +kernel
theorem d_M_hash_245 : decode b_M_hash 245 = .ok (.ior, 1) := by decide +kernel
theorem d_M_hash_246 : decode b_M_hash 246 = .ok (.goto 42, 3) := by decide +kernel
theorem d_M_hash_249 : decode b_M_hash 249 = .ok (.iload 7, 2) := by decide +kernel
theorem d_M_hash_251 : decode b_M_hash 251 = .ok (.bipush 40, 2) := by decide +kernel
theorem d_M_hash_253 : decode b_M_hash 253 = .ok (.if_icmp .lt 10, 3) := by decide +kernel
theorem d_M_hash_256 : decode b_M_hash 256 = .ok (.iload 7, 2) := by decide +kernel
theorem d_M_hash_258 : decode b_M_hash 258 = .ok (.bipush 59, 2) := by decide +kernel
theorem d_M_hash_260 : decode b_M_hash 260 = .ok (.if_icmp .le 13, 3) := by decide +kernel
theorem d_M_hash_263 : decode b_M_hash 263 = .ok (.iload_n 3, 1) := by decide +kernel
theorem d_M_hash_264 : decode b_M_hash 264 = .ok (.iload 4, 2) := by decide +kernel
theorem d_M_hash_266 : decode b_M_hash 266 = .ok (.ixor, 1) := by decide +kernel
theorem d_M_hash_267 : decode b_M_hash 267 = .ok (.iload 5, 2) := by decide +kernel
theorem d_M_hash_269 : decode b_M_hash 269 = .ok (.ixor, 1) := by decide +kernel
theorem d_M_hash_270 : decode b_M_hash 270 = .ok (.goto 18, 3) := by decide +kernel
theorem d_M_hash_273 : decode b_M_hash 273 = .ok (.iload_n 3, 1) := by decide +kernel
theorem d_M_hash_274 : decode b_M_hash 274 = .ok (.iload 4, 2) := by decide +kernel
theorem d_M_hash_276 : decode b_M_hash 276 = .ok (.iand, 1) := by decide +kernel
theorem d_M_hash_277 : decode b_M_hash 277 = .ok (.iload_n 3, 1) := by decide +kernel
theorem d_M_hash_278 : decode b_M_hash 278 = .ok (.iload 5, 2) := by decide +kernel
theorem d_M_hash_280 : decode b_M_hash 280 = .ok (.iand, 1) := by decide +kernel
theorem d_M_hash_281 : decode b_M_hash 281 = .ok (.ior, 1) := by decide +kernel
theorem d_M_hash_282 : decode b_M_hash 282 = .ok (.iload 4, 2) := by decide +kernel
theorem d_M_hash_284 : decode b_M_hash 284 = .ok (.iload 5, 2) := by decide +kernel
theorem d_M_hash_286 : decode b_M_hash 286 = .ok (.iand, 1) := by decide +kernel
theorem d_M_hash_287 : decode b_M_hash 287 = .ok (.ior, 1) := by decide +kernel
theorem d_M_hash_288 : decode b_M_hash 288 = .ok (.istore 8, 2) := by decide +kernel
theorem d_M_hash_290 : decode b_M_hash 290 = .ok (.iload 7, 2) := by decide +kernel
theorem d_M_hash_292 : decode b_M_hash 292 = .ok (.bipush 20, 2) := by decide +kernel
theorem d_M_hash_294 : decode b_M_hash 294 = .ok (.if_icmp .ge 9, 3) := by decide +kernel
theorem d_M_hash_297 : decode b_M_hash 297 = .ok (.ldc_w 364, 3) := by decide +kernel
theorem d_M_hash_300 : decode b_M_hash 300 = .ok (.goto 32, 3) := by decide +kernel
theorem d_M_hash_303 : decode b_M_hash 303 = .ok (.iload 7, 2) := by decide +kernel
theorem d_M_hash_305 : decode b_M_hash 305 = .ok (.bipush 40, 2) := by decide +kernel
theorem d_M_hash_307 : decode b_M_hash 307 = .ok (.if_icmp .ge 9, 3) := by decide +kernel
theorem d_M_hash_310 : decode b_M_hash 310 = .ok (.ldc_w 365, 3) := by decide +kernel
theorem d_M_hash_313 : decode b_M_hash 313 = .ok (.goto 19, 3) := by decide +kernel
theorem d_M_hash_316 : decode b_M_hash 316 = .ok (.iload 7, 2) := by decide +kernel
theorem d_M_hash_318 : decode b_M_hash 318 = .ok (.bipush 60, 2) := by decide +kernel
theorem d_M_hash_320 : decode b_M_hash 320 = .ok (.if_icmp .ge 9, 3) := by decide +kernel
theorem d_M_hash_323 : decode b_M_hash 323 = .ok (.ldc_w 366, 3) := by decide +kernel
theorem d_M_hash_326 : decode b_M_hash 326 = .ok (.goto 6, 3) := by decide +kernel
theorem d_M_hash_329 : decode b_M_hash 329 = .ok (.ldc_w 367, 3) := by decide +kernel
theorem d_M_hash_332 : decode b_M_hash 332 = .ok (.istore 9, 2) := by decide +kernel
theorem d_M_hash_334 : decode b_M_hash 334 = .ok (.iload_n 2, 1) := by decide +kernel
theorem d_M_hash_335 : decode b_M_hash 335 = .ok (.iconst 5, 1) := by decide +kernel
theorem d_M_hash_336 : decode b_M_hash 336 = .ok (.invokestatic 360, 3) := by decide +kernel
theorem d_M_hash_339 : decode b_M_hash 339 = .ok (.iload 8, 2) := by decide +kernel
theorem d_M_hash_341 : decode b_M_hash 341 = .ok (.iadd, 1) := by decide +kernel
theorem d_M_hash_342 : decode b_M_hash 342 = .ok (.iload 6, 2) := by decide +kernel
theorem d_M_hash_344 : decode b_M_hash 344 = .ok (.iadd, 1) := by decide +kernel
theorem d_M_hash_345 : decode b_M_hash 345 = .ok (.iload 9, 2) := by decide +kernel
theorem d_M_hash_347 : decode b_M_hash 347 = .ok (.iadd, 1) := by decide +kernel
theorem d_M_hash_348 : decode b_M_hash 348 = .ok (.aload_n 0, 1) := by decide +kernel
theorem d_M_hash_349 : decode b_M_hash 349 = .ok (.getfield 26, 3) := by decide +kernel
theorem d_M_hash_352 : decode b_M_hash 352 = .ok (.iload 7, 2) := by decide +kernel
theorem d_M_hash_354 : decode b_M_hash 354 = .ok (.iaload, 1) := by decide +kernel
theorem d_M_hash_355 : decode b_M_hash 355 = .ok (.iadd, 1) := by decide +kernel
theorem d_M_hash_356 : decode b_M_hash 356 = .ok (.istore 10, 2) := by decide +kernel
theorem d_M_hash_358 : decode b_M_hash 358 = .ok (.iload 5, 2) := by decide +kernel
theorem d_M_hash_360 : decode b_M_hash 360 = .ok (.istore 6, 2) := by decide +kernel
theorem d_M_hash_362 : decode b_M_hash 362 = .ok (.iload 4, 2) := by decide +kernel
theorem d_M_hash_364 : decode b_M_hash 364 = .ok (.istore 5, 2) := by decide +kernel
theorem d_M_hash_366 : decode b_M_hash 366 = .ok (.iload_n 3, 1) := by decide +kernel
theorem d_M_hash_367 : decode b_M_hash 367 = .ok (.bipush 30, 2) := by decide +kernel
theorem d_M_hash_369 : decode b_M_hash 369 = .ok (.invokestatic 360, 3) := by decide +kernel
theorem d_M_hash_372 : decode b_M_hash 372 = .ok (.istore 4, 2) := by decide +kernel
theorem d_M_hash_374 : decode b_M_hash 374 = .ok (.iload_n 2, 1) := by decide +kernel
theorem d_M_hash_375 : decode b_M_hash 375 = .ok (.istore_n 3, 1) := by decide +kernel
theorem d_M_hash_376 : decode b_M_hash 376 = .ok (.iload 10, 2) := by decide +kernel
theorem d_M_hash_378 : decode b_M_hash 378 = .ok (.istore_n 2, 1) := by decide +kernel
theorem d_M_hash_379 : decode b_M_hash 379 = .ok (.iinc 7 1, 3) := by decide +kernel
theorem d_M_hash_382 : decode b_M_hash 382 = .ok (.goto (-161), 3) := by decide +kernel
theorem d_M_hash_385 : decode b_M_hash 385 = .ok (.aload_n 0, 1) := by decide +kernel
theorem d_M_hash_386 : decode b_M_hash 386 = .ok (.getfield 22, 3) := by decide +kernel
theorem d_M_hash_389 : decode b_M_hash 389 = .ok (.iconst 0, 1) := by decide +kernel
theorem d_M_hash_390 : decode b_M_hash 390 = .ok (.dup2, 1) := by decide +kernel
theorem d_M_hash_391 : decode b_M_hash 391 = .ok (.iaload, 1) := by decide +kernel
theorem d_M_hash_392 : decode b_M_hash 392 = .ok (.iload_n 2, 1) := by decide +kernel
theorem d_M_hash_393 : decode b_M_hash 393 = .ok (.iadd, 1) := by decide +kernel
theorem d_M_hash_394 : decode b_M_hash 394 = .ok (.iastore, 1) := by decide +kernel
theorem d_M_hash_395 : decode b_M_hash 395 = .ok (.aload_n 0, 1) := by decide +kernel
theorem d_M_hash_396 : decode b_M_hash 396 = .ok (.getfield 22, 3) := by decide +kernel
theorem d_M_hash_399 : decode b_M_hash 399 = .ok (.iconst 1, 1) := by decide +kernel
theorem d_M_hash_400 : decode b_M_hash 400 = .ok (.dup2, 1) := by decide +kernel
theorem d_M_hash_401 : decode b_M_hash 401 = .ok (.iaload, 1) := by decide +kernel
theorem d_M_hash_402 : decode b_M_hash 402 = .ok (.iload_n 3, 1) := by decide +kernel
theorem d_M_hash_403 : decode b_M_hash 403 = .ok (.iadd, 1) := by decide +kernel
theorem d_M_hash_404 : decode b_M_hash 404 = .ok (.iastore, 1) := by decide +kernel
theorem d_M_hash_405 : decode b_M_hash 405 = .ok (.aload_n 0, 1) := by decide +kernel
theorem d_M_hash_406 : decode b_M_hash 406 = .ok (.getfield 22, 3) := by decide +kernel
theorem d_M_hash_409 : decode b_M_hash 409 = .ok (.iconst 2, 1) := by decide +kernel
theorem d_M_hash_410 : decode b_M_hash 410 = .ok (.dup2, 1) := by decide +kernel
theorem d_M_hash_411 : decode b_M_hash 411 = .ok (.iaload, 1) := by decide +kernel
theorem d_M_hash_412 : decode b_M_hash 412 = .ok (.iload 4, 2) := by decide +kernel
theorem d_M_hash_414 : decode b_M_hash 414 = .ok (.iadd, 1) := by decide +kernel
theorem d_M_hash_415 : decode b_M_hash 415 = .ok (.iastore, 1) := by decide +kernel
theorem d_M_hash_416 : decode b_M_hash 416 = .ok (.aload_n 0, 1) := by decide +kernel
theorem d_M_hash_417 : decode b_M_hash 417 = .ok (.getfield 22, 3) := by decide +kernel
theorem d_M_hash_420 : decode b_M_hash 420 = .ok (.iconst 3, 1) := by decide +kernel
theorem d_M_hash_421 : decode b_M_hash 421 = .ok (.dup2, 1) := by decide +kernel
theorem d_M_hash_422 : decode b_M_hash 422 = .ok (.iaload, 1) := by decide +kernel
theorem d_M_hash_423 : decode b_M_hash 423 = .ok (.iload 5, 2) := by decide +kernel
theorem d_M_hash_425 : decode b_M_hash 425 = .ok (.iadd, 1) := by decide +kernel
theorem d_M_hash_426 : decode b_M_hash 426 = .ok (.iastore, 1) := by decide +kernel
theorem d_M_hash_427 : decode b_M_hash 427 = .ok (.aload_n 0, 1) := by decide +kernel
theorem d_M_hash_428 : decode b_M_hash 428 = .ok (.getfield 22, 3) := by decide +kernel
theorem d_M_hash_431 : decode b_M_hash 431 = .ok (.iconst 4, 1) := by decide +kernel
theorem d_M_hash_432 : decode b_M_hash 432 = .ok (.dup2, 1) := by decide +kernel
theorem d_M_hash_433 : decode b_M_hash 433 = .ok (.iaload, 1) := by decide +kernel
theorem d_M_hash_434 : decode b_M_hash 434 = .ok (.iload 6, 2) := by decide +kernel
theorem d_M_hash_436 : decode b_M_hash 436 = .ok (.iadd, 1) := by decide +kernel
theorem d_M_hash_437 : decode b_M_hash 437 = .ok (.iastore, 1) := by decide +kernel
theorem d_M_hash_438 : decode b_M_hash 438 = .ok (.return_, 1) := by decide +kernel
abbrev b_M_finish : ByteArray := prog_14_method_11_code
def y_M_finish : MethodName := ⟨R_M, "finish", "([B)V"⟩
abbrev k_M_finish : Cond := .code y_M_finish b_M_finish 5 none
theorem ki_M_finish : k_M_finish ∈ lw_tg := in_t 1828 (by decide +kernel)
theorem ks_M_finish : Cond.instanceMethod y_M_finish ∈ lw_tg := in_t 1827 (by decide +kernel)
theorem kx_M_finish : Cond.selects R_M y_M_finish y_M_finish ∈ lw_tg := List.mem_filter.mpr ⟨List.mem_append_left _ (List.mem_of_getElem? (i := 83) (by decide +kernel)), rfl⟩
theorem kl_M_finish : Cond.methodLink R_M 377 y_M_finish ∈ lw_tg := in_t 1825 (by decide +kernel)
theorem hd_M_finish : y_M_finish.cls = R_M ∧ y_M_finish.cls ≠ "java/lang/invoke/MethodHandle" ∧ y_M_finish.cls ≠ "java/lang/invoke/VarHandle" ∧ (parseMethodDescriptor y_M_finish.desc).map (fun d => d.parameters.length) = some 1 := by decide +kernel
theorem d_M_finish_0 : decode b_M_finish 0 = .ok (.ldc2_w 368, 3) := by decide +kernel
theorem d_M_finish_3 : decode b_M_finish 3 = .ok (.aload_n 0, 1) := by decide +kernel
theorem d_M_finish_4 : decode b_M_finish 4 = .ok (.getfield 357, 3) := by decide +kernel
theorem d_M_finish_7 : decode b_M_finish 7 = .ok (.i2l, 1) := by decide +kernel
theorem d_M_finish_8 : decode b_M_finish 8 = .ok (.lmul, 1) := by decide +kernel
theorem d_M_finish_9 : decode b_M_finish 9 = .ok (.lstore_n 2, 1) := by decide +kernel
theorem d_M_finish_10 : decode b_M_finish 10 = .ok (.aload_n 0, 1) := by decide +kernel
theorem d_M_finish_11 : decode b_M_finish 11 = .ok (.sipush 128, 3) := by decide +kernel
theorem d_M_finish_14 : decode b_M_finish 14 = .ok (.invokevirtual 370, 3) := by decide +kernel
theorem d_M_finish_17 : decode b_M_finish 17 = .ok (.aload_n 0, 1) := by decide +kernel
theorem d_M_finish_18 : decode b_M_finish 18 = .ok (.getfield 357, 3) := by decide +kernel
theorem d_M_finish_21 : decode b_M_finish 21 = .ok (.bipush 64, 2) := by decide +kernel
theorem d_M_finish_23 : decode b_M_finish 23 = .ok (.irem, 1) := by decide +kernel
theorem d_M_finish_24 : decode b_M_finish 24 = .ok (.bipush 56, 2) := by decide +kernel
theorem d_M_finish_26 : decode b_M_finish 26 = .ok (.if_icmp .eq 11, 3) := by decide +kernel
theorem d_M_finish_29 : decode b_M_finish 29 = .ok (.aload_n 0, 1) := by decide +kernel
theorem d_M_finish_30 : decode b_M_finish 30 = .ok (.iconst 0, 1) := by decide +kernel
theorem d_M_finish_31 : decode b_M_finish 31 = .ok (.invokevirtual 370, 3) := by decide +kernel
theorem d_M_finish_34 : decode b_M_finish 34 = .ok (.goto (-17), 3) := by decide +kernel
theorem d_M_finish_37 : decode b_M_finish 37 = .ok (.bipush 7, 2) := by decide +kernel
theorem d_M_finish_39 : decode b_M_finish 39 = .ok (.istore 4, 2) := by decide +kernel
theorem d_M_finish_41 : decode b_M_finish 41 = .ok (.iload 4, 2) := by decide +kernel
theorem d_M_finish_43 : decode b_M_finish 43 = .ok (.ifCond .lt 21, 3) := by decide +kernel
theorem d_M_finish_46 : decode b_M_finish 46 = .ok (.aload_n 0, 1) := by decide +kernel
theorem d_M_finish_47 : decode b_M_finish 47 = .ok (.lload_n 2, 1) := by decide +kernel
theorem d_M_finish_48 : decode b_M_finish 48 = .ok (.bipush 8, 2) := by decide +kernel
theorem d_M_finish_50 : decode b_M_finish 50 = .ok (.iload 4, 2) := by decide +kernel
theorem d_M_finish_52 : decode b_M_finish 52 = .ok (.imul, 1) := by decide +kernel
theorem d_M_finish_53 : decode b_M_finish 53 = .ok (.lushr, 1) := by decide +kernel
theorem d_M_finish_54 : decode b_M_finish 54 = .ok (.l2i, 1) := by decide +kernel
theorem d_M_finish_55 : decode b_M_finish 55 = .ok (.invokevirtual 370, 3) := by decide +kernel
theorem d_M_finish_58 : decode b_M_finish 58 = .ok (.iinc 4 (-1), 3) := by decide +kernel
theorem d_M_finish_61 : decode b_M_finish 61 = .ok (.goto (-20), 3) := by decide +kernel
theorem d_M_finish_64 : decode b_M_finish 64 = .ok (.iconst 0, 1) := by decide +kernel
theorem d_M_finish_65 : decode b_M_finish 65 = .ok (.istore 4, 2) := by decide +kernel
theorem d_M_finish_67 : decode b_M_finish 67 = .ok (.iload 4, 2) := by decide +kernel
theorem d_M_finish_69 : decode b_M_finish 69 = .ok (.bipush 20, 2) := by decide +kernel
theorem d_M_finish_71 : decode b_M_finish 71 = .ok (.if_icmp .ge 34, 3) := by decide +kernel
theorem d_M_finish_74 : decode b_M_finish 74 = .ok (.aload_n 1, 1) := by decide +kernel
theorem d_M_finish_75 : decode b_M_finish 75 = .ok (.iload 4, 2) := by decide +kernel
theorem d_M_finish_77 : decode b_M_finish 77 = .ok (.aload_n 0, 1) := by decide +kernel
theorem d_M_finish_78 : decode b_M_finish 78 = .ok (.getfield 22, 3) := by decide +kernel
theorem d_M_finish_81 : decode b_M_finish 81 = .ok (.iload 4, 2) := by decide +kernel
theorem d_M_finish_83 : decode b_M_finish 83 = .ok (.iconst 4, 1) := by decide +kernel
theorem d_M_finish_84 : decode b_M_finish 84 = .ok (.idiv, 1) := by decide +kernel
theorem d_M_finish_85 : decode b_M_finish 85 = .ok (.iaload, 1) := by decide +kernel
theorem d_M_finish_86 : decode b_M_finish 86 = .ok (.bipush 24, 2) := by decide +kernel
theorem d_M_finish_88 : decode b_M_finish 88 = .ok (.bipush 8, 2) := by decide +kernel
theorem d_M_finish_90 : decode b_M_finish 90 = .ok (.iload 4, 2) := by decide +kernel
theorem d_M_finish_92 : decode b_M_finish 92 = .ok (.iconst 4, 1) := by decide +kernel
theorem d_M_finish_93 : decode b_M_finish 93 = .ok (.irem, 1) := by decide +kernel
theorem d_M_finish_94 : decode b_M_finish 94 = .ok (.imul, 1) := by decide +kernel
theorem d_M_finish_95 : decode b_M_finish 95 = .ok (.isub, 1) := by decide +kernel
theorem d_M_finish_96 : decode b_M_finish 96 = .ok (.iushr, 1) := by decide +kernel
theorem d_M_finish_97 : decode b_M_finish 97 = .ok (.i2b, 1) := by decide +kernel
theorem d_M_finish_98 : decode b_M_finish 98 = .ok (.bastore, 1) := by decide +kernel
theorem d_M_finish_99 : decode b_M_finish 99 = .ok (.iinc 4 1, 3) := by decide +kernel
theorem d_M_finish_102 : decode b_M_finish 102 = .ok (.goto (-35), 3) := by decide +kernel
theorem d_M_finish_105 : decode b_M_finish 105 = .ok (.return_, 1) := by decide +kernel
abbrev b_M_macKey : ByteArray := prog_14_method_12_code
def y_M_macKey : MethodName := ⟨R_M, "macKey", "([BI)V"⟩
abbrev k_M_macKey : Cond := .code y_M_macKey b_M_macKey 4 none
theorem ki_M_macKey : k_M_macKey ∈ lw_tg := in_t 1804 (by decide +kernel)
theorem ks_M_macKey : Cond.instanceMethod y_M_macKey ∈ lw_tg := in_t 1803 (by decide +kernel)
theorem kx_M_macKey : Cond.selects R_M y_M_macKey y_M_macKey ∈ lw_tg := List.mem_filter.mpr ⟨List.mem_append_left _ (List.mem_of_getElem? (i := 80) (by decide +kernel)), rfl⟩
theorem kl_M_macKey : Cond.methodLink R_M 421 y_M_macKey ∈ lw_tg := in_t 1801 (by decide +kernel)
theorem hd_M_macKey : y_M_macKey.cls = R_M ∧ y_M_macKey.cls ≠ "java/lang/invoke/MethodHandle" ∧ y_M_macKey.cls ≠ "java/lang/invoke/VarHandle" ∧ (parseMethodDescriptor y_M_macKey.desc).map (fun d => d.parameters.length) = some 2 := by decide +kernel
theorem d_M_macKey_0 : decode b_M_macKey 0 = .ok (.iconst 0, 1) := by decide +kernel
theorem d_M_macKey_1 : decode b_M_macKey 1 = .ok (.istore_n 3, 1) := by decide +kernel
theorem d_M_macKey_2 : decode b_M_macKey 2 = .ok (.iload_n 3, 1) := by decide +kernel
theorem d_M_macKey_3 : decode b_M_macKey 3 = .ok (.bipush 64, 2) := by decide +kernel
theorem d_M_macKey_5 : decode b_M_macKey 5 = .ok (.if_icmp .ge 33, 3) := by decide +kernel
theorem d_M_macKey_8 : decode b_M_macKey 8 = .ok (.aload_n 0, 1) := by decide +kernel
theorem d_M_macKey_9 : decode b_M_macKey 9 = .ok (.getfield 38, 3) := by decide +kernel
theorem d_M_macKey_12 : decode b_M_macKey 12 = .ok (.iload_n 3, 1) := by decide +kernel
theorem d_M_macKey_13 : decode b_M_macKey 13 = .ok (.iload_n 2, 1) := by decide +kernel
theorem d_M_macKey_14 : decode b_M_macKey 14 = .ok (.bipush 64, 2) := by decide +kernel
theorem d_M_macKey_16 : decode b_M_macKey 16 = .ok (.if_icmp .gt 14, 3) := by decide +kernel
theorem d_M_macKey_19 : decode b_M_macKey 19 = .ok (.iload_n 3, 1) := by decide +kernel
theorem d_M_macKey_20 : decode b_M_macKey 20 = .ok (.iload_n 2, 1) := by decide +kernel
theorem d_M_macKey_21 : decode b_M_macKey 21 = .ok (.if_icmp .ge 9, 3) := by decide +kernel
theorem d_M_macKey_24 : decode b_M_macKey 24 = .ok (.aload_n 1, 1) := by decide +kernel
theorem d_M_macKey_25 : decode b_M_macKey 25 = .ok (.iload_n 3, 1) := by decide +kernel
theorem d_M_macKey_26 : decode b_M_macKey 26 = .ok (.baload, 1) := by decide +kernel
theorem d_M_macKey_27 : decode b_M_macKey 27 = .ok (.goto 4, 3) := by decide +kernel
theorem d_M_macKey_30 : decode b_M_macKey 30 = .ok (.iconst 0, 1) := by decide +kernel
theorem d_M_macKey_31 : decode b_M_macKey 31 = .ok (.bastore, 1) := by decide +kernel
theorem d_M_macKey_32 : decode b_M_macKey 32 = .ok (.iinc 3 1, 3) := by decide +kernel
theorem d_M_macKey_35 : decode b_M_macKey 35 = .ok (.goto (-33), 3) := by decide +kernel
theorem d_M_macKey_38 : decode b_M_macKey 38 = .ok (.iload_n 2, 1) := by decide +kernel
theorem d_M_macKey_39 : decode b_M_macKey 39 = .ok (.bipush 64, 2) := by decide +kernel
theorem d_M_macKey_41 : decode b_M_macKey 41 = .ok (.if_icmp .gt 4, 3) := by decide +kernel
theorem d_M_macKey_44 : decode b_M_macKey 44 = .ok (.return_, 1) := by decide +kernel
theorem d_M_macKey_45 : decode b_M_macKey 45 = .ok (.aload_n 0, 1) := by decide +kernel
theorem d_M_macKey_46 : decode b_M_macKey 46 = .ok (.invokevirtual 374, 3) := by decide +kernel
theorem d_M_macKey_49 : decode b_M_macKey 49 = .ok (.iconst 0, 1) := by decide +kernel
theorem d_M_macKey_50 : decode b_M_macKey 50 = .ok (.istore_n 3, 1) := by decide +kernel
theorem d_M_macKey_51 : decode b_M_macKey 51 = .ok (.iload_n 3, 1) := by decide +kernel
theorem d_M_macKey_52 : decode b_M_macKey 52 = .ok (.iload_n 2, 1) := by decide +kernel
theorem d_M_macKey_53 : decode b_M_macKey 53 = .ok (.if_icmp .ge 16, 3) := by decide +kernel
theorem d_M_macKey_56 : decode b_M_macKey 56 = .ok (.aload_n 0, 1) := by decide +kernel
theorem d_M_macKey_57 : decode b_M_macKey 57 = .ok (.aload_n 1, 1) := by decide +kernel
theorem d_M_macKey_58 : decode b_M_macKey 58 = .ok (.iload_n 3, 1) := by decide +kernel
theorem d_M_macKey_59 : decode b_M_macKey 59 = .ok (.baload, 1) := by decide +kernel
theorem d_M_macKey_60 : decode b_M_macKey 60 = .ok (.invokevirtual 370, 3) := by decide +kernel
theorem d_M_macKey_63 : decode b_M_macKey 63 = .ok (.iinc 3 1, 3) := by decide +kernel
theorem d_M_macKey_66 : decode b_M_macKey 66 = .ok (.goto (-15), 3) := by decide +kernel
theorem d_M_macKey_69 : decode b_M_macKey 69 = .ok (.aload_n 0, 1) := by decide +kernel
theorem d_M_macKey_70 : decode b_M_macKey 70 = .ok (.aload_n 0, 1) := by decide +kernel
theorem d_M_macKey_71 : decode b_M_macKey 71 = .ok (.getfield 32, 3) := by decide +kernel
theorem d_M_macKey_74 : decode b_M_macKey 74 = .ok (.invokevirtual 377, 3) := by decide +kernel
theorem d_M_macKey_77 : decode b_M_macKey 77 = .ok (.iconst 0, 1) := by decide +kernel
theorem d_M_macKey_78 : decode b_M_macKey 78 = .ok (.istore_n 3, 1) := by decide +kernel
theorem d_M_macKey_79 : decode b_M_macKey 79 = .ok (.iload_n 3, 1) := by decide +kernel
theorem d_M_macKey_80 : decode b_M_macKey 80 = .ok (.bipush 20, 2) := by decide +kernel
theorem d_M_macKey_82 : decode b_M_macKey 82 = .ok (.if_icmp .ge 21, 3) := by decide +kernel
theorem d_M_macKey_85 : decode b_M_macKey 85 = .ok (.aload_n 0, 1) := by decide +kernel
theorem d_M_macKey_86 : decode b_M_macKey 86 = .ok (.getfield 38, 3) := by decide +kernel
theorem d_M_macKey_89 : decode b_M_macKey 89 = .ok (.iload_n 3, 1) := by decide +kernel
theorem d_M_macKey_90 : decode b_M_macKey 90 = .ok (.aload_n 0, 1) := by decide +kernel
theorem d_M_macKey_91 : decode b_M_macKey 91 = .ok (.getfield 32, 3) := by decide +kernel
theorem d_M_macKey_94 : decode b_M_macKey 94 = .ok (.iload_n 3, 1) := by decide +kernel
theorem d_M_macKey_95 : decode b_M_macKey 95 = .ok (.baload, 1) := by decide +kernel
theorem d_M_macKey_96 : decode b_M_macKey 96 = .ok (.bastore, 1) := by decide +kernel
theorem d_M_macKey_97 : decode b_M_macKey 97 = .ok (.iinc 3 1, 3) := by decide +kernel
theorem d_M_macKey_100 : decode b_M_macKey 100 = .ok (.goto (-21), 3) := by decide +kernel
theorem d_M_macKey_103 : decode b_M_macKey 103 = .ok (.return_, 1) := by decide +kernel
abbrev b_M_macBegin : ByteArray := prog_14_method_13_code
def y_M_macBegin : MethodName := ⟨R_M, "macBegin", "()V"⟩
abbrev k_M_macBegin : Cond := .code y_M_macBegin b_M_macBegin 2 none
theorem ki_M_macBegin : k_M_macBegin ∈ lw_tg := in_t 1833 (by decide +kernel)
theorem ks_M_macBegin : Cond.instanceMethod y_M_macBegin ∈ lw_tg := in_t 1832 (by decide +kernel)
theorem kx_M_macBegin : Cond.selects R_M y_M_macBegin y_M_macBegin ∈ lw_tg := List.mem_filter.mpr ⟨List.mem_append_left _ (List.mem_of_getElem? (i := 84) (by decide +kernel)), rfl⟩
theorem kl_M_macBegin : Cond.methodLink R_M 423 y_M_macBegin ∈ lw_tg := in_t 1830 (by decide +kernel)
theorem hd_M_macBegin : y_M_macBegin.cls = R_M ∧ y_M_macBegin.cls ≠ "java/lang/invoke/MethodHandle" ∧ y_M_macBegin.cls ≠ "java/lang/invoke/VarHandle" ∧ (parseMethodDescriptor y_M_macBegin.desc).map (fun d => d.parameters.length) = some 0 := by decide +kernel
theorem d_M_macBegin_0 : decode b_M_macBegin 0 = .ok (.aload_n 0, 1) := by decide +kernel
theorem d_M_macBegin_1 : decode b_M_macBegin 1 = .ok (.invokevirtual 374, 3) := by decide +kernel
theorem d_M_macBegin_4 : decode b_M_macBegin 4 = .ok (.iconst 0, 1) := by decide +kernel
theorem d_M_macBegin_5 : decode b_M_macBegin 5 = .ok (.istore_n 1, 1) := by decide +kernel
theorem d_M_macBegin_6 : decode b_M_macBegin 6 = .ok (.iload_n 1, 1) := by decide +kernel
theorem d_M_macBegin_7 : decode b_M_macBegin 7 = .ok (.bipush 64, 2) := by decide +kernel
theorem d_M_macBegin_9 : decode b_M_macBegin 9 = .ok (.if_icmp .ge 22, 3) := by decide +kernel
theorem d_M_macBegin_12 : decode b_M_macBegin 12 = .ok (.aload_n 0, 1) := by decide +kernel
theorem d_M_macBegin_13 : decode b_M_macBegin 13 = .ok (.aload_n 0, 1) := by decide +kernel
theorem d_M_macBegin_14 : decode b_M_macBegin 14 = .ok (.getfield 38, 3) := by decide +kernel
theorem d_M_macBegin_17 : decode b_M_macBegin 17 = .ok (.iload_n 1, 1) := by decide +kernel
theorem d_M_macBegin_18 : decode b_M_macBegin 18 = .ok (.baload, 1) := by decide +kernel
theorem d_M_macBegin_19 : decode b_M_macBegin 19 = .ok (.bipush 54, 2) := by decide +kernel
theorem d_M_macBegin_21 : decode b_M_macBegin 21 = .ok (.ixor, 1) := by decide +kernel
theorem d_M_macBegin_22 : decode b_M_macBegin 22 = .ok (.invokevirtual 370, 3) := by decide +kernel
theorem d_M_macBegin_25 : decode b_M_macBegin 25 = .ok (.iinc 1 1, 3) := by decide +kernel
theorem d_M_macBegin_28 : decode b_M_macBegin 28 = .ok (.goto (-22), 3) := by decide +kernel
theorem d_M_macBegin_31 : decode b_M_macBegin 31 = .ok (.return_, 1) := by decide +kernel
abbrev b_M_macEnd : ByteArray := prog_14_method_14_code
def y_M_macEnd : MethodName := ⟨R_M, "macEnd", "()V"⟩
abbrev k_M_macEnd : Cond := .code y_M_macEnd b_M_macEnd 2 none
theorem ki_M_macEnd : k_M_macEnd ∈ lw_tg := in_t 1837 (by decide +kernel)
theorem ks_M_macEnd : Cond.instanceMethod y_M_macEnd ∈ lw_tg := in_t 1836 (by decide +kernel)
theorem kx_M_macEnd : Cond.selects R_M y_M_macEnd y_M_macEnd ∈ lw_tg := List.mem_filter.mpr ⟨List.mem_append_left _ (List.mem_of_getElem? (i := 85) (by decide +kernel)), rfl⟩
theorem kl_M_macEnd : Cond.methodLink R_M 429 y_M_macEnd ∈ lw_tg := in_t 1834 (by decide +kernel)
theorem hd_M_macEnd : y_M_macEnd.cls = R_M ∧ y_M_macEnd.cls ≠ "java/lang/invoke/MethodHandle" ∧ y_M_macEnd.cls ≠ "java/lang/invoke/VarHandle" ∧ (parseMethodDescriptor y_M_macEnd.desc).map (fun d => d.parameters.length) = some 0 := by decide +kernel
theorem d_M_macEnd_0 : decode b_M_macEnd 0 = .ok (.aload_n 0, 1) := by decide +kernel
theorem d_M_macEnd_1 : decode b_M_macEnd 1 = .ok (.aload_n 0, 1) := by decide +kernel
theorem d_M_macEnd_2 : decode b_M_macEnd 2 = .ok (.getfield 32, 3) := by decide +kernel
theorem d_M_macEnd_5 : decode b_M_macEnd 5 = .ok (.invokevirtual 377, 3) := by decide +kernel
theorem d_M_macEnd_8 : decode b_M_macEnd 8 = .ok (.aload_n 0, 1) := by decide +kernel
theorem d_M_macEnd_9 : decode b_M_macEnd 9 = .ok (.invokevirtual 374, 3) := by decide +kernel
theorem d_M_macEnd_12 : decode b_M_macEnd 12 = .ok (.iconst 0, 1) := by decide +kernel
theorem d_M_macEnd_13 : decode b_M_macEnd 13 = .ok (.istore_n 1, 1) := by decide +kernel
theorem d_M_macEnd_14 : decode b_M_macEnd 14 = .ok (.iload_n 1, 1) := by decide +kernel
theorem d_M_macEnd_15 : decode b_M_macEnd 15 = .ok (.bipush 64, 2) := by decide +kernel
theorem d_M_macEnd_17 : decode b_M_macEnd 17 = .ok (.if_icmp .ge 22, 3) := by decide +kernel
theorem d_M_macEnd_20 : decode b_M_macEnd 20 = .ok (.aload_n 0, 1) := by decide +kernel
theorem d_M_macEnd_21 : decode b_M_macEnd 21 = .ok (.aload_n 0, 1) := by decide +kernel
theorem d_M_macEnd_22 : decode b_M_macEnd 22 = .ok (.getfield 38, 3) := by decide +kernel
theorem d_M_macEnd_25 : decode b_M_macEnd 25 = .ok (.iload_n 1, 1) := by decide +kernel
theorem d_M_macEnd_26 : decode b_M_macEnd 26 = .ok (.baload, 1) := by decide +kernel
theorem d_M_macEnd_27 : decode b_M_macEnd 27 = .ok (.bipush 92, 2) := by decide +kernel
theorem d_M_macEnd_29 : decode b_M_macEnd 29 = .ok (.ixor, 1) := by decide +kernel
theorem d_M_macEnd_30 : decode b_M_macEnd 30 = .ok (.invokevirtual 370, 3) := by decide +kernel
theorem d_M_macEnd_33 : decode b_M_macEnd 33 = .ok (.iinc 1 1, 3) := by decide +kernel
theorem d_M_macEnd_36 : decode b_M_macEnd 36 = .ok (.goto (-22), 3) := by decide +kernel
theorem d_M_macEnd_39 : decode b_M_macEnd 39 = .ok (.iconst 0, 1) := by decide +kernel
theorem d_M_macEnd_40 : decode b_M_macEnd 40 = .ok (.istore_n 1, 1) := by decide +kernel
theorem d_M_macEnd_41 : decode b_M_macEnd 41 = .ok (.iload_n 1, 1) := by decide +kernel
theorem d_M_macEnd_42 : decode b_M_macEnd 42 = .ok (.bipush 20, 2) := by decide +kernel
theorem d_M_macEnd_44 : decode b_M_macEnd 44 = .ok (.if_icmp .ge 19, 3) := by decide +kernel
theorem d_M_macEnd_47 : decode b_M_macEnd 47 = .ok (.aload_n 0, 1) := by decide +kernel
theorem d_M_macEnd_48 : decode b_M_macEnd 48 = .ok (.aload_n 0, 1) := by decide +kernel
theorem d_M_macEnd_49 : decode b_M_macEnd 49 = .ok (.getfield 32, 3) := by decide +kernel
theorem d_M_macEnd_52 : decode b_M_macEnd 52 = .ok (.iload_n 1, 1) := by decide +kernel
theorem d_M_macEnd_53 : decode b_M_macEnd 53 = .ok (.baload, 1) := by decide +kernel
theorem d_M_macEnd_54 : decode b_M_macEnd 54 = .ok (.invokevirtual 370, 3) := by decide +kernel
theorem d_M_macEnd_57 : decode b_M_macEnd 57 = .ok (.iinc 1 1, 3) := by decide +kernel
theorem d_M_macEnd_60 : decode b_M_macEnd 60 = .ok (.goto (-19), 3) := by decide +kernel
theorem d_M_macEnd_63 : decode b_M_macEnd 63 = .ok (.aload_n 0, 1) := by decide +kernel
theorem d_M_macEnd_64 : decode b_M_macEnd 64 = .ok (.aload_n 0, 1) := by decide +kernel
theorem d_M_macEnd_65 : decode b_M_macEnd 65 = .ok (.getfield 35, 3) := by decide +kernel
theorem d_M_macEnd_68 : decode b_M_macEnd 68 = .ok (.invokevirtual 377, 3) := by decide +kernel
theorem d_M_macEnd_71 : decode b_M_macEnd 71 = .ok (.return_, 1) := by decide +kernel
abbrev b_M_twice : ByteArray := prog_14_method_15_code
def y_M_twice : MethodName := ⟨R_M, "twice", "(I)I"⟩
abbrev k_M_twice : Cond := .code y_M_twice b_M_twice 1 (some .int)
theorem ki_M_twice : k_M_twice ∈ lw_tg := in_t 1859 (by decide +kernel)
theorem ks_M_twice : Cond.static y_M_twice ∈ lw_tg := in_t 1858 (by decide +kernel)
theorem kl_M_twice : Cond.methodLink R_M 381 y_M_twice ∈ lw_tg := in_t 1857 (by decide +kernel)
theorem hd_M_twice : y_M_twice.cls = R_M ∧ y_M_twice.cls ≠ "java/lang/invoke/MethodHandle" ∧ y_M_twice.cls ≠ "java/lang/invoke/VarHandle" ∧ (parseMethodDescriptor y_M_twice.desc).map (fun d => d.parameters.length) = some 1 := by decide +kernel
theorem d_M_twice_0 : decode b_M_twice 0 = .ok (.iload_n 0, 1) := by decide +kernel
theorem d_M_twice_1 : decode b_M_twice 1 = .ok (.iconst 1, 1) := by decide +kernel
theorem d_M_twice_2 : decode b_M_twice 2 = .ok (.ishl, 1) := by decide +kernel
theorem d_M_twice_3 : decode b_M_twice 3 = .ok (.iload_n 0, 1) := by decide +kernel
theorem d_M_twice_4 : decode b_M_twice 4 = .ok (.bipush 127, 2) := by decide +kernel
theorem d_M_twice_6 : decode b_M_twice 6 = .ok (.if_icmp .le 8, 3) := by decide +kernel
theorem d_M_twice_9 : decode b_M_twice 9 = .ok (.bipush 27, 2) := by decide +kernel
theorem d_M_twice_11 : decode b_M_twice 11 = .ok (.goto 4, 3) := by decide +kernel
theorem d_M_twice_14 : decode b_M_twice 14 = .ok (.iconst 0, 1) := by decide +kernel
theorem d_M_twice_15 : decode b_M_twice 15 = .ok (.ixor, 1) := by decide +kernel
theorem d_M_twice_16 : decode b_M_twice 16 = .ok (.sipush 255, 3) := by decide +kernel
theorem d_M_twice_19 : decode b_M_twice 19 = .ok (.iand, 1) := by decide +kernel
theorem d_M_twice_20 : decode b_M_twice 20 = .ok (.ireturn, 1) := by decide +kernel
abbrev b_M_product : ByteArray := prog_14_method_16_code
def y_M_product : MethodName := ⟨R_M, "product", "(II)I"⟩
abbrev k_M_product : Cond := .code y_M_product b_M_product 5 (some .int)
theorem ki_M_product : k_M_product ∈ lw_tg := in_t 1856 (by decide +kernel)
theorem ks_M_product : Cond.static y_M_product ∈ lw_tg := in_t 1855 (by decide +kernel)
theorem kl_M_product : Cond.methodLink R_M 389 y_M_product ∈ lw_tg := in_t 1854 (by decide +kernel)
theorem hd_M_product : y_M_product.cls = R_M ∧ y_M_product.cls ≠ "java/lang/invoke/MethodHandle" ∧ y_M_product.cls ≠ "java/lang/invoke/VarHandle" ∧ (parseMethodDescriptor y_M_product.desc).map (fun d => d.parameters.length) = some 2 := by decide +kernel
theorem d_M_product_0 : decode b_M_product 0 = .ok (.iconst 0, 1) := by decide +kernel
theorem d_M_product_1 : decode b_M_product 1 = .ok (.istore_n 2, 1) := by decide +kernel
theorem d_M_product_2 : decode b_M_product 2 = .ok (.iload_n 0, 1) := by decide +kernel
theorem d_M_product_3 : decode b_M_product 3 = .ok (.istore_n 3, 1) := by decide +kernel
theorem d_M_product_4 : decode b_M_product 4 = .ok (.iload_n 1, 1) := by decide +kernel
theorem d_M_product_5 : decode b_M_product 5 = .ok (.istore 4, 2) := by decide +kernel
theorem d_M_product_7 : decode b_M_product 7 = .ok (.iload 4, 2) := by decide +kernel
theorem d_M_product_9 : decode b_M_product 9 = .ok (.ifCond .le 29, 3) := by decide +kernel
theorem d_M_product_12 : decode b_M_product 12 = .ok (.iload 4, 2) := by decide +kernel
theorem d_M_product_14 : decode b_M_product 14 = .ok (.iconst 1, 1) := by decide +kernel
theorem d_M_product_15 : decode b_M_product 15 = .ok (.iand, 1) := by decide +kernel
theorem d_M_product_16 : decode b_M_product 16 = .ok (.iconst 1, 1) := by decide +kernel
theorem d_M_product_17 : decode b_M_product 17 = .ok (.if_icmp .ne 7, 3) := by decide +kernel
theorem d_M_product_20 : decode b_M_product 20 = .ok (.iload_n 2, 1) := by decide +kernel
theorem d_M_product_21 : decode b_M_product 21 = .ok (.iload_n 3, 1) := by decide +kernel
theorem d_M_product_22 : decode b_M_product 22 = .ok (.ixor, 1) := by decide +kernel
theorem d_M_product_23 : decode b_M_product 23 = .ok (.istore_n 2, 1) := by decide +kernel
theorem d_M_product_24 : decode b_M_product 24 = .ok (.iload_n 3, 1) := by decide +kernel
theorem d_M_product_25 : decode b_M_product 25 = .ok (.invokestatic 381, 3) := by decide +kernel
theorem d_M_product_28 : decode b_M_product 28 = .ok (.istore_n 3, 1) := by decide +kernel
theorem d_M_product_29 : decode b_M_product 29 = .ok (.iload 4, 2) := by decide +kernel
theorem d_M_product_31 : decode b_M_product 31 = .ok (.iconst 1, 1) := by decide +kernel
theorem d_M_product_32 : decode b_M_product 32 = .ok (.ishr, 1) := by decide +kernel
theorem d_M_product_33 : decode b_M_product 33 = .ok (.istore 4, 2) := by decide +kernel
theorem d_M_product_35 : decode b_M_product 35 = .ok (.goto (-28), 3) := by decide +kernel
theorem d_M_product_38 : decode b_M_product 38 = .ok (.iload_n 2, 1) := by decide +kernel
theorem d_M_product_39 : decode b_M_product 39 = .ok (.ireturn, 1) := by decide +kernel
abbrev b_M_makeBox : ByteArray := prog_14_method_17_code
def y_M_makeBox : MethodName := ⟨R_M, "makeBox", "()V"⟩
abbrev k_M_makeBox : Cond := .code y_M_makeBox b_M_makeBox 6 none
theorem ki_M_makeBox : k_M_makeBox ∈ lw_tg := in_t 1853 (by decide +kernel)
theorem ks_M_makeBox : Cond.instanceMethod y_M_makeBox ∈ lw_tg := in_t 1852 (by decide +kernel)
theorem kx_M_makeBox : Cond.selects R_M y_M_makeBox y_M_makeBox ∈ lw_tg := List.mem_filter.mpr ⟨List.mem_append_left _ (List.mem_of_getElem? (i := 89) (by decide +kernel)), rfl⟩
theorem kl_M_makeBox : Cond.methodLink R_M 392 y_M_makeBox ∈ lw_tg := in_t 1850 (by decide +kernel)
theorem hd_M_makeBox : y_M_makeBox.cls = R_M ∧ y_M_makeBox.cls ≠ "java/lang/invoke/MethodHandle" ∧ y_M_makeBox.cls ≠ "java/lang/invoke/VarHandle" ∧ (parseMethodDescriptor y_M_makeBox.desc).map (fun d => d.parameters.length) = some 0 := by decide +kernel
theorem d_M_makeBox_0 : decode b_M_makeBox 0 = .ok (.aload_n 0, 1) := by decide +kernel
theorem d_M_makeBox_1 : decode b_M_makeBox 1 = .ok (.iconst 1, 1) := by decide +kernel
theorem d_M_makeBox_2 : decode b_M_makeBox 2 = .ok (.putfield 385, 3) := by decide +kernel
theorem d_M_makeBox_5 : decode b_M_makeBox 5 = .ok (.iconst 0, 1) := by decide +kernel
theorem d_M_makeBox_6 : decode b_M_makeBox 6 = .ok (.istore_n 1, 1) := by decide +kernel
theorem d_M_makeBox_7 : decode b_M_makeBox 7 = .ok (.iload_n 1, 1) := by decide +kernel
theorem d_M_makeBox_8 : decode b_M_makeBox 8 = .ok (.sipush 256, 3) := by decide +kernel
theorem d_M_makeBox_11 : decode b_M_makeBox 11 = .ok (.if_icmp .ge 128, 3) := by decide +kernel
theorem d_M_makeBox_14 : decode b_M_makeBox 14 = .ok (.iconst 1, 1) := by decide +kernel
theorem d_M_makeBox_15 : decode b_M_makeBox 15 = .ok (.istore_n 2, 1) := by decide +kernel
theorem d_M_makeBox_16 : decode b_M_makeBox 16 = .ok (.iconst 0, 1) := by decide +kernel
theorem d_M_makeBox_17 : decode b_M_makeBox 17 = .ok (.istore_n 3, 1) := by decide +kernel
theorem d_M_makeBox_18 : decode b_M_makeBox 18 = .ok (.iload_n 3, 1) := by decide +kernel
theorem d_M_makeBox_19 : decode b_M_makeBox 19 = .ok (.sipush 254, 3) := by decide +kernel
theorem d_M_makeBox_22 : decode b_M_makeBox 22 = .ok (.if_icmp .ge 15, 3) := by decide +kernel
theorem d_M_makeBox_25 : decode b_M_makeBox 25 = .ok (.iload_n 2, 1) := by decide +kernel
theorem d_M_makeBox_26 : decode b_M_makeBox 26 = .ok (.iload_n 1, 1) := by decide +kernel
theorem d_M_makeBox_27 : decode b_M_makeBox 27 = .ok (.invokestatic 389, 3) := by decide +kernel
theorem d_M_makeBox_30 : decode b_M_makeBox 30 = .ok (.istore_n 2, 1) := by decide +kernel
theorem d_M_makeBox_31 : decode b_M_makeBox 31 = .ok (.iinc 3 1, 3) := by decide +kernel
theorem d_M_makeBox_34 : decode b_M_makeBox 34 = .ok (.goto (-16), 3) := by decide +kernel
theorem d_M_makeBox_37 : decode b_M_makeBox 37 = .ok (.iconst 0, 1) := by decide +kernel
theorem d_M_makeBox_38 : decode b_M_makeBox 38 = .ok (.istore_n 3, 1) := by decide +kernel
theorem d_M_makeBox_39 : decode b_M_makeBox 39 = .ok (.iconst 0, 1) := by decide +kernel
theorem d_M_makeBox_40 : decode b_M_makeBox 40 = .ok (.istore 4, 2) := by decide +kernel
theorem d_M_makeBox_42 : decode b_M_makeBox 42 = .ok (.iload 4, 2) := by decide +kernel
theorem d_M_makeBox_44 : decode b_M_makeBox 44 = .ok (.bipush 8, 2) := by decide +kernel
theorem d_M_makeBox_46 : decode b_M_makeBox 46 = .ok (.if_icmp .ge 73, 3) := by decide +kernel
theorem d_M_makeBox_49 : decode b_M_makeBox 49 = .ok (.iload_n 2, 1) := by decide +kernel
theorem d_M_makeBox_50 : decode b_M_makeBox 50 = .ok (.iload 4, 2) := by decide +kernel
theorem d_M_makeBox_52 : decode b_M_makeBox 52 = .ok (.ishr, 1) := by decide +kernel
theorem d_M_makeBox_53 : decode b_M_makeBox 53 = .ok (.iload_n 2, 1) := by decide +kernel
theorem d_M_makeBox_54 : decode b_M_makeBox 54 = .ok (.iload 4, 2) := by decide +kernel
theorem d_M_makeBox_56 : decode b_M_makeBox 56 = .ok (.iconst 4, 1) := by decide +kernel
theorem d_M_makeBox_57 : decode b_M_makeBox 57 = .ok (.iadd, 1) := by decide +kernel
theorem d_M_makeBox_58 : decode b_M_makeBox 58 = .ok (.bipush 8, 2) := by decide +kernel
theorem d_M_makeBox_60 : decode b_M_makeBox 60 = .ok (.irem, 1) := by decide +kernel
theorem d_M_makeBox_61 : decode b_M_makeBox 61 = .ok (.ishr, 1) := by decide +kernel
theorem d_M_makeBox_62 : decode b_M_makeBox 62 = .ok (.ixor, 1) := by decide +kernel
theorem d_M_makeBox_63 : decode b_M_makeBox 63 = .ok (.iload_n 2, 1) := by decide +kernel
theorem d_M_makeBox_64 : decode b_M_makeBox 64 = .ok (.iload 4, 2) := by decide +kernel
theorem d_M_makeBox_66 : decode b_M_makeBox 66 = .ok (.iconst 5, 1) := by decide +kernel
theorem d_M_makeBox_67 : decode b_M_makeBox 67 = .ok (.iadd, 1) := by decide +kernel
theorem d_M_makeBox_68 : decode b_M_makeBox 68 = .ok (.bipush 8, 2) := by decide +kernel
theorem d_M_makeBox_70 : decode b_M_makeBox 70 = .ok (.irem, 1) := by decide +kernel
theorem d_M_makeBox_71 : decode b_M_makeBox 71 = .ok (.ishr, 1) := by decide +kernel
theorem d_M_makeBox_72 : decode b_M_makeBox 72 = .ok (.ixor, 1) := by decide +kernel
theorem d_M_makeBox_73 : decode b_M_makeBox 73 = .ok (.iload_n 2, 1) := by decide +kernel
theorem d_M_makeBox_74 : decode b_M_makeBox 74 = .ok (.iload 4, 2) := by decide +kernel
theorem d_M_makeBox_76 : decode b_M_makeBox 76 = .ok (.bipush 6, 2) := by decide +kernel
theorem d_M_makeBox_78 : decode b_M_makeBox 78 = .ok (.iadd, 1) := by decide +kernel
theorem d_M_makeBox_79 : decode b_M_makeBox 79 = .ok (.bipush 8, 2) := by decide +kernel
theorem d_M_makeBox_81 : decode b_M_makeBox 81 = .ok (.irem, 1) := by decide +kernel
theorem d_M_makeBox_82 : decode b_M_makeBox 82 = .ok (.ishr, 1) := by decide +kernel
theorem d_M_makeBox_83 : decode b_M_makeBox 83 = .ok (.ixor, 1) := by decide +kernel
theorem d_M_makeBox_84 : decode b_M_makeBox 84 = .ok (.iload_n 2, 1) := by decide +kernel
theorem d_M_makeBox_85 : decode b_M_makeBox 85 = .ok (.iload 4, 2) := by decide +kernel
theorem d_M_makeBox_87 : decode b_M_makeBox 87 = .ok (.bipush 7, 2) := by decide +kernel
theorem d_M_makeBox_89 : decode b_M_makeBox 89 = .ok (.iadd, 1) := by decide +kernel
theorem d_M_makeBox_90 : decode b_M_makeBox 90 = .ok (.bipush 8, 2) := by decide +kernel
theorem d_M_makeBox_92 : decode b_M_makeBox 92 = .ok (.irem, 1) := by decide +kernel
theorem d_M_makeBox_93 : decode b_M_makeBox 93 = .ok (.ishr, 1) := by decide +kernel
theorem d_M_makeBox_94 : decode b_M_makeBox 94 = .ok (.ixor, 1) := by decide +kernel
theorem d_M_makeBox_95 : decode b_M_makeBox 95 = .ok (.bipush 99, 2) := by decide +kernel
theorem d_M_makeBox_97 : decode b_M_makeBox 97 = .ok (.iload 4, 2) := by decide +kernel
theorem d_M_makeBox_99 : decode b_M_makeBox 99 = .ok (.ishr, 1) := by decide +kernel
theorem d_M_makeBox_100 : decode b_M_makeBox 100 = .ok (.ixor, 1) := by decide +kernel
theorem d_M_makeBox_101 : decode b_M_makeBox 101 = .ok (.istore 5, 2) := by decide +kernel
theorem d_M_makeBox_103 : decode b_M_makeBox 103 = .ok (.iload_n 3, 1) := by decide +kernel
theorem d_M_makeBox_104 : decode b_M_makeBox 104 = .ok (.iload 5, 2) := by decide +kernel
theorem d_M_makeBox_106 : decode b_M_makeBox 106 = .ok (.iconst 1, 1) := by decide +kernel
theorem d_M_makeBox_107 : decode b_M_makeBox 107 = .ok (.iand, 1) := by decide +kernel
theorem d_M_makeBox_108 : decode b_M_makeBox 108 = .ok (.iload 4, 2) := by decide +kernel
theorem d_M_makeBox_110 : decode b_M_makeBox 110 = .ok (.ishl, 1) := by decide +kernel
theorem d_M_makeBox_111 : decode b_M_makeBox 111 = .ok (.ior, 1) := by decide +kernel
theorem d_M_makeBox_112 : decode b_M_makeBox 112 = .ok (.istore_n 3, 1) := by decide +kernel
theorem d_M_makeBox_113 : decode b_M_makeBox 113 = .ok (.iinc 4 1, 3) := by decide +kernel
theorem d_M_makeBox_116 : decode b_M_makeBox 116 = .ok (.goto (-74), 3) := by decide +kernel
theorem d_M_makeBox_119 : decode b_M_makeBox 119 = .ok (.aload_n 0, 1) := by decide +kernel
theorem d_M_makeBox_120 : decode b_M_makeBox 120 = .ok (.getfield 41, 3) := by decide +kernel
theorem d_M_makeBox_123 : decode b_M_makeBox 123 = .ok (.iload_n 1, 1) := by decide +kernel
theorem d_M_makeBox_124 : decode b_M_makeBox 124 = .ok (.iload_n 3, 1) := by decide +kernel
theorem d_M_makeBox_125 : decode b_M_makeBox 125 = .ok (.iastore, 1) := by decide +kernel
theorem d_M_makeBox_126 : decode b_M_makeBox 126 = .ok (.aload_n 0, 1) := by decide +kernel
theorem d_M_makeBox_127 : decode b_M_makeBox 127 = .ok (.getfield 44, 3) := by decide +kernel
theorem d_M_makeBox_130 : decode b_M_makeBox 130 = .ok (.iload_n 3, 1) := by decide +kernel
theorem d_M_makeBox_131 : decode b_M_makeBox 131 = .ok (.iload_n 1, 1) := by decide +kernel
theorem d_M_makeBox_132 : decode b_M_makeBox 132 = .ok (.iastore, 1) := by decide +kernel
theorem d_M_makeBox_133 : decode b_M_makeBox 133 = .ok (.iinc 1 1, 3) := by decide +kernel
theorem d_M_makeBox_136 : decode b_M_makeBox 136 = .ok (.goto (-129), 3) := by decide +kernel
theorem d_M_makeBox_139 : decode b_M_makeBox 139 = .ok (.return_, 1) := by decide +kernel
abbrev b_M_boxed : ByteArray := prog_14_method_18_code
def y_M_boxed : MethodName := ⟨R_M, "boxed", "(I)I"⟩
abbrev k_M_boxed : Cond := .code y_M_boxed b_M_boxed 2 (some .int)
theorem ki_M_boxed : k_M_boxed ∈ lw_tg := in_t 1863 (by decide +kernel)
theorem ks_M_boxed : Cond.instanceMethod y_M_boxed ∈ lw_tg := in_t 1862 (by decide +kernel)
theorem kx_M_boxed : Cond.selects R_M y_M_boxed y_M_boxed ∈ lw_tg := List.mem_filter.mpr ⟨List.mem_append_left _ (List.mem_of_getElem? (i := 90) (by decide +kernel)), rfl⟩
theorem kl_M_boxed : Cond.methodLink R_M 398 y_M_boxed ∈ lw_tg := in_t 1860 (by decide +kernel)
theorem hd_M_boxed : y_M_boxed.cls = R_M ∧ y_M_boxed.cls ≠ "java/lang/invoke/MethodHandle" ∧ y_M_boxed.cls ≠ "java/lang/invoke/VarHandle" ∧ (parseMethodDescriptor y_M_boxed.desc).map (fun d => d.parameters.length) = some 1 := by decide +kernel
theorem d_M_boxed_0 : decode b_M_boxed 0 = .ok (.aload_n 0, 1) := by decide +kernel
theorem d_M_boxed_1 : decode b_M_boxed 1 = .ok (.getfield 41, 3) := by decide +kernel
theorem d_M_boxed_4 : decode b_M_boxed 4 = .ok (.iload_n 1, 1) := by decide +kernel
theorem d_M_boxed_5 : decode b_M_boxed 5 = .ok (.bipush 24, 2) := by decide +kernel
theorem d_M_boxed_7 : decode b_M_boxed 7 = .ok (.iushr, 1) := by decide +kernel
theorem d_M_boxed_8 : decode b_M_boxed 8 = .ok (.iaload, 1) := by decide +kernel
theorem d_M_boxed_9 : decode b_M_boxed 9 = .ok (.bipush 24, 2) := by decide +kernel
theorem d_M_boxed_11 : decode b_M_boxed 11 = .ok (.ishl, 1) := by decide +kernel
theorem d_M_boxed_12 : decode b_M_boxed 12 = .ok (.aload_n 0, 1) := by decide +kernel
theorem d_M_boxed_13 : decode b_M_boxed 13 = .ok (.getfield 41, 3) := by decide +kernel
theorem d_M_boxed_16 : decode b_M_boxed 16 = .ok (.iload_n 1, 1) := by decide +kernel
theorem d_M_boxed_17 : decode b_M_boxed 17 = .ok (.bipush 16, 2) := by decide +kernel
theorem d_M_boxed_19 : decode b_M_boxed 19 = .ok (.iushr, 1) := by decide +kernel
theorem d_M_boxed_20 : decode b_M_boxed 20 = .ok (.sipush 255, 3) := by decide +kernel
theorem d_M_boxed_23 : decode b_M_boxed 23 = .ok (.iand, 1) := by decide +kernel
theorem d_M_boxed_24 : decode b_M_boxed 24 = .ok (.iaload, 1) := by decide +kernel
theorem d_M_boxed_25 : decode b_M_boxed 25 = .ok (.bipush 16, 2) := by decide +kernel
theorem d_M_boxed_27 : decode b_M_boxed 27 = .ok (.ishl, 1) := by decide +kernel
theorem d_M_boxed_28 : decode b_M_boxed 28 = .ok (.ior, 1) := by decide +kernel
theorem d_M_boxed_29 : decode b_M_boxed 29 = .ok (.aload_n 0, 1) := by decide +kernel
theorem d_M_boxed_30 : decode b_M_boxed 30 = .ok (.getfield 41, 3) := by decide +kernel
theorem d_M_boxed_33 : decode b_M_boxed 33 = .ok (.iload_n 1, 1) := by decide +kernel
theorem d_M_boxed_34 : decode b_M_boxed 34 = .ok (.bipush 8, 2) := by decide +kernel
theorem d_M_boxed_36 : decode b_M_boxed 36 = .ok (.iushr, 1) := by decide +kernel
theorem d_M_boxed_37 : decode b_M_boxed 37 = .ok (.sipush 255, 3) := by decide +kernel
theorem d_M_boxed_40 : decode b_M_boxed 40 = .ok (.iand, 1) := by decide +kernel
theorem d_M_boxed_41 : decode b_M_boxed 41 = .ok (.iaload, 1) := by decide +kernel
theorem d_M_boxed_42 : decode b_M_boxed 42 = .ok (.bipush 8, 2) := by decide +kernel
theorem d_M_boxed_44 : decode b_M_boxed 44 = .ok (.ishl, 1) := by decide +kernel
theorem d_M_boxed_45 : decode b_M_boxed 45 = .ok (.ior, 1) := by decide +kernel
theorem d_M_boxed_46 : decode b_M_boxed 46 = .ok (.aload_n 0, 1) := by decide +kernel
theorem d_M_boxed_47 : decode b_M_boxed 47 = .ok (.getfield 41, 3) := by decide +kernel
theorem d_M_boxed_50 : decode b_M_boxed 50 = .ok (.iload_n 1, 1) := by decide +kernel
theorem d_M_boxed_51 : decode b_M_boxed 51 = .ok (.sipush 255, 3) := by decide +kernel
theorem d_M_boxed_54 : decode b_M_boxed 54 = .ok (.iand, 1) := by decide +kernel
theorem d_M_boxed_55 : decode b_M_boxed 55 = .ok (.iaload, 1) := by decide +kernel
theorem d_M_boxed_56 : decode b_M_boxed 56 = .ok (.ior, 1) := by decide +kernel
theorem d_M_boxed_57 : decode b_M_boxed 57 = .ok (.ireturn, 1) := by decide +kernel
abbrev b_M_aesKey : ByteArray := prog_14_method_19_code
def y_M_aesKey : MethodName := ⟨R_M, "aesKey", "([BI)V"⟩
abbrev k_M_aesKey : Cond := .code y_M_aesKey b_M_aesKey 7 none
theorem ki_M_aesKey : k_M_aesKey ∈ lw_tg := in_t 1849 (by decide +kernel)
theorem ks_M_aesKey : Cond.instanceMethod y_M_aesKey ∈ lw_tg := in_t 1848 (by decide +kernel)
theorem kx_M_aesKey : Cond.selects R_M y_M_aesKey y_M_aesKey ∈ lw_tg := List.mem_filter.mpr ⟨List.mem_append_left _ (List.mem_of_getElem? (i := 88) (by decide +kernel)), rfl⟩
theorem kl_M_aesKey : Cond.methodLink R_M 408 y_M_aesKey ∈ lw_tg := in_t 1846 (by decide +kernel)
theorem hd_M_aesKey : y_M_aesKey.cls = R_M ∧ y_M_aesKey.cls ≠ "java/lang/invoke/MethodHandle" ∧ y_M_aesKey.cls ≠ "java/lang/invoke/VarHandle" ∧ (parseMethodDescriptor y_M_aesKey.desc).map (fun d => d.parameters.length) = some 2 := by decide +kernel
theorem d_M_aesKey_0 : decode b_M_aesKey 0 = .ok (.aload_n 0, 1) := by decide +kernel
theorem d_M_aesKey_1 : decode b_M_aesKey 1 = .ok (.getfield 385, 3) := by decide +kernel
theorem d_M_aesKey_4 : decode b_M_aesKey 4 = .ok (.ifCond .ne 7, 3) := by decide +kernel
theorem d_M_aesKey_7 : decode b_M_aesKey 7 = .ok (.aload_n 0, 1) := by decide +kernel
theorem d_M_aesKey_8 : decode b_M_aesKey 8 = .ok (.invokevirtual 392, 3) := by decide +kernel
theorem d_M_aesKey_11 : decode b_M_aesKey 11 = .ok (.iload_n 2, 1) := by decide +kernel
theorem d_M_aesKey_12 : decode b_M_aesKey 12 = .ok (.iconst 4, 1) := by decide +kernel
theorem d_M_aesKey_13 : decode b_M_aesKey 13 = .ok (.idiv, 1) := by decide +kernel
theorem d_M_aesKey_14 : decode b_M_aesKey 14 = .ok (.istore_n 3, 1) := by decide +kernel
theorem d_M_aesKey_15 : decode b_M_aesKey 15 = .ok (.aload_n 0, 1) := by decide +kernel
theorem d_M_aesKey_16 : decode b_M_aesKey 16 = .ok (.iload_n 3, 1) := by decide +kernel
theorem d_M_aesKey_17 : decode b_M_aesKey 17 = .ok (.bipush 6, 2) := by decide +kernel
theorem d_M_aesKey_19 : decode b_M_aesKey 19 = .ok (.iadd, 1) := by decide +kernel
theorem d_M_aesKey_20 : decode b_M_aesKey 20 = .ok (.putfield 395, 3) := by decide +kernel
theorem d_M_aesKey_23 : decode b_M_aesKey 23 = .ok (.iconst 0, 1) := by decide +kernel
theorem d_M_aesKey_24 : decode b_M_aesKey 24 = .ok (.istore 4, 2) := by decide +kernel
theorem d_M_aesKey_26 : decode b_M_aesKey 26 = .ok (.iload 4, 2) := by decide +kernel
theorem d_M_aesKey_28 : decode b_M_aesKey 28 = .ok (.iload_n 3, 1) := by decide +kernel
theorem d_M_aesKey_29 : decode b_M_aesKey 29 = .ok (.if_icmp .ge 70, 3) := by decide +kernel
theorem d_M_aesKey_32 : decode b_M_aesKey 32 = .ok (.aload_n 0, 1) := by decide +kernel
theorem d_M_aesKey_33 : decode b_M_aesKey 33 = .ok (.getfield 47, 3) := by decide +kernel
theorem d_M_aesKey_36 : decode b_M_aesKey 36 = .ok (.iload 4, 2) := by decide +kernel
theorem d_M_aesKey_38 : decode b_M_aesKey 38 = .ok (.aload_n 1, 1) := by decide +kernel
theorem d_M_aesKey_39 : decode b_M_aesKey 39 = .ok (.iconst 4, 1) := by decide +kernel
theorem d_M_aesKey_40 : decode b_M_aesKey 40 = .ok (.iload 4, 2) := by decide +kernel
theorem d_M_aesKey_42 : decode b_M_aesKey 42 = .ok (.imul, 1) := by decide +kernel
theorem d_M_aesKey_43 : decode b_M_aesKey 43 = .ok (.baload, 1) := by decide +kernel
theorem d_M_aesKey_44 : decode b_M_aesKey 44 = .ok (.bipush 24, 2) := by decide +kernel
theorem d_M_aesKey_46 : decode b_M_aesKey 46 = .ok (.ishl, 1) := by decide +kernel
theorem d_M_aesKey_47 : decode b_M_aesKey 47 = .ok (.aload_n 1, 1) := by decide +kernel
theorem d_M_aesKey_48 : decode b_M_aesKey 48 = .ok (.iconst 4, 1) := by decide +kernel
theorem d_M_aesKey_49 : decode b_M_aesKey 49 = .ok (.iload 4, 2) := by decide +kernel
theorem d_M_aesKey_51 : decode b_M_aesKey 51 = .ok (.imul, 1) := by decide +kernel
theorem d_M_aesKey_52 : decode b_M_aesKey 52 = .ok (.iconst 1, 1) := by decide +kernel
theorem d_M_aesKey_53 : decode b_M_aesKey 53 = .ok (.iadd, 1) := by decide +kernel
theorem d_M_aesKey_54 : decode b_M_aesKey 54 = .ok (.baload, 1) := by decide +kernel
theorem d_M_aesKey_55 : decode b_M_aesKey 55 = .ok (.sipush 255, 3) := by decide +kernel
theorem d_M_aesKey_58 : decode b_M_aesKey 58 = .ok (.iand, 1) := by decide +kernel
theorem d_M_aesKey_59 : decode b_M_aesKey 59 = .ok (.bipush 16, 2) := by decide +kernel
theorem d_M_aesKey_61 : decode b_M_aesKey 61 = .ok (.ishl, 1) := by decide +kernel
theorem d_M_aesKey_62 : decode b_M_aesKey 62 = .ok (.ior, 1) := by decide +kernel
theorem d_M_aesKey_63 : decode b_M_aesKey 63 = .ok (.aload_n 1, 1) := by decide +kernel
theorem d_M_aesKey_64 : decode b_M_aesKey 64 = .ok (.iconst 4, 1) := by decide +kernel
theorem d_M_aesKey_65 : decode b_M_aesKey 65 = .ok (.iload 4, 2) := by decide +kernel
theorem d_M_aesKey_67 : decode b_M_aesKey 67 = .ok (.imul, 1) := by decide +kernel
theorem d_M_aesKey_68 : decode b_M_aesKey 68 = .ok (.iconst 2, 1) := by decide +kernel
theorem d_M_aesKey_69 : decode b_M_aesKey 69 = .ok (.iadd, 1) := by decide +kernel
theorem d_M_aesKey_70 : decode b_M_aesKey 70 = .ok (.baload, 1) := by decide +kernel
theorem d_M_aesKey_71 : decode b_M_aesKey 71 = .ok (.sipush 255, 3) := by decide +kernel
theorem d_M_aesKey_74 : decode b_M_aesKey 74 = .ok (.iand, 1) := by decide +kernel
theorem d_M_aesKey_75 : decode b_M_aesKey 75 = .ok (.bipush 8, 2) := by decide +kernel
theorem d_M_aesKey_77 : decode b_M_aesKey 77 = .ok (.ishl, 1) := by decide +kernel
theorem d_M_aesKey_78 : decode b_M_aesKey 78 = .ok (.ior, 1) := by decide +kernel
theorem d_M_aesKey_79 : decode b_M_aesKey 79 = .ok (.aload_n 1, 1) := by decide +kernel
theorem d_M_aesKey_80 : decode b_M_aesKey 80 = .ok (.iconst 4, 1) := by decide +kernel
theorem d_M_aesKey_81 : decode b_M_aesKey 81 = .ok (.iload 4, 2) := by decide +kernel
theorem d_M_aesKey_83 : decode b_M_aesKey 83 = .ok (.imul, 1) := by decide +kernel
theorem d_M_aesKey_84 : decode b_M_aesKey 84 = .ok (.iconst 3, 1) := by decide +kernel
theorem d_M_aesKey_85 : decode b_M_aesKey 85 = .ok (.iadd, 1) := by decide +kernel
theorem d_M_aesKey_86 : decode b_M_aesKey 86 = .ok (.baload, 1) := by decide +kernel
theorem d_M_aesKey_87 : decode b_M_aesKey 87 = .ok (.sipush 255, 3) := by decide +kernel
theorem d_M_aesKey_90 : decode b_M_aesKey 90 = .ok (.iand, 1) := by decide +kernel
theorem d_M_aesKey_91 : decode b_M_aesKey 91 = .ok (.ior, 1) := by decide +kernel
theorem d_M_aesKey_92 : decode b_M_aesKey 92 = .ok (.iastore, 1) := by decide +kernel
theorem d_M_aesKey_93 : decode b_M_aesKey 93 = .ok (.iinc 4 1, 3) := by decide +kernel
theorem d_M_aesKey_96 : decode b_M_aesKey 96 = .ok (.goto (-70), 3) := by decide +kernel
theorem d_M_aesKey_99 : decode b_M_aesKey 99 = .ok (.iconst 1, 1) := by decide +kernel
theorem d_M_aesKey_100 : decode b_M_aesKey 100 = .ok (.istore 4, 2) := by decide +kernel
theorem d_M_aesKey_102 : decode b_M_aesKey 102 = .ok (.iload_n 3, 1) := by decide +kernel
theorem d_M_aesKey_103 : decode b_M_aesKey 103 = .ok (.istore 5, 2) := by decide +kernel
theorem d_M_aesKey_105 : decode b_M_aesKey 105 = .ok (.iload 5, 2) := by decide +kernel
theorem d_M_aesKey_107 : decode b_M_aesKey 107 = .ok (.iconst 4, 1) := by decide +kernel
theorem d_M_aesKey_108 : decode b_M_aesKey 108 = .ok (.aload_n 0, 1) := by decide +kernel
theorem d_M_aesKey_109 : decode b_M_aesKey 109 = .ok (.getfield 395, 3) := by decide +kernel
theorem d_M_aesKey_112 : decode b_M_aesKey 112 = .ok (.iconst 1, 1) := by decide +kernel
theorem d_M_aesKey_113 : decode b_M_aesKey 113 = .ok (.iadd, 1) := by decide +kernel
theorem d_M_aesKey_114 : decode b_M_aesKey 114 = .ok (.imul, 1) := by decide +kernel
theorem d_M_aesKey_115 : decode b_M_aesKey 115 = .ok (.if_icmp .ge 97, 3) := by decide +kernel
theorem d_M_aesKey_118 : decode b_M_aesKey 118 = .ok (.aload_n 0, 1) := by decide +kernel
theorem d_M_aesKey_119 : decode b_M_aesKey 119 = .ok (.getfield 47, 3) := by decide +kernel
theorem d_M_aesKey_122 : decode b_M_aesKey 122 = .ok (.iload 5, 2) := by decide +kernel
theorem d_M_aesKey_124 : decode b_M_aesKey 124 = .ok (.iconst 1, 1) := by decide +kernel
theorem d_M_aesKey_125 : decode b_M_aesKey 125 = .ok (.isub, 1) := by decide +kernel
theorem d_M_aesKey_126 : decode b_M_aesKey 126 = .ok (.iaload, 1) := by decide +kernel
theorem d_M_aesKey_127 : decode b_M_aesKey 127 = .ok (.istore 6, 2) := by decide +kernel
theorem d_M_aesKey_129 : decode b_M_aesKey 129 = .ok (.iload 5, 2) := by decide +kernel
theorem d_M_aesKey_131 : decode b_M_aesKey 131 = .ok (.iload_n 3, 1) := by decide +kernel
theorem d_M_aesKey_132 : decode b_M_aesKey 132 = .ok (.irem, 1) := by decide +kernel
theorem d_M_aesKey_133 : decode b_M_aesKey 133 = .ok (.ifCond .ne 32, 3) := by decide +kernel
theorem d_M_aesKey_136 : decode b_M_aesKey 136 = .ok (.aload_n 0, 1) := by decide +kernel
theorem d_M_aesKey_137 : decode b_M_aesKey 137 = .ok (.iload 6, 2) := by decide +kernel
theorem d_M_aesKey_139 : decode b_M_aesKey 139 = .ok (.bipush 8, 2) := by decide +kernel
theorem d_M_aesKey_141 : decode b_M_aesKey 141 = .ok (.invokestatic 360, 3) := by decide +kernel
theorem d_M_aesKey_144 : decode b_M_aesKey 144 = .ok (.invokevirtual 398, 3) := by decide +kernel
theorem d_M_aesKey_147 : decode b_M_aesKey 147 = .ok (.iload 4, 2) := by decide +kernel
theorem d_M_aesKey_149 : decode b_M_aesKey 149 = .ok (.bipush 24, 2) := by decide +kernel
theorem d_M_aesKey_151 : decode b_M_aesKey 151 = .ok (.ishl, 1) := by decide +kernel
theorem d_M_aesKey_152 : decode b_M_aesKey 152 = .ok (.ixor, 1) := by decide +kernel
theorem d_M_aesKey_153 : decode b_M_aesKey 153 = .ok (.istore 6, 2) := by decide +kernel
theorem d_M_aesKey_155 : decode b_M_aesKey 155 = .ok (.iload 4, 2) := by decide +kernel
theorem d_M_aesKey_157 : decode b_M_aesKey 157 = .ok (.invokestatic 381, 3) := by decide +kernel
theorem d_M_aesKey_160 : decode b_M_aesKey 160 = .ok (.istore 4, 2) := by decide +kernel
theorem d_M_aesKey_162 : decode b_M_aesKey 162 = .ok (.goto 25, 3) := by decide +kernel
theorem d_M_aesKey_165 : decode b_M_aesKey 165 = .ok (.iload_n 3, 1) := by decide +kernel
theorem d_M_aesKey_166 : decode b_M_aesKey 166 = .ok (.bipush 6, 2) := by decide +kernel
theorem d_M_aesKey_168 : decode b_M_aesKey 168 = .ok (.if_icmp .le 19, 3) := by decide +kernel
theorem d_M_aesKey_171 : decode b_M_aesKey 171 = .ok (.iload 5, 2) := by decide +kernel
theorem d_M_aesKey_173 : decode b_M_aesKey 173 = .ok (.iload_n 3, 1) := by decide +kernel
theorem d_M_aesKey_174 : decode b_M_aesKey 174 = .ok (.irem, 1) := by decide +kernel
theorem d_M_aesKey_175 : decode b_M_aesKey 175 = .ok (.iconst 4, 1) := by decide +kernel
theorem d_M_aesKey_176 : decode b_M_aesKey 176 = .ok (.if_icmp .ne 11, 3) := by decide +kernel
theorem d_M_aesKey_179 : decode b_M_aesKey 179 = .ok (.aload_n 0, 1) := by decide +kernel
theorem d_M_aesKey_180 : decode b_M_aesKey 180 = .ok (.iload 6, 2) := by decide +kernel
theorem d_M_aesKey_182 : decode b_M_aesKey 182 = .ok (.invokevirtual 398, 3) := by decide +kernel
theorem d_M_aesKey_185 : decode b_M_aesKey 185 = .ok (.istore 6, 2) := by decide +kernel
theorem d_M_aesKey_187 : decode b_M_aesKey 187 = .ok (.aload_n 0, 1) := by decide +kernel
theorem d_M_aesKey_188 : decode b_M_aesKey 188 = .ok (.getfield 47, 3) := by decide +kernel
theorem d_M_aesKey_191 : decode b_M_aesKey 191 = .ok (.iload 5, 2) := by decide +kernel
theorem d_M_aesKey_193 : decode b_M_aesKey 193 = .ok (.aload_n 0, 1) := by decide +kernel
theorem d_M_aesKey_194 : decode b_M_aesKey 194 = .ok (.getfield 47, 3) := by decide +kernel
theorem d_M_aesKey_197 : decode b_M_aesKey 197 = .ok (.iload 5, 2) := by decide +kernel
theorem d_M_aesKey_199 : decode b_M_aesKey 199 = .ok (.iload_n 3, 1) := by decide +kernel
theorem d_M_aesKey_200 : decode b_M_aesKey 200 = .ok (.isub, 1) := by decide +kernel
theorem d_M_aesKey_201 : decode b_M_aesKey 201 = .ok (.iaload, 1) := by decide +kernel
theorem d_M_aesKey_202 : decode b_M_aesKey 202 = .ok (.iload 6, 2) := by decide +kernel
theorem d_M_aesKey_204 : decode b_M_aesKey 204 = .ok (.ixor, 1) := by decide +kernel
theorem d_M_aesKey_205 : decode b_M_aesKey 205 = .ok (.iastore, 1) := by decide +kernel
theorem d_M_aesKey_206 : decode b_M_aesKey 206 = .ok (.iinc 5 1, 3) := by decide +kernel
theorem d_M_aesKey_209 : decode b_M_aesKey 209 = .ok (.goto (-104), 3) := by decide +kernel
theorem d_M_aesKey_212 : decode b_M_aesKey 212 = .ok (.return_, 1) := by decide +kernel
abbrev b_M_addKey : ByteArray := prog_14_method_20_code
def y_M_addKey : MethodName := ⟨R_M, "addKey", "(I)V"⟩
abbrev k_M_addKey : Cond := .code y_M_addKey b_M_addKey 3 none
theorem ki_M_addKey : k_M_addKey ∈ lw_tg := in_t 1871 (by decide +kernel)
theorem ks_M_addKey : Cond.instanceMethod y_M_addKey ∈ lw_tg := in_t 1870 (by decide +kernel)
theorem kx_M_addKey : Cond.selects R_M y_M_addKey y_M_addKey ∈ lw_tg := List.mem_filter.mpr ⟨List.mem_append_left _ (List.mem_of_getElem? (i := 92) (by decide +kernel)), rfl⟩
theorem kl_M_addKey : Cond.methodLink R_M 401 y_M_addKey ∈ lw_tg := in_t 1868 (by decide +kernel)
theorem hd_M_addKey : y_M_addKey.cls = R_M ∧ y_M_addKey.cls ≠ "java/lang/invoke/MethodHandle" ∧ y_M_addKey.cls ≠ "java/lang/invoke/VarHandle" ∧ (parseMethodDescriptor y_M_addKey.desc).map (fun d => d.parameters.length) = some 1 := by decide +kernel
theorem d_M_addKey_0 : decode b_M_addKey 0 = .ok (.iconst 0, 1) := by decide +kernel
theorem d_M_addKey_1 : decode b_M_addKey 1 = .ok (.istore_n 2, 1) := by decide +kernel
theorem d_M_addKey_2 : decode b_M_addKey 2 = .ok (.iload_n 2, 1) := by decide +kernel
theorem d_M_addKey_3 : decode b_M_addKey 3 = .ok (.bipush 16, 2) := by decide +kernel
theorem d_M_addKey_5 : decode b_M_addKey 5 = .ok (.if_icmp .ge 44, 3) := by decide +kernel
theorem d_M_addKey_8 : decode b_M_addKey 8 = .ok (.aload_n 0, 1) := by decide +kernel
theorem d_M_addKey_9 : decode b_M_addKey 9 = .ok (.getfield 50, 3) := by decide +kernel
theorem d_M_addKey_12 : decode b_M_addKey 12 = .ok (.iload_n 2, 1) := by decide +kernel
theorem d_M_addKey_13 : decode b_M_addKey 13 = .ok (.dup2, 1) := by decide +kernel
theorem d_M_addKey_14 : decode b_M_addKey 14 = .ok (.iaload, 1) := by decide +kernel
theorem d_M_addKey_15 : decode b_M_addKey 15 = .ok (.aload_n 0, 1) := by decide +kernel
theorem d_M_addKey_16 : decode b_M_addKey 16 = .ok (.getfield 47, 3) := by decide +kernel
theorem d_M_addKey_19 : decode b_M_addKey 19 = .ok (.iconst 4, 1) := by decide +kernel
theorem d_M_addKey_20 : decode b_M_addKey 20 = .ok (.iload_n 1, 1) := by decide +kernel
theorem d_M_addKey_21 : decode b_M_addKey 21 = .ok (.imul, 1) := by decide +kernel
theorem d_M_addKey_22 : decode b_M_addKey 22 = .ok (.iload_n 2, 1) := by decide +kernel
theorem d_M_addKey_23 : decode b_M_addKey 23 = .ok (.iconst 4, 1) := by decide +kernel
theorem d_M_addKey_24 : decode b_M_addKey 24 = .ok (.idiv, 1) := by decide +kernel
theorem d_M_addKey_25 : decode b_M_addKey 25 = .ok (.iadd, 1) := by decide +kernel
theorem d_M_addKey_26 : decode b_M_addKey 26 = .ok (.iaload, 1) := by decide +kernel
theorem d_M_addKey_27 : decode b_M_addKey 27 = .ok (.bipush 24, 2) := by decide +kernel
theorem d_M_addKey_29 : decode b_M_addKey 29 = .ok (.bipush 8, 2) := by decide +kernel
theorem d_M_addKey_31 : decode b_M_addKey 31 = .ok (.iload_n 2, 1) := by decide +kernel
theorem d_M_addKey_32 : decode b_M_addKey 32 = .ok (.iconst 4, 1) := by decide +kernel
theorem d_M_addKey_33 : decode b_M_addKey 33 = .ok (.irem, 1) := by decide +kernel
theorem d_M_addKey_34 : decode b_M_addKey 34 = .ok (.imul, 1) := by decide +kernel
theorem d_M_addKey_35 : decode b_M_addKey 35 = .ok (.isub, 1) := by decide +kernel
theorem d_M_addKey_36 : decode b_M_addKey 36 = .ok (.iushr, 1) := by decide +kernel
theorem d_M_addKey_37 : decode b_M_addKey 37 = .ok (.sipush 255, 3) := by decide +kernel
theorem d_M_addKey_40 : decode b_M_addKey 40 = .ok (.iand, 1) := by decide +kernel
theorem d_M_addKey_41 : decode b_M_addKey 41 = .ok (.ixor, 1) := by decide +kernel
theorem d_M_addKey_42 : decode b_M_addKey 42 = .ok (.iastore, 1) := by decide +kernel
theorem d_M_addKey_43 : decode b_M_addKey 43 = .ok (.iinc 2 1, 3) := by decide +kernel
theorem d_M_addKey_46 : decode b_M_addKey 46 = .ok (.goto (-44), 3) := by decide +kernel
theorem d_M_addKey_49 : decode b_M_addKey 49 = .ok (.return_, 1) := by decide +kernel
