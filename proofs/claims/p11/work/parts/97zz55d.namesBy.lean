abbrev b_By_init : ByteArray := prog_4_method_1_code
def y_By_init : MethodName := ⟨R_By, "<init>", "(I)V"⟩
abbrev k_By_init : Cond := .code y_By_init b_By_init 2 none
theorem ki_By_init : k_By_init ∈ lw_tg := in_t 39 (by decide +kernel)
theorem ks_By_init : Cond.instanceMethod y_By_init ∈ lw_tg := in_t 38 (by decide +kernel)
theorem kl_Va_By_init : Cond.methodLink R_Va 18 y_By_init ∈ lw_tg := in_t 37 (by decide +kernel)
theorem kl_H_By_init : Cond.methodLink R_H 18 y_By_init ∈ lw_tg := in_t 177 (by decide +kernel)
theorem kl_Ga_By_init : Cond.methodLink R_Ga 11 y_By_init ∈ lw_tg := in_t 185 (by decide +kernel)
theorem kl_Pr_By_init : Cond.methodLink R_Pr 11 y_By_init ∈ lw_tg := in_t 218 (by decide +kernel)
theorem kl_Ag_By_init : Cond.methodLink R_Ag 11 y_By_init ∈ lw_tg := in_t 303 (by decide +kernel)
theorem kl_Ti_By_init : Cond.methodLink R_Ti 11 y_By_init ∈ lw_tg := in_t 313 (by decide +kernel)
theorem hd_By_init : y_By_init.cls = R_By ∧ y_By_init.cls ≠ "java/lang/invoke/MethodHandle" ∧ y_By_init.cls ≠ "java/lang/invoke/VarHandle" ∧ (parseMethodDescriptor y_By_init.desc).map (fun d => d.parameters.length) = some 1 := by decide +kernel
theorem d_By_init_0 : decode b_By_init 0 = .ok (.aload_n 0, 1) := by decide +kernel
theorem d_By_init_1 : decode b_By_init 1 = .ok (.invokespecial 3, 3) := by decide +kernel
theorem d_By_init_4 : decode b_By_init 4 = .ok (.aload_n 0, 1) := by decide +kernel
theorem d_By_init_5 : decode b_By_init 5 = .ok (.iconst 0, 1) := by decide +kernel
theorem d_By_init_6 : decode b_By_init 6 = .ok (.iload_n 1, 1) := by decide +kernel
theorem d_By_init_7 : decode b_By_init 7 = .ok (.invokestatic 9, 3) := by decide +kernel
theorem d_By_init_10 : decode b_By_init 10 = .ok (.newarray .byte, 2) := by decide +kernel
theorem d_By_init_12 : decode b_By_init 12 = .ok (.putfield 15, 3) := by decide +kernel
theorem d_By_init_15 : decode b_By_init 15 = .ok (.return_, 1) := by decide +kernel
abbrev b_By_clear : ByteArray := prog_4_method_2_code
def y_By_clear : MethodName := ⟨R_By, "clear", "()V"⟩
abbrev k_By_clear : Cond := .code y_By_clear b_By_clear 1 none
theorem ki_By_clear : k_By_clear ∈ lw_tg := in_t 475 (by decide +kernel)
theorem ks_By_clear : Cond.instanceMethod y_By_clear ∈ lw_tg := in_t 473 (by decide +kernel)
theorem kx_By_clear : Cond.selects R_By y_By_clear y_By_clear ∈ lw_tg := in_t 474 (by decide +kernel)
theorem kl_H_By_clear : Cond.methodLink R_H 88 y_By_clear ∈ lw_tg := in_t 472 (by decide +kernel)
theorem kl_Va_By_clear : Cond.methodLink R_Va 106 y_By_clear ∈ lw_tg := in_t 569 (by decide +kernel)
theorem kl_Ce_By_clear : Cond.methodLink R_Ce 265 y_By_clear ∈ lw_tg := in_t 1233 (by decide +kernel)
theorem kl_Ag_By_clear : Cond.methodLink R_Ag 140 y_By_clear ∈ lw_tg := in_t 1423 (by decide +kernel)
theorem kl_Ti_By_clear : Cond.methodLink R_Ti 67 y_By_clear ∈ lw_tg := in_t 1515 (by decide +kernel)
theorem kl_So_By_clear : Cond.methodLink R_So 94 y_By_clear ∈ lw_tg := in_t 1594 (by decide +kernel)
theorem hd_By_clear : y_By_clear.cls = R_By ∧ y_By_clear.cls ≠ "java/lang/invoke/MethodHandle" ∧ y_By_clear.cls ≠ "java/lang/invoke/VarHandle" ∧ (parseMethodDescriptor y_By_clear.desc).map (fun d => d.parameters.length) = some 0 := by decide +kernel
theorem d_By_clear_0 : decode b_By_clear 0 = .ok (.aload_n 0, 1) := by decide +kernel
theorem d_By_clear_1 : decode b_By_clear 1 = .ok (.iconst 0, 1) := by decide +kernel
theorem d_By_clear_2 : decode b_By_clear 2 = .ok (.putfield 21, 3) := by decide +kernel
theorem d_By_clear_5 : decode b_By_clear 5 = .ok (.return_, 1) := by decide +kernel
abbrev b_By_at : ByteArray := prog_4_method_3_code
def y_By_at : MethodName := ⟨R_By, "at", "(I)I"⟩
abbrev k_By_at : Cond := .code y_By_at b_By_at 2 (some .int)
theorem ki_By_at : k_By_at ∈ lw_tg := in_t 761 (by decide +kernel)
theorem ks_By_at : Cond.instanceMethod y_By_at ∈ lw_tg := in_t 759 (by decide +kernel)
theorem kx_By_at : Cond.selects R_By y_By_at y_By_at ∈ lw_tg := in_t 760 (by decide +kernel)
theorem kl_H_By_at : Cond.methodLink R_H 105 y_By_at ∈ lw_tg := in_t 758 (by decide +kernel)
theorem kl_By_By_at : Cond.methodLink R_By 123 y_By_at ∈ lw_tg := in_t 799 (by decide +kernel)
theorem kl_Ce_By_at : Cond.methodLink R_Ce 61 y_By_at ∈ lw_tg := in_t 842 (by decide +kernel)
theorem kl_Va_By_at : Cond.methodLink R_Va 210 y_By_at ∈ lw_tg := in_t 1046 (by decide +kernel)
theorem kl_Se_By_at : Cond.methodLink R_Se 39 y_By_at ∈ lw_tg := in_t 1092 (by decide +kernel)
theorem kl_Ag_By_at : Cond.methodLink R_Ag 239 y_By_at ∈ lw_tg := in_t 1483 (by decide +kernel)
theorem kl_So_By_at : Cond.methodLink R_So 219 y_By_at ∈ lw_tg := in_t 1677 (by decide +kernel)
theorem hd_By_at : y_By_at.cls = R_By ∧ y_By_at.cls ≠ "java/lang/invoke/MethodHandle" ∧ y_By_at.cls ≠ "java/lang/invoke/VarHandle" ∧ (parseMethodDescriptor y_By_at.desc).map (fun d => d.parameters.length) = some 1 := by decide +kernel
theorem d_By_at_0 : decode b_By_at 0 = .ok (.iload_n 1, 1) := by decide +kernel
theorem d_By_at_1 : decode b_By_at 1 = .ok (.ifCond .lt 24, 3) := by decide +kernel
theorem d_By_at_4 : decode b_By_at 4 = .ok (.iload_n 1, 1) := by decide +kernel
theorem d_By_at_5 : decode b_By_at 5 = .ok (.aload_n 0, 1) := by decide +kernel
theorem d_By_at_6 : decode b_By_at 6 = .ok (.getfield 21, 3) := by decide +kernel
theorem d_By_at_9 : decode b_By_at 9 = .ok (.if_icmp .ge 16, 3) := by decide +kernel
theorem d_By_at_12 : decode b_By_at 12 = .ok (.aload_n 0, 1) := by decide +kernel
theorem d_By_at_13 : decode b_By_at 13 = .ok (.getfield 15, 3) := by decide +kernel
theorem d_By_at_16 : decode b_By_at 16 = .ok (.iload_n 1, 1) := by decide +kernel
theorem d_By_at_17 : decode b_By_at 17 = .ok (.baload, 1) := by decide +kernel
theorem d_By_at_18 : decode b_By_at 18 = .ok (.sipush 255, 3) := by decide +kernel
theorem d_By_at_21 : decode b_By_at 21 = .ok (.iand, 1) := by decide +kernel
theorem d_By_at_22 : decode b_By_at 22 = .ok (.goto 4, 3) := by decide +kernel
theorem d_By_at_25 : decode b_By_at 25 = .ok (.iconst (-1), 1) := by decide +kernel
theorem d_By_at_26 : decode b_By_at 26 = .ok (.ireturn, 1) := by decide +kernel
abbrev b_By_put : ByteArray := prog_4_method_4_code
def y_By_put : MethodName := ⟨R_By, "put", "(I)V"⟩
abbrev k_By_put : Cond := .code y_By_put b_By_put 2 none
theorem ki_By_put : k_By_put ∈ lw_tg := in_t 540 (by decide +kernel)
theorem ks_By_put : Cond.instanceMethod y_By_put ∈ lw_tg := in_t 538 (by decide +kernel)
theorem kx_By_put : Cond.selects R_By y_By_put y_By_put ∈ lw_tg := in_t 539 (by decide +kernel)
theorem kl_By_By_put : Cond.methodLink R_By 25 y_By_put ∈ lw_tg := in_t 537 (by decide +kernel)
theorem kl_Va_By_put : Cond.methodLink R_Va 180 y_By_put ∈ lw_tg := in_t 1327 (by decide +kernel)
theorem hd_By_put : y_By_put.cls = R_By ∧ y_By_put.cls ≠ "java/lang/invoke/MethodHandle" ∧ y_By_put.cls ≠ "java/lang/invoke/VarHandle" ∧ (parseMethodDescriptor y_By_put.desc).map (fun d => d.parameters.length) = some 1 := by decide +kernel
theorem d_By_put_0 : decode b_By_put 0 = .ok (.aload_n 0, 1) := by decide +kernel
theorem d_By_put_1 : decode b_By_put 1 = .ok (.getfield 21, 3) := by decide +kernel
theorem d_By_put_4 : decode b_By_put 4 = .ok (.aload_n 0, 1) := by decide +kernel
theorem d_By_put_5 : decode b_By_put 5 = .ok (.getfield 15, 3) := by decide +kernel
theorem d_By_put_8 : decode b_By_put 8 = .ok (.arraylength, 1) := by decide +kernel
theorem d_By_put_9 : decode b_By_put 9 = .ok (.if_icmp .ge 24, 3) := by decide +kernel
theorem d_By_put_12 : decode b_By_put 12 = .ok (.aload_n 0, 1) := by decide +kernel
theorem d_By_put_13 : decode b_By_put 13 = .ok (.getfield 15, 3) := by decide +kernel
theorem d_By_put_16 : decode b_By_put 16 = .ok (.aload_n 0, 1) := by decide +kernel
theorem d_By_put_17 : decode b_By_put 17 = .ok (.getfield 21, 3) := by decide +kernel
theorem d_By_put_20 : decode b_By_put 20 = .ok (.iload_n 1, 1) := by decide +kernel
theorem d_By_put_21 : decode b_By_put 21 = .ok (.i2b, 1) := by decide +kernel
theorem d_By_put_22 : decode b_By_put 22 = .ok (.bastore, 1) := by decide +kernel
theorem d_By_put_23 : decode b_By_put 23 = .ok (.aload_n 0, 1) := by decide +kernel
theorem d_By_put_24 : decode b_By_put 24 = .ok (.dup, 1) := by decide +kernel
theorem d_By_put_25 : decode b_By_put 25 = .ok (.getfield 21, 3) := by decide +kernel
theorem d_By_put_28 : decode b_By_put 28 = .ok (.iconst 1, 1) := by decide +kernel
theorem d_By_put_29 : decode b_By_put 29 = .ok (.iadd, 1) := by decide +kernel
theorem d_By_put_30 : decode b_By_put 30 = .ok (.putfield 21, 3) := by decide +kernel
theorem d_By_put_33 : decode b_By_put 33 = .ok (.return_, 1) := by decide +kernel
abbrev b_By_putWord : ByteArray := prog_4_method_5_code
def y_By_putWord : MethodName := ⟨R_By, "putWord", "(I)V"⟩
abbrev k_By_putWord : Cond := .code y_By_putWord b_By_putWord 2 none
theorem ki_By_putWord : k_By_putWord ∈ lw_tg := in_t 609 (by decide +kernel)
theorem ks_By_putWord : Cond.instanceMethod y_By_putWord ∈ lw_tg := in_t 607 (by decide +kernel)
theorem kx_By_putWord : Cond.selects R_By y_By_putWord y_By_putWord ∈ lw_tg := in_t 608 (by decide +kernel)
theorem kl_Va_By_putWord : Cond.methodLink R_Va 109 y_By_putWord ∈ lw_tg := in_t 606 (by decide +kernel)
theorem kl_H_By_putWord : Cond.methodLink R_H 85 y_By_putWord ∈ lw_tg := in_t 743 (by decide +kernel)
theorem kl_Ce_By_putWord : Cond.methodLink R_Ce 360 y_By_putWord ∈ lw_tg := in_t 1260 (by decide +kernel)
theorem kl_By_By_putWord : Cond.methodLink R_By 74 y_By_putWord ∈ lw_tg := in_t 1286 (by decide +kernel)
theorem hd_By_putWord : y_By_putWord.cls = R_By ∧ y_By_putWord.cls ≠ "java/lang/invoke/MethodHandle" ∧ y_By_putWord.cls ≠ "java/lang/invoke/VarHandle" ∧ (parseMethodDescriptor y_By_putWord.desc).map (fun d => d.parameters.length) = some 1 := by decide +kernel
theorem d_By_putWord_0 : decode b_By_putWord 0 = .ok (.aload_n 0, 1) := by decide +kernel
theorem d_By_putWord_1 : decode b_By_putWord 1 = .ok (.iload_n 1, 1) := by decide +kernel
theorem d_By_putWord_2 : decode b_By_putWord 2 = .ok (.bipush 24, 2) := by decide +kernel
theorem d_By_putWord_4 : decode b_By_putWord 4 = .ok (.ishr, 1) := by decide +kernel
theorem d_By_putWord_5 : decode b_By_putWord 5 = .ok (.invokevirtual 25, 3) := by decide +kernel
theorem d_By_putWord_8 : decode b_By_putWord 8 = .ok (.aload_n 0, 1) := by decide +kernel
theorem d_By_putWord_9 : decode b_By_putWord 9 = .ok (.iload_n 1, 1) := by decide +kernel
theorem d_By_putWord_10 : decode b_By_putWord 10 = .ok (.bipush 16, 2) := by decide +kernel
theorem d_By_putWord_12 : decode b_By_putWord 12 = .ok (.ishr, 1) := by decide +kernel
theorem d_By_putWord_13 : decode b_By_putWord 13 = .ok (.invokevirtual 25, 3) := by decide +kernel
theorem d_By_putWord_16 : decode b_By_putWord 16 = .ok (.aload_n 0, 1) := by decide +kernel
theorem d_By_putWord_17 : decode b_By_putWord 17 = .ok (.iload_n 1, 1) := by decide +kernel
theorem d_By_putWord_18 : decode b_By_putWord 18 = .ok (.bipush 8, 2) := by decide +kernel
theorem d_By_putWord_20 : decode b_By_putWord 20 = .ok (.ishr, 1) := by decide +kernel
theorem d_By_putWord_21 : decode b_By_putWord 21 = .ok (.invokevirtual 25, 3) := by decide +kernel
theorem d_By_putWord_24 : decode b_By_putWord 24 = .ok (.aload_n 0, 1) := by decide +kernel
theorem d_By_putWord_25 : decode b_By_putWord 25 = .ok (.iload_n 1, 1) := by decide +kernel
theorem d_By_putWord_26 : decode b_By_putWord 26 = .ok (.invokevirtual 25, 3) := by decide +kernel
theorem d_By_putWord_29 : decode b_By_putWord 29 = .ok (.return_, 1) := by decide +kernel
abbrev b_By_append : ByteArray := prog_4_method_6_code
def y_By_append : MethodName := ⟨R_By, "append", "([BII)V"⟩
abbrev k_By_append : Cond := .code y_By_append b_By_append 4 none
theorem ki_By_append : k_By_append ∈ lw_tg := in_t 560 (by decide +kernel)
theorem ks_By_append : Cond.instanceMethod y_By_append ∈ lw_tg := in_t 558 (by decide +kernel)
theorem kx_By_append : Cond.selects R_By y_By_append y_By_append ∈ lw_tg := in_t 559 (by decide +kernel)
theorem kl_By_By_append : Cond.methodLink R_By 35 y_By_append ∈ lw_tg := in_t 557 (by decide +kernel)
theorem kl_Va_By_append : Cond.methodLink R_Va 138 y_By_append ∈ lw_tg := in_t 583 (by decide +kernel)
theorem kl_H_By_append : Cond.methodLink R_H 101 y_By_append ∈ lw_tg := in_t 753 (by decide +kernel)
theorem kl_Ti_By_append : Cond.methodLink R_Ti 79 y_By_append ∈ lw_tg := in_t 1516 (by decide +kernel)
theorem kl_So_By_append : Cond.methodLink R_So 213 y_By_append ∈ lw_tg := in_t 1678 (by decide +kernel)
theorem hd_By_append : y_By_append.cls = R_By ∧ y_By_append.cls ≠ "java/lang/invoke/MethodHandle" ∧ y_By_append.cls ≠ "java/lang/invoke/VarHandle" ∧ (parseMethodDescriptor y_By_append.desc).map (fun d => d.parameters.length) = some 3 := by decide +kernel
theorem d_By_append_0 : decode b_By_append 0 = .ok (.iload_n 2, 1) := by decide +kernel
theorem d_By_append_1 : decode b_By_append 1 = .ok (.ifCond .lt 29, 3) := by decide +kernel
theorem d_By_append_4 : decode b_By_append 4 = .ok (.iload_n 3, 1) := by decide +kernel
theorem d_By_append_5 : decode b_By_append 5 = .ok (.ifCond .lt 25, 3) := by decide +kernel
theorem d_By_append_8 : decode b_By_append 8 = .ok (.iload_n 3, 1) := by decide +kernel
theorem d_By_append_9 : decode b_By_append 9 = .ok (.aload_n 1, 1) := by decide +kernel
theorem d_By_append_10 : decode b_By_append 10 = .ok (.arraylength, 1) := by decide +kernel
theorem d_By_append_11 : decode b_By_append 11 = .ok (.iload_n 2, 1) := by decide +kernel
theorem d_By_append_12 : decode b_By_append 12 = .ok (.isub, 1) := by decide +kernel
theorem d_By_append_13 : decode b_By_append 13 = .ok (.if_icmp .gt 17, 3) := by decide +kernel
theorem d_By_append_16 : decode b_By_append 16 = .ok (.iload_n 3, 1) := by decide +kernel
theorem d_By_append_17 : decode b_By_append 17 = .ok (.aload_n 0, 1) := by decide +kernel
theorem d_By_append_18 : decode b_By_append 18 = .ok (.getfield 15, 3) := by decide +kernel
theorem d_By_append_21 : decode b_By_append 21 = .ok (.arraylength, 1) := by decide +kernel
theorem d_By_append_22 : decode b_By_append 22 = .ok (.aload_n 0, 1) := by decide +kernel
theorem d_By_append_23 : decode b_By_append 23 = .ok (.getfield 21, 3) := by decide +kernel
theorem d_By_append_26 : decode b_By_append 26 = .ok (.isub, 1) := by decide +kernel
theorem d_By_append_27 : decode b_By_append 27 = .ok (.if_icmp .le 4, 3) := by decide +kernel
theorem d_By_append_30 : decode b_By_append 30 = .ok (.return_, 1) := by decide +kernel
theorem d_By_append_31 : decode b_By_append 31 = .ok (.aload_n 1, 1) := by decide +kernel
theorem d_By_append_32 : decode b_By_append 32 = .ok (.iload_n 2, 1) := by decide +kernel
theorem d_By_append_33 : decode b_By_append 33 = .ok (.aload_n 0, 1) := by decide +kernel
theorem d_By_append_34 : decode b_By_append 34 = .ok (.getfield 15, 3) := by decide +kernel
theorem d_By_append_37 : decode b_By_append 37 = .ok (.aload_n 0, 1) := by decide +kernel
theorem d_By_append_38 : decode b_By_append 38 = .ok (.getfield 21, 3) := by decide +kernel
theorem d_By_append_41 : decode b_By_append 41 = .ok (.iload_n 3, 1) := by decide +kernel
theorem d_By_append_42 : decode b_By_append 42 = .ok (.invokestatic 29, 3) := by decide +kernel
theorem d_By_append_45 : decode b_By_append 45 = .ok (.aload_n 0, 1) := by decide +kernel
theorem d_By_append_46 : decode b_By_append 46 = .ok (.dup, 1) := by decide +kernel
theorem d_By_append_47 : decode b_By_append 47 = .ok (.getfield 21, 3) := by decide +kernel
theorem d_By_append_50 : decode b_By_append 50 = .ok (.iload_n 3, 1) := by decide +kernel
theorem d_By_append_51 : decode b_By_append 51 = .ok (.iadd, 1) := by decide +kernel
theorem d_By_append_52 : decode b_By_append 52 = .ok (.putfield 21, 3) := by decide +kernel
theorem d_By_append_55 : decode b_By_append 55 = .ok (.return_, 1) := by decide +kernel
abbrev b_By_copyOf : ByteArray := prog_4_method_7_code
def y_By_copyOf : MethodName := ⟨R_By, "copyOf", "(LRealmHouse$Bytes;)V"⟩
abbrev k_By_copyOf : Cond := .code y_By_copyOf b_By_copyOf 2 none
theorem ki_By_copyOf : k_By_copyOf ∈ lw_tg := in_t 556 (by decide +kernel)
theorem ks_By_copyOf : Cond.instanceMethod y_By_copyOf ∈ lw_tg := in_t 554 (by decide +kernel)
theorem kx_By_copyOf : Cond.selects R_By y_By_copyOf y_By_copyOf ∈ lw_tg := in_t 555 (by decide +kernel)
theorem kl_Pr_By_copyOf : Cond.methodLink R_Pr 70 y_By_copyOf ∈ lw_tg := in_t 553 (by decide +kernel)
theorem kl_Ag_By_copyOf : Cond.methodLink R_Ag 53 y_By_copyOf ∈ lw_tg := in_t 1372 (by decide +kernel)
theorem hd_By_copyOf : y_By_copyOf.cls = R_By ∧ y_By_copyOf.cls ≠ "java/lang/invoke/MethodHandle" ∧ y_By_copyOf.cls ≠ "java/lang/invoke/VarHandle" ∧ (parseMethodDescriptor y_By_copyOf.desc).map (fun d => d.parameters.length) = some 1 := by decide +kernel
theorem d_By_copyOf_0 : decode b_By_copyOf 0 = .ok (.aload_n 0, 1) := by decide +kernel
theorem d_By_copyOf_1 : decode b_By_copyOf 1 = .ok (.iconst 0, 1) := by decide +kernel
theorem d_By_copyOf_2 : decode b_By_copyOf 2 = .ok (.putfield 21, 3) := by decide +kernel
theorem d_By_copyOf_5 : decode b_By_copyOf 5 = .ok (.aload_n 0, 1) := by decide +kernel
theorem d_By_copyOf_6 : decode b_By_copyOf 6 = .ok (.aload_n 1, 1) := by decide +kernel
theorem d_By_copyOf_7 : decode b_By_copyOf 7 = .ok (.getfield 15, 3) := by decide +kernel
theorem d_By_copyOf_10 : decode b_By_copyOf 10 = .ok (.iconst 0, 1) := by decide +kernel
theorem d_By_copyOf_11 : decode b_By_copyOf 11 = .ok (.aload_n 1, 1) := by decide +kernel
theorem d_By_copyOf_12 : decode b_By_copyOf 12 = .ok (.getfield 21, 3) := by decide +kernel
theorem d_By_copyOf_15 : decode b_By_copyOf 15 = .ok (.invokevirtual 35, 3) := by decide +kernel
theorem d_By_copyOf_18 : decode b_By_copyOf 18 = .ok (.return_, 1) := by decide +kernel
abbrev b_By_skip : ByteArray := prog_4_method_8_code
def y_By_skip : MethodName := ⟨R_By, "skip", "(I)V"⟩
abbrev k_By_skip : Cond := .code y_By_skip b_By_skip 2 none
theorem ki_By_skip : k_By_skip ∈ lw_tg := in_t 1041 (by decide +kernel)
theorem ks_By_skip : Cond.instanceMethod y_By_skip ∈ lw_tg := in_t 1039 (by decide +kernel)
theorem kx_By_skip : Cond.selects R_By y_By_skip y_By_skip ∈ lw_tg := in_t 1040 (by decide +kernel)
theorem kl_Va_By_skip : Cond.methodLink R_Va 199 y_By_skip ∈ lw_tg := in_t 1038 (by decide +kernel)
theorem hd_By_skip : y_By_skip.cls = R_By ∧ y_By_skip.cls ≠ "java/lang/invoke/MethodHandle" ∧ y_By_skip.cls ≠ "java/lang/invoke/VarHandle" ∧ (parseMethodDescriptor y_By_skip.desc).map (fun d => d.parameters.length) = some 1 := by decide +kernel
theorem d_By_skip_0 : decode b_By_skip 0 = .ok (.iload_n 1, 1) := by decide +kernel
theorem d_By_skip_1 : decode b_By_skip 1 = .ok (.ifCond .lt 11, 3) := by decide +kernel
theorem d_By_skip_4 : decode b_By_skip 4 = .ok (.iload_n 1, 1) := by decide +kernel
theorem d_By_skip_5 : decode b_By_skip 5 = .ok (.aload_n 0, 1) := by decide +kernel
theorem d_By_skip_6 : decode b_By_skip 6 = .ok (.getfield 21, 3) := by decide +kernel
theorem d_By_skip_9 : decode b_By_skip 9 = .ok (.if_icmp .le 4, 3) := by decide +kernel
theorem d_By_skip_12 : decode b_By_skip 12 = .ok (.return_, 1) := by decide +kernel
theorem d_By_skip_13 : decode b_By_skip 13 = .ok (.aload_n 0, 1) := by decide +kernel
theorem d_By_skip_14 : decode b_By_skip 14 = .ok (.getfield 15, 3) := by decide +kernel
theorem d_By_skip_17 : decode b_By_skip 17 = .ok (.iload_n 1, 1) := by decide +kernel
theorem d_By_skip_18 : decode b_By_skip 18 = .ok (.aload_n 0, 1) := by decide +kernel
theorem d_By_skip_19 : decode b_By_skip 19 = .ok (.getfield 15, 3) := by decide +kernel
theorem d_By_skip_22 : decode b_By_skip 22 = .ok (.iconst 0, 1) := by decide +kernel
theorem d_By_skip_23 : decode b_By_skip 23 = .ok (.aload_n 0, 1) := by decide +kernel
theorem d_By_skip_24 : decode b_By_skip 24 = .ok (.getfield 21, 3) := by decide +kernel
theorem d_By_skip_27 : decode b_By_skip 27 = .ok (.iload_n 1, 1) := by decide +kernel
theorem d_By_skip_28 : decode b_By_skip 28 = .ok (.isub, 1) := by decide +kernel
theorem d_By_skip_29 : decode b_By_skip 29 = .ok (.invokestatic 29, 3) := by decide +kernel
theorem d_By_skip_32 : decode b_By_skip 32 = .ok (.aload_n 0, 1) := by decide +kernel
theorem d_By_skip_33 : decode b_By_skip 33 = .ok (.dup, 1) := by decide +kernel
theorem d_By_skip_34 : decode b_By_skip 34 = .ok (.getfield 21, 3) := by decide +kernel
theorem d_By_skip_37 : decode b_By_skip 37 = .ok (.iload_n 1, 1) := by decide +kernel
theorem d_By_skip_38 : decode b_By_skip 38 = .ok (.isub, 1) := by decide +kernel
theorem d_By_skip_39 : decode b_By_skip 39 = .ok (.putfield 21, 3) := by decide +kernel
theorem d_By_skip_42 : decode b_By_skip 42 = .ok (.return_, 1) := by decide +kernel
abbrev b_By_open : ByteArray := prog_4_method_9_code
def y_By_open : MethodName := ⟨R_By, "open", "(I)I"⟩
abbrev k_By_open : Cond := .code y_By_open b_By_open 2 (some .int)
theorem ki_By_open : k_By_open ∈ lw_tg := in_t 484 (by decide +kernel)
theorem ks_By_open : Cond.instanceMethod y_By_open ∈ lw_tg := in_t 482 (by decide +kernel)
theorem kx_By_open : Cond.selects R_By y_By_open y_By_open ∈ lw_tg := in_t 483 (by decide +kernel)
theorem kl_By_By_open : Cond.methodLink R_By 39 y_By_open ∈ lw_tg := in_t 481 (by decide +kernel)
theorem kl_Ce_By_open : Cond.methodLink R_Ce 268 y_By_open ∈ lw_tg := in_t 1234 (by decide +kernel)
theorem kl_Va_By_open : Cond.methodLink R_Va 166 y_By_open ∈ lw_tg := in_t 1324 (by decide +kernel)
theorem kl_Ag_By_open : Cond.methodLink R_Ag 143 y_By_open ∈ lw_tg := in_t 1424 (by decide +kernel)
theorem kl_H_By_open : Cond.methodLink R_H 330 y_By_open ∈ lw_tg := in_t 1571 (by decide +kernel)
theorem kl_So_By_open : Cond.methodLink R_So 97 y_By_open ∈ lw_tg := in_t 1595 (by decide +kernel)
theorem kl_Ti_By_open : Cond.methodLink R_Ti 93 y_By_open ∈ lw_tg := in_t 1717 (by decide +kernel)
theorem hd_By_open : y_By_open.cls = R_By ∧ y_By_open.cls ≠ "java/lang/invoke/MethodHandle" ∧ y_By_open.cls ≠ "java/lang/invoke/VarHandle" ∧ (parseMethodDescriptor y_By_open.desc).map (fun d => d.parameters.length) = some 1 := by decide +kernel
theorem d_By_open_0 : decode b_By_open 0 = .ok (.aload_n 0, 1) := by decide +kernel
theorem d_By_open_1 : decode b_By_open 1 = .ok (.getfield 21, 3) := by decide +kernel
theorem d_By_open_4 : decode b_By_open 4 = .ok (.aload_n 0, 1) := by decide +kernel
theorem d_By_open_5 : decode b_By_open 5 = .ok (.getfield 15, 3) := by decide +kernel
theorem d_By_open_8 : decode b_By_open 8 = .ok (.arraylength, 1) := by decide +kernel
theorem d_By_open_9 : decode b_By_open 9 = .ok (.iconst 1, 1) := by decide +kernel
theorem d_By_open_10 : decode b_By_open 10 = .ok (.isub, 1) := by decide +kernel
theorem d_By_open_11 : decode b_By_open 11 = .ok (.if_icmp .ge 24, 3) := by decide +kernel
theorem d_By_open_14 : decode b_By_open 14 = .ok (.aload_n 0, 1) := by decide +kernel
theorem d_By_open_15 : decode b_By_open 15 = .ok (.getfield 15, 3) := by decide +kernel
theorem d_By_open_18 : decode b_By_open 18 = .ok (.aload_n 0, 1) := by decide +kernel
theorem d_By_open_19 : decode b_By_open 19 = .ok (.getfield 21, 3) := by decide +kernel
theorem d_By_open_22 : decode b_By_open 22 = .ok (.iload_n 1, 1) := by decide +kernel
theorem d_By_open_23 : decode b_By_open 23 = .ok (.i2b, 1) := by decide +kernel
theorem d_By_open_24 : decode b_By_open 24 = .ok (.bastore, 1) := by decide +kernel
theorem d_By_open_25 : decode b_By_open 25 = .ok (.aload_n 0, 1) := by decide +kernel
theorem d_By_open_26 : decode b_By_open 26 = .ok (.dup, 1) := by decide +kernel
theorem d_By_open_27 : decode b_By_open 27 = .ok (.getfield 21, 3) := by decide +kernel
theorem d_By_open_30 : decode b_By_open 30 = .ok (.iconst 2, 1) := by decide +kernel
theorem d_By_open_31 : decode b_By_open 31 = .ok (.iadd, 1) := by decide +kernel
theorem d_By_open_32 : decode b_By_open 32 = .ok (.putfield 21, 3) := by decide +kernel
theorem d_By_open_35 : decode b_By_open 35 = .ok (.aload_n 0, 1) := by decide +kernel
theorem d_By_open_36 : decode b_By_open 36 = .ok (.getfield 21, 3) := by decide +kernel
theorem d_By_open_39 : decode b_By_open 39 = .ok (.ireturn, 1) := by decide +kernel
abbrev b_By_close : ByteArray := prog_4_method_10_code
def y_By_close : MethodName := ⟨R_By, "close", "(I)V"⟩
abbrev k_By_close : Cond := .code y_By_close b_By_close 4 none
theorem ki_By_close : k_By_close ∈ lw_tg := in_t 544 (by decide +kernel)
theorem ks_By_close : Cond.instanceMethod y_By_close ∈ lw_tg := in_t 542 (by decide +kernel)
theorem kx_By_close : Cond.selects R_By y_By_close y_By_close ∈ lw_tg := in_t 543 (by decide +kernel)
theorem kl_By_By_close : Cond.methodLink R_By 43 y_By_close ∈ lw_tg := in_t 541 (by decide +kernel)
theorem kl_Ce_By_close : Cond.methodLink R_Ce 281 y_By_close ∈ lw_tg := in_t 1259 (by decide +kernel)
theorem kl_Va_By_close : Cond.methodLink R_Va 193 y_By_close ∈ lw_tg := in_t 1333 (by decide +kernel)
theorem kl_Ag_By_close : Cond.methodLink R_Ag 176 y_By_close ∈ lw_tg := in_t 1440 (by decide +kernel)
theorem kl_H_By_close : Cond.methodLink R_H 347 y_By_close ∈ lw_tg := in_t 1575 (by decide +kernel)
theorem kl_So_By_close : Cond.methodLink R_So 108 y_By_close ∈ lw_tg := in_t 1598 (by decide +kernel)
theorem kl_Ti_By_close : Cond.methodLink R_Ti 118 y_By_close ∈ lw_tg := in_t 1724 (by decide +kernel)
theorem hd_By_close : y_By_close.cls = R_By ∧ y_By_close.cls ≠ "java/lang/invoke/MethodHandle" ∧ y_By_close.cls ≠ "java/lang/invoke/VarHandle" ∧ (parseMethodDescriptor y_By_close.desc).map (fun d => d.parameters.length) = some 1 := by decide +kernel
theorem d_By_close_0 : decode b_By_close 0 = .ok (.aload_n 0, 1) := by decide +kernel
theorem d_By_close_1 : decode b_By_close 1 = .ok (.getfield 21, 3) := by decide +kernel
theorem d_By_close_4 : decode b_By_close 4 = .ok (.iload_n 1, 1) := by decide +kernel
theorem d_By_close_5 : decode b_By_close 5 = .ok (.isub, 1) := by decide +kernel
theorem d_By_close_6 : decode b_By_close 6 = .ok (.istore_n 2, 1) := by decide +kernel
theorem d_By_close_7 : decode b_By_close 7 = .ok (.iload_n 2, 1) := by decide +kernel
theorem d_By_close_8 : decode b_By_close 8 = .ok (.sipush 128, 3) := by decide +kernel
theorem d_By_close_11 : decode b_By_close 11 = .ok (.if_icmp .ge 7, 3) := by decide +kernel
theorem d_By_close_14 : decode b_By_close 14 = .ok (.iconst 0, 1) := by decide +kernel
theorem d_By_close_15 : decode b_By_close 15 = .ok (.goto 15, 3) := by decide +kernel
theorem d_By_close_18 : decode b_By_close 18 = .ok (.iload_n 2, 1) := by decide +kernel
theorem d_By_close_19 : decode b_By_close 19 = .ok (.sipush 256, 3) := by decide +kernel
theorem d_By_close_22 : decode b_By_close 22 = .ok (.if_icmp .ge 7, 3) := by decide +kernel
theorem d_By_close_25 : decode b_By_close 25 = .ok (.iconst 1, 1) := by decide +kernel
theorem d_By_close_26 : decode b_By_close 26 = .ok (.goto 4, 3) := by decide +kernel
theorem d_By_close_29 : decode b_By_close 29 = .ok (.iconst 2, 1) := by decide +kernel
theorem d_By_close_30 : decode b_By_close 30 = .ok (.istore_n 3, 1) := by decide +kernel
theorem d_By_close_31 : decode b_By_close 31 = .ok (.iload_n 1, 1) := by decide +kernel
theorem d_By_close_32 : decode b_By_close 32 = .ok (.iconst 1, 1) := by decide +kernel
theorem d_By_close_33 : decode b_By_close 33 = .ok (.if_icmp .lt 21, 3) := by decide +kernel
theorem d_By_close_36 : decode b_By_close 36 = .ok (.iload_n 2, 1) := by decide +kernel
theorem d_By_close_37 : decode b_By_close 37 = .ok (.ifCond .lt 17, 3) := by decide +kernel
theorem d_By_close_40 : decode b_By_close 40 = .ok (.iload_n 3, 1) := by decide +kernel
theorem d_By_close_41 : decode b_By_close 41 = .ok (.aload_n 0, 1) := by decide +kernel
theorem d_By_close_42 : decode b_By_close 42 = .ok (.getfield 15, 3) := by decide +kernel
theorem d_By_close_45 : decode b_By_close 45 = .ok (.arraylength, 1) := by decide +kernel
theorem d_By_close_46 : decode b_By_close 46 = .ok (.aload_n 0, 1) := by decide +kernel
theorem d_By_close_47 : decode b_By_close 47 = .ok (.getfield 21, 3) := by decide +kernel
theorem d_By_close_50 : decode b_By_close 50 = .ok (.isub, 1) := by decide +kernel
theorem d_By_close_51 : decode b_By_close 51 = .ok (.if_icmp .le 4, 3) := by decide +kernel
theorem d_By_close_54 : decode b_By_close 54 = .ok (.return_, 1) := by decide +kernel
theorem d_By_close_55 : decode b_By_close 55 = .ok (.iload_n 3, 1) := by decide +kernel
theorem d_By_close_56 : decode b_By_close 56 = .ok (.ifCond .ne 14, 3) := by decide +kernel
theorem d_By_close_59 : decode b_By_close 59 = .ok (.aload_n 0, 1) := by decide +kernel
theorem d_By_close_60 : decode b_By_close 60 = .ok (.getfield 15, 3) := by decide +kernel
theorem d_By_close_63 : decode b_By_close 63 = .ok (.iload_n 1, 1) := by decide +kernel
theorem d_By_close_64 : decode b_By_close 64 = .ok (.iconst 1, 1) := by decide +kernel
theorem d_By_close_65 : decode b_By_close 65 = .ok (.isub, 1) := by decide +kernel
theorem d_By_close_66 : decode b_By_close 66 = .ok (.iload_n 2, 1) := by decide +kernel
theorem d_By_close_67 : decode b_By_close 67 = .ok (.i2b, 1) := by decide +kernel
theorem d_By_close_68 : decode b_By_close 68 = .ok (.bastore, 1) := by decide +kernel
theorem d_By_close_69 : decode b_By_close 69 = .ok (.return_, 1) := by decide +kernel
theorem d_By_close_70 : decode b_By_close 70 = .ok (.aload_n 0, 1) := by decide +kernel
theorem d_By_close_71 : decode b_By_close 71 = .ok (.getfield 15, 3) := by decide +kernel
theorem d_By_close_74 : decode b_By_close 74 = .ok (.iload_n 1, 1) := by decide +kernel
theorem d_By_close_75 : decode b_By_close 75 = .ok (.aload_n 0, 1) := by decide +kernel
theorem d_By_close_76 : decode b_By_close 76 = .ok (.getfield 15, 3) := by decide +kernel
theorem d_By_close_79 : decode b_By_close 79 = .ok (.iload_n 1, 1) := by decide +kernel
theorem d_By_close_80 : decode b_By_close 80 = .ok (.iload_n 3, 1) := by decide +kernel
theorem d_By_close_81 : decode b_By_close 81 = .ok (.iadd, 1) := by decide +kernel
theorem d_By_close_82 : decode b_By_close 82 = .ok (.iload_n 2, 1) := by decide +kernel
theorem d_By_close_83 : decode b_By_close 83 = .ok (.invokestatic 29, 3) := by decide +kernel
theorem d_By_close_86 : decode b_By_close 86 = .ok (.aload_n 0, 1) := by decide +kernel
theorem d_By_close_87 : decode b_By_close 87 = .ok (.getfield 15, 3) := by decide +kernel
theorem d_By_close_90 : decode b_By_close 90 = .ok (.iload_n 1, 1) := by decide +kernel
theorem d_By_close_91 : decode b_By_close 91 = .ok (.iconst 1, 1) := by decide +kernel
theorem d_By_close_92 : decode b_By_close 92 = .ok (.isub, 1) := by decide +kernel
theorem d_By_close_93 : decode b_By_close 93 = .ok (.sipush 128, 3) := by decide +kernel
theorem d_By_close_96 : decode b_By_close 96 = .ok (.iload_n 3, 1) := by decide +kernel
theorem d_By_close_97 : decode b_By_close 97 = .ok (.iadd, 1) := by decide +kernel
theorem d_By_close_98 : decode b_By_close 98 = .ok (.i2b, 1) := by decide +kernel
theorem d_By_close_99 : decode b_By_close 99 = .ok (.bastore, 1) := by decide +kernel
theorem d_By_close_100 : decode b_By_close 100 = .ok (.iload_n 3, 1) := by decide +kernel
theorem d_By_close_101 : decode b_By_close 101 = .ok (.iconst 2, 1) := by decide +kernel
theorem d_By_close_102 : decode b_By_close 102 = .ok (.if_icmp .ne 14, 3) := by decide +kernel
theorem d_By_close_105 : decode b_By_close 105 = .ok (.aload_n 0, 1) := by decide +kernel
theorem d_By_close_106 : decode b_By_close 106 = .ok (.getfield 15, 3) := by decide +kernel
theorem d_By_close_109 : decode b_By_close 109 = .ok (.iload_n 1, 1) := by decide +kernel
theorem d_By_close_110 : decode b_By_close 110 = .ok (.iload_n 2, 1) := by decide +kernel
theorem d_By_close_111 : decode b_By_close 111 = .ok (.bipush 8, 2) := by decide +kernel
theorem d_By_close_113 : decode b_By_close 113 = .ok (.ishr, 1) := by decide +kernel
theorem d_By_close_114 : decode b_By_close 114 = .ok (.i2b, 1) := by decide +kernel
theorem d_By_close_115 : decode b_By_close 115 = .ok (.bastore, 1) := by decide +kernel
theorem d_By_close_116 : decode b_By_close 116 = .ok (.aload_n 0, 1) := by decide +kernel
theorem d_By_close_117 : decode b_By_close 117 = .ok (.getfield 15, 3) := by decide +kernel
theorem d_By_close_120 : decode b_By_close 120 = .ok (.iload_n 1, 1) := by decide +kernel
theorem d_By_close_121 : decode b_By_close 121 = .ok (.iload_n 3, 1) := by decide +kernel
theorem d_By_close_122 : decode b_By_close 122 = .ok (.iadd, 1) := by decide +kernel
theorem d_By_close_123 : decode b_By_close 123 = .ok (.iconst 1, 1) := by decide +kernel
theorem d_By_close_124 : decode b_By_close 124 = .ok (.isub, 1) := by decide +kernel
theorem d_By_close_125 : decode b_By_close 125 = .ok (.iload_n 2, 1) := by decide +kernel
theorem d_By_close_126 : decode b_By_close 126 = .ok (.i2b, 1) := by decide +kernel
theorem d_By_close_127 : decode b_By_close 127 = .ok (.bastore, 1) := by decide +kernel
theorem d_By_close_128 : decode b_By_close 128 = .ok (.aload_n 0, 1) := by decide +kernel
theorem d_By_close_129 : decode b_By_close 129 = .ok (.dup, 1) := by decide +kernel
theorem d_By_close_130 : decode b_By_close 130 = .ok (.getfield 21, 3) := by decide +kernel
theorem d_By_close_133 : decode b_By_close 133 = .ok (.iload_n 3, 1) := by decide +kernel
theorem d_By_close_134 : decode b_By_close 134 = .ok (.iadd, 1) := by decide +kernel
theorem d_By_close_135 : decode b_By_close 135 = .ok (.putfield 21, 3) := by decide +kernel
theorem d_By_close_138 : decode b_By_close 138 = .ok (.return_, 1) := by decide +kernel
abbrev b_By_openField : ByteArray := prog_4_method_11_code
def y_By_openField : MethodName := ⟨R_By, "openField", "(I)I"⟩
abbrev k_By_openField : Cond := .code y_By_openField b_By_openField 2 (some .int)
theorem ki_By_openField : k_By_openField ∈ lw_tg := in_t 1242 (by decide +kernel)
theorem ks_By_openField : Cond.instanceMethod y_By_openField ∈ lw_tg := in_t 1240 (by decide +kernel)
theorem kx_By_openField : Cond.selects R_By y_By_openField y_By_openField ∈ lw_tg := in_t 1241 (by decide +kernel)
theorem kl_By_By_openField : Cond.methodLink R_By 46 y_By_openField ∈ lw_tg := in_t 1239 (by decide +kernel)
theorem kl_Ce_By_openField : Cond.methodLink R_Ce 275 y_By_openField ∈ lw_tg := in_t 1248 (by decide +kernel)
theorem kl_Va_By_openField : Cond.methodLink R_Va 177 y_By_openField ∈ lw_tg := in_t 1326 (by decide +kernel)
theorem kl_Ag_By_openField : Cond.methodLink R_Ag 169 y_By_openField ∈ lw_tg := in_t 1438 (by decide +kernel)
theorem kl_So_By_openField : Cond.methodLink R_So 116 y_By_openField ∈ lw_tg := in_t 1601 (by decide +kernel)
theorem hd_By_openField : y_By_openField.cls = R_By ∧ y_By_openField.cls ≠ "java/lang/invoke/MethodHandle" ∧ y_By_openField.cls ≠ "java/lang/invoke/VarHandle" ∧ (parseMethodDescriptor y_By_openField.desc).map (fun d => d.parameters.length) = some 1 := by decide +kernel
theorem d_By_openField_0 : decode b_By_openField 0 = .ok (.aload_n 0, 1) := by decide +kernel
theorem d_By_openField_1 : decode b_By_openField 1 = .ok (.sipush 160, 3) := by decide +kernel
theorem d_By_openField_4 : decode b_By_openField 4 = .ok (.iload_n 1, 1) := by decide +kernel
theorem d_By_openField_5 : decode b_By_openField 5 = .ok (.iadd, 1) := by decide +kernel
theorem d_By_openField_6 : decode b_By_openField 6 = .ok (.invokevirtual 39, 3) := by decide +kernel
theorem d_By_openField_9 : decode b_By_openField 9 = .ok (.ireturn, 1) := by decide +kernel
abbrev b_By_putValue : ByteArray := prog_4_method_12_code
def y_By_putValue : MethodName := ⟨R_By, "putValue", "(I[BII)V"⟩
abbrev k_By_putValue : Cond := .code y_By_putValue b_By_putValue 6 none
theorem ki_By_putValue : k_By_putValue ∈ lw_tg := in_t 790 (by decide +kernel)
theorem ks_By_putValue : Cond.instanceMethod y_By_putValue ∈ lw_tg := in_t 788 (by decide +kernel)
theorem kx_By_putValue : Cond.selects R_By y_By_putValue y_By_putValue ∈ lw_tg := in_t 789 (by decide +kernel)
theorem kl_H_By_putValue : Cond.methodLink R_H 318 y_By_putValue ∈ lw_tg := in_t 787 (by decide +kernel)
theorem kl_By_By_putValue : Cond.methodLink R_By 77 y_By_putValue ∈ lw_tg := in_t 1301 (by decide +kernel)
theorem kl_So_By_putValue : Cond.methodLink R_So 232 y_By_putValue ∈ lw_tg := in_t 1726 (by decide +kernel)
theorem hd_By_putValue : y_By_putValue.cls = R_By ∧ y_By_putValue.cls ≠ "java/lang/invoke/MethodHandle" ∧ y_By_putValue.cls ≠ "java/lang/invoke/VarHandle" ∧ (parseMethodDescriptor y_By_putValue.desc).map (fun d => d.parameters.length) = some 4 := by decide +kernel
theorem d_By_putValue_0 : decode b_By_putValue 0 = .ok (.aload_n 0, 1) := by decide +kernel
theorem d_By_putValue_1 : decode b_By_putValue 1 = .ok (.iload_n 1, 1) := by decide +kernel
theorem d_By_putValue_2 : decode b_By_putValue 2 = .ok (.invokevirtual 39, 3) := by decide +kernel
theorem d_By_putValue_5 : decode b_By_putValue 5 = .ok (.istore 5, 2) := by decide +kernel
theorem d_By_putValue_7 : decode b_By_putValue 7 = .ok (.aload_n 0, 1) := by decide +kernel
theorem d_By_putValue_8 : decode b_By_putValue 8 = .ok (.aload_n 2, 1) := by decide +kernel
theorem d_By_putValue_9 : decode b_By_putValue 9 = .ok (.iload_n 3, 1) := by decide +kernel
theorem d_By_putValue_10 : decode b_By_putValue 10 = .ok (.iload 4, 2) := by decide +kernel
theorem d_By_putValue_12 : decode b_By_putValue 12 = .ok (.invokevirtual 35, 3) := by decide +kernel
theorem d_By_putValue_15 : decode b_By_putValue 15 = .ok (.aload_n 0, 1) := by decide +kernel
theorem d_By_putValue_16 : decode b_By_putValue 16 = .ok (.iload 5, 2) := by decide +kernel
theorem d_By_putValue_18 : decode b_By_putValue 18 = .ok (.invokevirtual 43, 3) := by decide +kernel
theorem d_By_putValue_21 : decode b_By_putValue 21 = .ok (.return_, 1) := by decide +kernel
abbrev b_By_putNumber : ByteArray := prog_4_method_13_code
def y_By_putNumber : MethodName := ⟨R_By, "putNumber", "(IJ)V"⟩
abbrev k_By_putNumber : Cond := .code y_By_putNumber b_By_putNumber 5 none
theorem ki_By_putNumber : k_By_putNumber ∈ lw_tg := in_t 1238 (by decide +kernel)
theorem ks_By_putNumber : Cond.instanceMethod y_By_putNumber ∈ lw_tg := in_t 1236 (by decide +kernel)
theorem kx_By_putNumber : Cond.selects R_By y_By_putNumber y_By_putNumber ∈ lw_tg := in_t 1237 (by decide +kernel)
theorem kl_Ce_By_putNumber : Cond.methodLink R_Ce 271 y_By_putNumber ∈ lw_tg := in_t 1235 (by decide +kernel)
theorem kl_By_By_putNumber : Cond.methodLink R_By 81 y_By_putNumber ∈ lw_tg := in_t 1296 (by decide +kernel)
theorem kl_Va_By_putNumber : Cond.methodLink R_Va 173 y_By_putNumber ∈ lw_tg := in_t 1325 (by decide +kernel)
theorem kl_Ag_By_putNumber : Cond.methodLink R_Ag 165 y_By_putNumber ∈ lw_tg := in_t 1437 (by decide +kernel)
theorem kl_So_By_putNumber : Cond.methodLink R_So 104 y_By_putNumber ∈ lw_tg := in_t 1597 (by decide +kernel)
theorem hd_By_putNumber : y_By_putNumber.cls = R_By ∧ y_By_putNumber.cls ≠ "java/lang/invoke/MethodHandle" ∧ y_By_putNumber.cls ≠ "java/lang/invoke/VarHandle" ∧ (parseMethodDescriptor y_By_putNumber.desc).map (fun d => d.parameters.length) = some 2 := by decide +kernel
theorem d_By_putNumber_0 : decode b_By_putNumber 0 = .ok (.aload_n 0, 1) := by decide +kernel
theorem d_By_putNumber_1 : decode b_By_putNumber 1 = .ok (.iload_n 1, 1) := by decide +kernel
theorem d_By_putNumber_2 : decode b_By_putNumber 2 = .ok (.invokevirtual 46, 3) := by decide +kernel
theorem d_By_putNumber_5 : decode b_By_putNumber 5 = .ok (.istore 4, 2) := by decide +kernel
theorem d_By_putNumber_7 : decode b_By_putNumber 7 = .ok (.aload_n 0, 1) := by decide +kernel
theorem d_By_putNumber_8 : decode b_By_putNumber 8 = .ok (.lload_n 2, 1) := by decide +kernel
theorem d_By_putNumber_9 : decode b_By_putNumber 9 = .ok (.invokevirtual 49, 3) := by decide +kernel
theorem d_By_putNumber_12 : decode b_By_putNumber 12 = .ok (.aload_n 0, 1) := by decide +kernel
theorem d_By_putNumber_13 : decode b_By_putNumber 13 = .ok (.iload 4, 2) := by decide +kernel
theorem d_By_putNumber_15 : decode b_By_putNumber 15 = .ok (.invokevirtual 43, 3) := by decide +kernel
theorem d_By_putNumber_18 : decode b_By_putNumber 18 = .ok (.return_, 1) := by decide +kernel
abbrev b_By_putInteger : ByteArray := prog_4_method_14_code
def y_By_putInteger : MethodName := ⟨R_By, "putInteger", "(J)V"⟩
abbrev k_By_putInteger : Cond := .code y_By_putInteger b_By_putInteger 5 none
theorem ki_By_putInteger : k_By_putInteger ∈ lw_tg := in_t 1246 (by decide +kernel)
theorem ks_By_putInteger : Cond.instanceMethod y_By_putInteger ∈ lw_tg := in_t 1244 (by decide +kernel)
theorem kx_By_putInteger : Cond.selects R_By y_By_putInteger y_By_putInteger ∈ lw_tg := in_t 1245 (by decide +kernel)
theorem kl_By_By_putInteger : Cond.methodLink R_By 49 y_By_putInteger ∈ lw_tg := in_t 1243 (by decide +kernel)
theorem kl_Ag_By_putInteger : Cond.methodLink R_Ag 172 y_By_putInteger ∈ lw_tg := in_t 1439 (by decide +kernel)
theorem hd_By_putInteger : y_By_putInteger.cls = R_By ∧ y_By_putInteger.cls ≠ "java/lang/invoke/MethodHandle" ∧ y_By_putInteger.cls ≠ "java/lang/invoke/VarHandle" ∧ (parseMethodDescriptor y_By_putInteger.desc).map (fun d => d.parameters.length) = some 1 := by decide +kernel
theorem d_By_putInteger_0 : decode b_By_putInteger 0 = .ok (.iconst 1, 1) := by decide +kernel
theorem d_By_putInteger_1 : decode b_By_putInteger 1 = .ok (.istore_n 3, 1) := by decide +kernel
theorem d_By_putInteger_2 : decode b_By_putInteger 2 = .ok (.iload_n 3, 1) := by decide +kernel
theorem d_By_putInteger_3 : decode b_By_putInteger 3 = .ok (.bipush 8, 2) := by decide +kernel
theorem d_By_putInteger_5 : decode b_By_putInteger 5 = .ok (.if_icmp .ge 37, 3) := by decide +kernel
theorem d_By_putInteger_8 : decode b_By_putInteger 8 = .ok (.lload_n 1, 1) := by decide +kernel
theorem d_By_putInteger_9 : decode b_By_putInteger 9 = .ok (.bipush 8, 2) := by decide +kernel
theorem d_By_putInteger_11 : decode b_By_putInteger 11 = .ok (.iload_n 3, 1) := by decide +kernel
theorem d_By_putInteger_12 : decode b_By_putInteger 12 = .ok (.imul, 1) := by decide +kernel
theorem d_By_putInteger_13 : decode b_By_putInteger 13 = .ok (.iconst 1, 1) := by decide +kernel
theorem d_By_putInteger_14 : decode b_By_putInteger 14 = .ok (.isub, 1) := by decide +kernel
theorem d_By_putInteger_15 : decode b_By_putInteger 15 = .ok (.lshr, 1) := by decide +kernel
theorem d_By_putInteger_16 : decode b_By_putInteger 16 = .ok (.lconst 0, 1) := by decide +kernel
theorem d_By_putInteger_17 : decode b_By_putInteger 17 = .ok (.lcmp, 1) := by decide +kernel
theorem d_By_putInteger_18 : decode b_By_putInteger 18 = .ok (.ifCond .eq 24, 3) := by decide +kernel
theorem d_By_putInteger_21 : decode b_By_putInteger 21 = .ok (.lload_n 1, 1) := by decide +kernel
theorem d_By_putInteger_22 : decode b_By_putInteger 22 = .ok (.bipush 8, 2) := by decide +kernel
theorem d_By_putInteger_24 : decode b_By_putInteger 24 = .ok (.iload_n 3, 1) := by decide +kernel
theorem d_By_putInteger_25 : decode b_By_putInteger 25 = .ok (.imul, 1) := by decide +kernel
theorem d_By_putInteger_26 : decode b_By_putInteger 26 = .ok (.iconst 1, 1) := by decide +kernel
theorem d_By_putInteger_27 : decode b_By_putInteger 27 = .ok (.isub, 1) := by decide +kernel
theorem d_By_putInteger_28 : decode b_By_putInteger 28 = .ok (.lshr, 1) := by decide +kernel
theorem d_By_putInteger_29 : decode b_By_putInteger 29 = .ok (.ldc2_w 53, 3) := by decide +kernel
theorem d_By_putInteger_32 : decode b_By_putInteger 32 = .ok (.lcmp, 1) := by decide +kernel
theorem d_By_putInteger_33 : decode b_By_putInteger 33 = .ok (.ifCond .eq 9, 3) := by decide +kernel
theorem d_By_putInteger_36 : decode b_By_putInteger 36 = .ok (.iinc 3 1, 3) := by decide +kernel
theorem d_By_putInteger_39 : decode b_By_putInteger 39 = .ok (.goto (-37), 3) := by decide +kernel
theorem d_By_putInteger_42 : decode b_By_putInteger 42 = .ok (.aload_n 0, 1) := by decide +kernel
theorem d_By_putInteger_43 : decode b_By_putInteger 43 = .ok (.iconst 2, 1) := by decide +kernel
theorem d_By_putInteger_44 : decode b_By_putInteger 44 = .ok (.invokevirtual 25, 3) := by decide +kernel
theorem d_By_putInteger_47 : decode b_By_putInteger 47 = .ok (.aload_n 0, 1) := by decide +kernel
theorem d_By_putInteger_48 : decode b_By_putInteger 48 = .ok (.iload_n 3, 1) := by decide +kernel
theorem d_By_putInteger_49 : decode b_By_putInteger 49 = .ok (.invokevirtual 25, 3) := by decide +kernel
theorem d_By_putInteger_52 : decode b_By_putInteger 52 = .ok (.iload_n 3, 1) := by decide +kernel
theorem d_By_putInteger_53 : decode b_By_putInteger 53 = .ok (.iconst 1, 1) := by decide +kernel
theorem d_By_putInteger_54 : decode b_By_putInteger 54 = .ok (.isub, 1) := by decide +kernel
theorem d_By_putInteger_55 : decode b_By_putInteger 55 = .ok (.istore 4, 2) := by decide +kernel
theorem d_By_putInteger_57 : decode b_By_putInteger 57 = .ok (.iload 4, 2) := by decide +kernel
theorem d_By_putInteger_59 : decode b_By_putInteger 59 = .ok (.ifCond .lt 21, 3) := by decide +kernel
theorem d_By_putInteger_62 : decode b_By_putInteger 62 = .ok (.aload_n 0, 1) := by decide +kernel
theorem d_By_putInteger_63 : decode b_By_putInteger 63 = .ok (.lload_n 1, 1) := by decide +kernel
theorem d_By_putInteger_64 : decode b_By_putInteger 64 = .ok (.bipush 8, 2) := by decide +kernel
theorem d_By_putInteger_66 : decode b_By_putInteger 66 = .ok (.iload 4, 2) := by decide +kernel
theorem d_By_putInteger_68 : decode b_By_putInteger 68 = .ok (.imul, 1) := by decide +kernel
theorem d_By_putInteger_69 : decode b_By_putInteger 69 = .ok (.lshr, 1) := by decide +kernel
theorem d_By_putInteger_70 : decode b_By_putInteger 70 = .ok (.l2i, 1) := by decide +kernel
theorem d_By_putInteger_71 : decode b_By_putInteger 71 = .ok (.invokevirtual 25, 3) := by decide +kernel
theorem d_By_putInteger_74 : decode b_By_putInteger 74 = .ok (.iinc 4 (-1), 3) := by decide +kernel
theorem d_By_putInteger_77 : decode b_By_putInteger 77 = .ok (.goto (-20), 3) := by decide +kernel
theorem d_By_putInteger_80 : decode b_By_putInteger 80 = .ok (.return_, 1) := by decide +kernel
abbrev b_By_putLetters : ByteArray := prog_4_method_15_code
def y_By_putLetters : MethodName := ⟨R_By, "putLetters", "(Ljava/lang/String;)V"⟩
abbrev k_By_putLetters : Cond := .code y_By_putLetters b_By_putLetters 3 none
theorem ki_By_putLetters : k_By_putLetters ∈ lw_tg := in_t 488 (by decide +kernel)
theorem ks_By_putLetters : Cond.instanceMethod y_By_putLetters ∈ lw_tg := in_t 486 (by decide +kernel)
theorem kx_By_putLetters : Cond.selects R_By y_By_putLetters y_By_putLetters ∈ lw_tg := in_t 487 (by decide +kernel)
theorem kl_By_By_putLetters : Cond.methodLink R_By 65 y_By_putLetters ∈ lw_tg := in_t 485 (by decide +kernel)
theorem kl_Va_By_putLetters : Cond.methodLink R_Va 134 y_By_putLetters ∈ lw_tg := in_t 574 (by decide +kernel)
theorem hd_By_putLetters : y_By_putLetters.cls = R_By ∧ y_By_putLetters.cls ≠ "java/lang/invoke/MethodHandle" ∧ y_By_putLetters.cls ≠ "java/lang/invoke/VarHandle" ∧ (parseMethodDescriptor y_By_putLetters.desc).map (fun d => d.parameters.length) = some 1 := by decide +kernel
theorem d_By_putLetters_0 : decode b_By_putLetters 0 = .ok (.iconst 0, 1) := by decide +kernel
theorem d_By_putLetters_1 : decode b_By_putLetters 1 = .ok (.istore_n 2, 1) := by decide +kernel
theorem d_By_putLetters_2 : decode b_By_putLetters 2 = .ok (.iload_n 2, 1) := by decide +kernel
theorem d_By_putLetters_3 : decode b_By_putLetters 3 = .ok (.aload_n 1, 1) := by decide +kernel
theorem d_By_putLetters_4 : decode b_By_putLetters 4 = .ok (.invokevirtual 55, 3) := by decide +kernel
theorem d_By_putLetters_7 : decode b_By_putLetters 7 = .ok (.if_icmp .ge 18, 3) := by decide +kernel
theorem d_By_putLetters_10 : decode b_By_putLetters 10 = .ok (.aload_n 0, 1) := by decide +kernel
theorem d_By_putLetters_11 : decode b_By_putLetters 11 = .ok (.aload_n 1, 1) := by decide +kernel
theorem d_By_putLetters_12 : decode b_By_putLetters 12 = .ok (.iload_n 2, 1) := by decide +kernel
theorem d_By_putLetters_13 : decode b_By_putLetters 13 = .ok (.invokevirtual 61, 3) := by decide +kernel
theorem d_By_putLetters_16 : decode b_By_putLetters 16 = .ok (.invokevirtual 25, 3) := by decide +kernel
theorem d_By_putLetters_19 : decode b_By_putLetters 19 = .ok (.iinc 2 1, 3) := by decide +kernel
theorem d_By_putLetters_22 : decode b_By_putLetters 22 = .ok (.goto (-20), 3) := by decide +kernel
theorem d_By_putLetters_25 : decode b_By_putLetters 25 = .ok (.return_, 1) := by decide +kernel
abbrev b_By_putText : ByteArray := prog_4_method_16_code
def y_By_putText : MethodName := ⟨R_By, "putText", "(Ljava/lang/String;)V"⟩
abbrev k_By_putText : Cond := .code y_By_putText b_By_putText 3 none
theorem ki_By_putText : k_By_putText ∈ lw_tg := in_t 480 (by decide +kernel)
theorem ks_By_putText : Cond.instanceMethod y_By_putText ∈ lw_tg := in_t 478 (by decide +kernel)
theorem kx_By_putText : Cond.selects R_By y_By_putText y_By_putText ∈ lw_tg := in_t 479 (by decide +kernel)
theorem kl_H_By_putText : Cond.methodLink R_H 324 y_By_putText ∈ lw_tg := in_t 477 (by decide +kernel)
theorem kl_By_By_putText : Cond.methodLink R_By 71 y_By_putText ∈ lw_tg := in_t 1269 (by decide +kernel)
theorem hd_By_putText : y_By_putText.cls = R_By ∧ y_By_putText.cls ≠ "java/lang/invoke/MethodHandle" ∧ y_By_putText.cls ≠ "java/lang/invoke/VarHandle" ∧ (parseMethodDescriptor y_By_putText.desc).map (fun d => d.parameters.length) = some 1 := by decide +kernel
theorem d_By_putText_0 : decode b_By_putText 0 = .ok (.aload_n 0, 1) := by decide +kernel
theorem d_By_putText_1 : decode b_By_putText 1 = .ok (.bipush 27, 2) := by decide +kernel
theorem d_By_putText_3 : decode b_By_putText 3 = .ok (.invokevirtual 39, 3) := by decide +kernel
theorem d_By_putText_6 : decode b_By_putText 6 = .ok (.istore_n 2, 1) := by decide +kernel
theorem d_By_putText_7 : decode b_By_putText 7 = .ok (.aload_n 0, 1) := by decide +kernel
theorem d_By_putText_8 : decode b_By_putText 8 = .ok (.aload_n 1, 1) := by decide +kernel
theorem d_By_putText_9 : decode b_By_putText 9 = .ok (.invokevirtual 65, 3) := by decide +kernel
theorem d_By_putText_12 : decode b_By_putText 12 = .ok (.aload_n 0, 1) := by decide +kernel
theorem d_By_putText_13 : decode b_By_putText 13 = .ok (.iload_n 2, 1) := by decide +kernel
theorem d_By_putText_14 : decode b_By_putText 14 = .ok (.invokevirtual 43, 3) := by decide +kernel
theorem d_By_putText_17 : decode b_By_putText 17 = .ok (.return_, 1) := by decide +kernel
abbrev b_By_putRealm : ByteArray := prog_4_method_17_code
def y_By_putRealm : MethodName := ⟨R_By, "putRealm", "(I)V"⟩
abbrev k_By_putRealm : Cond := .code y_By_putRealm b_By_putRealm 3 none
theorem ki_By_putRealm : k_By_putRealm ∈ lw_tg := in_t 1268 (by decide +kernel)
theorem ks_By_putRealm : Cond.instanceMethod y_By_putRealm ∈ lw_tg := in_t 1266 (by decide +kernel)
theorem kx_By_putRealm : Cond.selects R_By y_By_putRealm y_By_putRealm ∈ lw_tg := in_t 1267 (by decide +kernel)
theorem kl_Ce_By_putRealm : Cond.methodLink R_Ce 285 y_By_putRealm ∈ lw_tg := in_t 1265 (by decide +kernel)
theorem kl_Ag_By_putRealm : Cond.methodLink R_Ag 155 y_By_putRealm ∈ lw_tg := in_t 1427 (by decide +kernel)
theorem kl_H_By_putRealm : Cond.methodLink R_H 337 y_By_putRealm ∈ lw_tg := in_t 1573 (by decide +kernel)
theorem kl_Ti_By_putRealm : Cond.methodLink R_Ti 100 y_By_putRealm ∈ lw_tg := in_t 1719 (by decide +kernel)
theorem hd_By_putRealm : y_By_putRealm.cls = R_By ∧ y_By_putRealm.cls ≠ "java/lang/invoke/MethodHandle" ∧ y_By_putRealm.cls ≠ "java/lang/invoke/VarHandle" ∧ (parseMethodDescriptor y_By_putRealm.desc).map (fun d => d.parameters.length) = some 1 := by decide +kernel
theorem d_By_putRealm_0 : decode b_By_putRealm 0 = .ok (.aload_n 0, 1) := by decide +kernel
theorem d_By_putRealm_1 : decode b_By_putRealm 1 = .ok (.iload_n 1, 1) := by decide +kernel
theorem d_By_putRealm_2 : decode b_By_putRealm 2 = .ok (.invokevirtual 46, 3) := by decide +kernel
theorem d_By_putRealm_5 : decode b_By_putRealm 5 = .ok (.istore_n 2, 1) := by decide +kernel
theorem d_By_putRealm_6 : decode b_By_putRealm 6 = .ok (.aload_n 0, 1) := by decide +kernel
theorem d_By_putRealm_7 : decode b_By_putRealm 7 = .ok (.ldc 69, 2) := by decide +kernel
theorem d_By_putRealm_9 : decode b_By_putRealm 9 = .ok (.invokevirtual 71, 3) := by decide +kernel
theorem d_By_putRealm_12 : decode b_By_putRealm 12 = .ok (.aload_n 0, 1) := by decide +kernel
theorem d_By_putRealm_13 : decode b_By_putRealm 13 = .ok (.iload_n 2, 1) := by decide +kernel
theorem d_By_putRealm_14 : decode b_By_putRealm 14 = .ok (.invokevirtual 43, 3) := by decide +kernel
theorem d_By_putRealm_17 : decode b_By_putRealm 17 = .ok (.return_, 1) := by decide +kernel
abbrev b_By_putBits : ByteArray := prog_4_method_18_code
def y_By_putBits : MethodName := ⟨R_By, "putBits", "(II)V"⟩
abbrev k_By_putBits : Cond := .code y_By_putBits b_By_putBits 4 none
theorem ki_By_putBits : k_By_putBits ∈ lw_tg := in_t 1285 (by decide +kernel)
theorem ks_By_putBits : Cond.instanceMethod y_By_putBits ∈ lw_tg := in_t 1283 (by decide +kernel)
theorem kx_By_putBits : Cond.selects R_By y_By_putBits y_By_putBits ∈ lw_tg := in_t 1284 (by decide +kernel)
theorem kl_Ce_By_putBits : Cond.methodLink R_Ce 310 y_By_putBits ∈ lw_tg := in_t 1282 (by decide +kernel)
theorem kl_Ag_By_putBits : Cond.methodLink R_Ag 147 y_By_putBits ∈ lw_tg := in_t 1425 (by decide +kernel)
theorem kl_Ti_By_putBits : Cond.methodLink R_Ti 107 y_By_putBits ∈ lw_tg := in_t 1721 (by decide +kernel)
theorem hd_By_putBits : y_By_putBits.cls = R_By ∧ y_By_putBits.cls ≠ "java/lang/invoke/MethodHandle" ∧ y_By_putBits.cls ≠ "java/lang/invoke/VarHandle" ∧ (parseMethodDescriptor y_By_putBits.desc).map (fun d => d.parameters.length) = some 2 := by decide +kernel
theorem d_By_putBits_0 : decode b_By_putBits 0 = .ok (.aload_n 0, 1) := by decide +kernel
theorem d_By_putBits_1 : decode b_By_putBits 1 = .ok (.iload_n 1, 1) := by decide +kernel
theorem d_By_putBits_2 : decode b_By_putBits 2 = .ok (.invokevirtual 46, 3) := by decide +kernel
theorem d_By_putBits_5 : decode b_By_putBits 5 = .ok (.istore_n 3, 1) := by decide +kernel
theorem d_By_putBits_6 : decode b_By_putBits 6 = .ok (.aload_n 0, 1) := by decide +kernel
theorem d_By_putBits_7 : decode b_By_putBits 7 = .ok (.iconst 3, 1) := by decide +kernel
theorem d_By_putBits_8 : decode b_By_putBits 8 = .ok (.invokevirtual 25, 3) := by decide +kernel
theorem d_By_putBits_11 : decode b_By_putBits 11 = .ok (.aload_n 0, 1) := by decide +kernel
theorem d_By_putBits_12 : decode b_By_putBits 12 = .ok (.iconst 5, 1) := by decide +kernel
theorem d_By_putBits_13 : decode b_By_putBits 13 = .ok (.invokevirtual 25, 3) := by decide +kernel
theorem d_By_putBits_16 : decode b_By_putBits 16 = .ok (.aload_n 0, 1) := by decide +kernel
theorem d_By_putBits_17 : decode b_By_putBits 17 = .ok (.iconst 0, 1) := by decide +kernel
theorem d_By_putBits_18 : decode b_By_putBits 18 = .ok (.invokevirtual 25, 3) := by decide +kernel
theorem d_By_putBits_21 : decode b_By_putBits 21 = .ok (.aload_n 0, 1) := by decide +kernel
theorem d_By_putBits_22 : decode b_By_putBits 22 = .ok (.iload_n 2, 1) := by decide +kernel
theorem d_By_putBits_23 : decode b_By_putBits 23 = .ok (.invokevirtual 74, 3) := by decide +kernel
theorem d_By_putBits_26 : decode b_By_putBits 26 = .ok (.aload_n 0, 1) := by decide +kernel
theorem d_By_putBits_27 : decode b_By_putBits 27 = .ok (.iload_n 3, 1) := by decide +kernel
theorem d_By_putBits_28 : decode b_By_putBits 28 = .ok (.invokevirtual 43, 3) := by decide +kernel
theorem d_By_putBits_31 : decode b_By_putBits 31 = .ok (.return_, 1) := by decide +kernel
abbrev b_By_putOctets : ByteArray := prog_4_method_19_code
def y_By_putOctets : MethodName := ⟨R_By, "putOctets", "(I[BII)V"⟩
abbrev k_By_putOctets : Cond := .code y_By_putOctets b_By_putOctets 6 none
theorem ki_By_putOctets : k_By_putOctets ∈ lw_tg := in_t 1300 (by decide +kernel)
theorem ks_By_putOctets : Cond.instanceMethod y_By_putOctets ∈ lw_tg := in_t 1298 (by decide +kernel)
theorem kx_By_putOctets : Cond.selects R_By y_By_putOctets y_By_putOctets ∈ lw_tg := in_t 1299 (by decide +kernel)
theorem kl_By_By_putOctets : Cond.methodLink R_By 85 y_By_putOctets ∈ lw_tg := in_t 1297 (by decide +kernel)
theorem kl_Ce_By_putOctets : Cond.methodLink R_Ce 375 y_By_putOctets ∈ lw_tg := in_t 1363 (by decide +kernel)
theorem kl_So_By_putOctets : Cond.methodLink R_So 144 y_By_putOctets ∈ lw_tg := in_t 1649 (by decide +kernel)
theorem hd_By_putOctets : y_By_putOctets.cls = R_By ∧ y_By_putOctets.cls ≠ "java/lang/invoke/MethodHandle" ∧ y_By_putOctets.cls ≠ "java/lang/invoke/VarHandle" ∧ (parseMethodDescriptor y_By_putOctets.desc).map (fun d => d.parameters.length) = some 4 := by decide +kernel
theorem d_By_putOctets_0 : decode b_By_putOctets 0 = .ok (.aload_n 0, 1) := by decide +kernel
theorem d_By_putOctets_1 : decode b_By_putOctets 1 = .ok (.iload_n 1, 1) := by decide +kernel
theorem d_By_putOctets_2 : decode b_By_putOctets 2 = .ok (.invokevirtual 46, 3) := by decide +kernel
theorem d_By_putOctets_5 : decode b_By_putOctets 5 = .ok (.istore 5, 2) := by decide +kernel
theorem d_By_putOctets_7 : decode b_By_putOctets 7 = .ok (.aload_n 0, 1) := by decide +kernel
theorem d_By_putOctets_8 : decode b_By_putOctets 8 = .ok (.iconst 4, 1) := by decide +kernel
theorem d_By_putOctets_9 : decode b_By_putOctets 9 = .ok (.aload_n 2, 1) := by decide +kernel
theorem d_By_putOctets_10 : decode b_By_putOctets 10 = .ok (.iload_n 3, 1) := by decide +kernel
theorem d_By_putOctets_11 : decode b_By_putOctets 11 = .ok (.iload 4, 2) := by decide +kernel
theorem d_By_putOctets_13 : decode b_By_putOctets 13 = .ok (.invokevirtual 77, 3) := by decide +kernel
theorem d_By_putOctets_16 : decode b_By_putOctets 16 = .ok (.aload_n 0, 1) := by decide +kernel
theorem d_By_putOctets_17 : decode b_By_putOctets 17 = .ok (.iload 5, 2) := by decide +kernel
theorem d_By_putOctets_19 : decode b_By_putOctets 19 = .ok (.invokevirtual 43, 3) := by decide +kernel
theorem d_By_putOctets_22 : decode b_By_putOctets 22 = .ok (.return_, 1) := by decide +kernel
abbrev b_By_putPair : ByteArray := prog_4_method_20_code
def y_By_putPair : MethodName := ⟨R_By, "putPair", "(II[BI)V"⟩
abbrev k_By_putPair : Cond := .code y_By_putPair b_By_putPair 7 none
theorem ki_By_putPair : k_By_putPair ∈ lw_tg := in_t 1295 (by decide +kernel)
theorem ks_By_putPair : Cond.instanceMethod y_By_putPair ∈ lw_tg := in_t 1293 (by decide +kernel)
theorem kx_By_putPair : Cond.selects R_By y_By_putPair y_By_putPair ∈ lw_tg := in_t 1294 (by decide +kernel)
theorem kl_By_By_putPair : Cond.methodLink R_By 94 y_By_putPair ∈ lw_tg := in_t 1292 (by decide +kernel)
theorem kl_Ce_By_putPair : Cond.methodLink R_Ce 320 y_By_putPair ∈ lw_tg := in_t 1303 (by decide +kernel)
theorem kl_Va_By_putPair : Cond.methodLink R_Va 206 y_By_putPair ∈ lw_tg := in_t 1467 (by decide +kernel)
theorem kl_So_By_putPair : Cond.methodLink R_So 150 y_By_putPair ∈ lw_tg := in_t 1651 (by decide +kernel)
theorem hd_By_putPair : y_By_putPair.cls = R_By ∧ y_By_putPair.cls ≠ "java/lang/invoke/MethodHandle" ∧ y_By_putPair.cls ≠ "java/lang/invoke/VarHandle" ∧ (parseMethodDescriptor y_By_putPair.desc).map (fun d => d.parameters.length) = some 4 := by decide +kernel
theorem d_By_putPair_0 : decode b_By_putPair 0 = .ok (.aload_n 0, 1) := by decide +kernel
theorem d_By_putPair_1 : decode b_By_putPair 1 = .ok (.iload_n 1, 1) := by decide +kernel
theorem d_By_putPair_2 : decode b_By_putPair 2 = .ok (.invokevirtual 46, 3) := by decide +kernel
theorem d_By_putPair_5 : decode b_By_putPair 5 = .ok (.istore 5, 2) := by decide +kernel
theorem d_By_putPair_7 : decode b_By_putPair 7 = .ok (.aload_n 0, 1) := by decide +kernel
theorem d_By_putPair_8 : decode b_By_putPair 8 = .ok (.bipush 48, 2) := by decide +kernel
theorem d_By_putPair_10 : decode b_By_putPair 10 = .ok (.invokevirtual 39, 3) := by decide +kernel
theorem d_By_putPair_13 : decode b_By_putPair 13 = .ok (.istore 6, 2) := by decide +kernel
theorem d_By_putPair_15 : decode b_By_putPair 15 = .ok (.aload_n 0, 1) := by decide +kernel
theorem d_By_putPair_16 : decode b_By_putPair 16 = .ok (.iconst 0, 1) := by decide +kernel
theorem d_By_putPair_17 : decode b_By_putPair 17 = .ok (.iload_n 2, 1) := by decide +kernel
theorem d_By_putPair_18 : decode b_By_putPair 18 = .ok (.i2l, 1) := by decide +kernel
theorem d_By_putPair_19 : decode b_By_putPair 19 = .ok (.invokevirtual 81, 3) := by decide +kernel
theorem d_By_putPair_22 : decode b_By_putPair 22 = .ok (.aload_n 0, 1) := by decide +kernel
theorem d_By_putPair_23 : decode b_By_putPair 23 = .ok (.iconst 1, 1) := by decide +kernel
theorem d_By_putPair_24 : decode b_By_putPair 24 = .ok (.aload_n 3, 1) := by decide +kernel
theorem d_By_putPair_25 : decode b_By_putPair 25 = .ok (.iconst 0, 1) := by decide +kernel
theorem d_By_putPair_26 : decode b_By_putPair 26 = .ok (.iload 4, 2) := by decide +kernel
theorem d_By_putPair_28 : decode b_By_putPair 28 = .ok (.invokevirtual 85, 3) := by decide +kernel
theorem d_By_putPair_31 : decode b_By_putPair 31 = .ok (.aload_n 0, 1) := by decide +kernel
theorem d_By_putPair_32 : decode b_By_putPair 32 = .ok (.iload 6, 2) := by decide +kernel
theorem d_By_putPair_34 : decode b_By_putPair 34 = .ok (.invokevirtual 43, 3) := by decide +kernel
theorem d_By_putPair_37 : decode b_By_putPair 37 = .ok (.aload_n 0, 1) := by decide +kernel
theorem d_By_putPair_38 : decode b_By_putPair 38 = .ok (.iload 5, 2) := by decide +kernel
theorem d_By_putPair_40 : decode b_By_putPair 40 = .ok (.invokevirtual 43, 3) := by decide +kernel
theorem d_By_putPair_43 : decode b_By_putPair 43 = .ok (.return_, 1) := by decide +kernel
abbrev b_By_putKey : ByteArray := prog_4_method_21_code
def y_By_putKey : MethodName := ⟨R_By, "putKey", "(I[B)V"⟩
abbrev k_By_putKey : Cond := .code y_By_putKey b_By_putKey 3 none
theorem ki_By_putKey : k_By_putKey ∈ lw_tg := in_t 1290 (by decide +kernel)
theorem ks_By_putKey : Cond.instanceMethod y_By_putKey ∈ lw_tg := in_t 1288 (by decide +kernel)
theorem kx_By_putKey : Cond.selects R_By y_By_putKey y_By_putKey ∈ lw_tg := in_t 1289 (by decide +kernel)
theorem kl_Ce_By_putKey : Cond.methodLink R_Ce 313 y_By_putKey ∈ lw_tg := in_t 1287 (by decide +kernel)
theorem kl_Ag_By_putKey : Cond.methodLink R_Ag 222 y_By_putKey ∈ lw_tg := in_t 1468 (by decide +kernel)
theorem kl_Ti_By_putKey : Cond.methodLink R_Ti 96 y_By_putKey ∈ lw_tg := in_t 1718 (by decide +kernel)
theorem hd_By_putKey : y_By_putKey.cls = R_By ∧ y_By_putKey.cls ≠ "java/lang/invoke/MethodHandle" ∧ y_By_putKey.cls ≠ "java/lang/invoke/VarHandle" ∧ (parseMethodDescriptor y_By_putKey.desc).map (fun d => d.parameters.length) = some 2 := by decide +kernel
theorem d_By_putKey_0 : decode b_By_putKey 0 = .ok (.aload_n 0, 1) := by decide +kernel
theorem d_By_putKey_1 : decode b_By_putKey 1 = .ok (.iload_n 1, 1) := by decide +kernel
theorem d_By_putKey_2 : decode b_By_putKey 2 = .ok (.aload_n 2, 1) := by decide +kernel
theorem d_By_putKey_3 : decode b_By_putKey 3 = .ok (.invokestatic 88, 3) := by decide +kernel
theorem d_By_putKey_6 : decode b_By_putKey 6 = .ok (.aload_n 2, 1) := by decide +kernel
theorem d_By_putKey_7 : decode b_By_putKey 7 = .ok (.aload_n 2, 1) := by decide +kernel
theorem d_By_putKey_8 : decode b_By_putKey 8 = .ok (.arraylength, 1) := by decide +kernel
theorem d_By_putKey_9 : decode b_By_putKey 9 = .ok (.invokevirtual 94, 3) := by decide +kernel
theorem d_By_putKey_12 : decode b_By_putKey 12 = .ok (.return_, 1) := by decide +kernel
abbrev b_By_putName : ByteArray := prog_4_method_22_code
def y_By_putName : MethodName := ⟨R_By, "putName", "(IILRealmHouse$Bytes;)V"⟩
abbrev k_By_putName : Cond := .code y_By_putName b_By_putName 7 none
theorem ki_By_putName : k_By_putName ∈ lw_tg := in_t 1357 (by decide +kernel)
theorem ks_By_putName : Cond.instanceMethod y_By_putName ∈ lw_tg := in_t 1355 (by decide +kernel)
theorem kx_By_putName : Cond.selects R_By y_By_putName y_By_putName ∈ lw_tg := in_t 1356 (by decide +kernel)
theorem kl_Ce_By_putName : Cond.methodLink R_Ce 366 y_By_putName ∈ lw_tg := in_t 1354 (by decide +kernel)
theorem kl_Ag_By_putName : Cond.methodLink R_Ag 151 y_By_putName ∈ lw_tg := in_t 1426 (by decide +kernel)
theorem kl_H_By_putName : Cond.methodLink R_H 343 y_By_putName ∈ lw_tg := in_t 1574 (by decide +kernel)
theorem kl_Ti_By_putName : Cond.methodLink R_Ti 103 y_By_putName ∈ lw_tg := in_t 1720 (by decide +kernel)
theorem hd_By_putName : y_By_putName.cls = R_By ∧ y_By_putName.cls ≠ "java/lang/invoke/MethodHandle" ∧ y_By_putName.cls ≠ "java/lang/invoke/VarHandle" ∧ (parseMethodDescriptor y_By_putName.desc).map (fun d => d.parameters.length) = some 3 := by decide +kernel
theorem d_By_putName_0 : decode b_By_putName 0 = .ok (.aload_n 0, 1) := by decide +kernel
theorem d_By_putName_1 : decode b_By_putName 1 = .ok (.iload_n 1, 1) := by decide +kernel
theorem d_By_putName_2 : decode b_By_putName 2 = .ok (.invokevirtual 46, 3) := by decide +kernel
theorem d_By_putName_5 : decode b_By_putName 5 = .ok (.istore 4, 2) := by decide +kernel
theorem d_By_putName_7 : decode b_By_putName 7 = .ok (.aload_n 0, 1) := by decide +kernel
theorem d_By_putName_8 : decode b_By_putName 8 = .ok (.bipush 48, 2) := by decide +kernel
theorem d_By_putName_10 : decode b_By_putName 10 = .ok (.invokevirtual 39, 3) := by decide +kernel
theorem d_By_putName_13 : decode b_By_putName 13 = .ok (.istore 5, 2) := by decide +kernel
theorem d_By_putName_15 : decode b_By_putName 15 = .ok (.aload_n 0, 1) := by decide +kernel
theorem d_By_putName_16 : decode b_By_putName 16 = .ok (.iconst 0, 1) := by decide +kernel
theorem d_By_putName_17 : decode b_By_putName 17 = .ok (.iload_n 2, 1) := by decide +kernel
theorem d_By_putName_18 : decode b_By_putName 18 = .ok (.i2l, 1) := by decide +kernel
theorem d_By_putName_19 : decode b_By_putName 19 = .ok (.invokevirtual 81, 3) := by decide +kernel
theorem d_By_putName_22 : decode b_By_putName 22 = .ok (.aload_n 0, 1) := by decide +kernel
theorem d_By_putName_23 : decode b_By_putName 23 = .ok (.iconst 1, 1) := by decide +kernel
theorem d_By_putName_24 : decode b_By_putName 24 = .ok (.invokevirtual 46, 3) := by decide +kernel
theorem d_By_putName_27 : decode b_By_putName 27 = .ok (.istore 6, 2) := by decide +kernel
theorem d_By_putName_29 : decode b_By_putName 29 = .ok (.aload_n 0, 1) := by decide +kernel
theorem d_By_putName_30 : decode b_By_putName 30 = .ok (.bipush 48, 2) := by decide +kernel
theorem d_By_putName_32 : decode b_By_putName 32 = .ok (.aload_n 3, 1) := by decide +kernel
theorem d_By_putName_33 : decode b_By_putName 33 = .ok (.getfield 15, 3) := by decide +kernel
theorem d_By_putName_36 : decode b_By_putName 36 = .ok (.iconst 0, 1) := by decide +kernel
theorem d_By_putName_37 : decode b_By_putName 37 = .ok (.aload_n 3, 1) := by decide +kernel
theorem d_By_putName_38 : decode b_By_putName 38 = .ok (.getfield 21, 3) := by decide +kernel
theorem d_By_putName_41 : decode b_By_putName 41 = .ok (.invokevirtual 77, 3) := by decide +kernel
theorem d_By_putName_44 : decode b_By_putName 44 = .ok (.aload_n 0, 1) := by decide +kernel
theorem d_By_putName_45 : decode b_By_putName 45 = .ok (.iload 6, 2) := by decide +kernel
theorem d_By_putName_47 : decode b_By_putName 47 = .ok (.invokevirtual 43, 3) := by decide +kernel
theorem d_By_putName_50 : decode b_By_putName 50 = .ok (.aload_n 0, 1) := by decide +kernel
theorem d_By_putName_51 : decode b_By_putName 51 = .ok (.iload 5, 2) := by decide +kernel
theorem d_By_putName_53 : decode b_By_putName 53 = .ok (.invokevirtual 43, 3) := by decide +kernel
theorem d_By_putName_56 : decode b_By_putName 56 = .ok (.aload_n 0, 1) := by decide +kernel
theorem d_By_putName_57 : decode b_By_putName 57 = .ok (.iload 4, 2) := by decide +kernel
theorem d_By_putName_59 : decode b_By_putName 59 = .ok (.invokevirtual 43, 3) := by decide +kernel
theorem d_By_putName_62 : decode b_By_putName 62 = .ok (.return_, 1) := by decide +kernel
abbrev b_By_putCopy : ByteArray := prog_4_method_23_code
def y_By_putCopy : MethodName := ⟨R_By, "putCopy", "(ILRealmHouse$Bytes;I)V"⟩
abbrev k_By_putCopy : Cond := .code y_By_putCopy b_By_putCopy 6 none
theorem ki_By_putCopy : k_By_putCopy ∈ lw_tg := in_t 1277 (by decide +kernel)
theorem ks_By_putCopy : Cond.instanceMethod y_By_putCopy ∈ lw_tg := in_t 1275 (by decide +kernel)
theorem kx_By_putCopy : Cond.selects R_By y_By_putCopy y_By_putCopy ∈ lw_tg := in_t 1276 (by decide +kernel)
theorem kl_Ce_By_putCopy : Cond.methodLink R_Ce 302 y_By_putCopy ∈ lw_tg := in_t 1274 (by decide +kernel)
theorem kl_Ag_By_putCopy : Cond.methodLink R_Ag 192 y_By_putCopy ∈ lw_tg := in_t 1474 (by decide +kernel)
theorem kl_So_By_putCopy : Cond.methodLink R_So 166 y_By_putCopy ∈ lw_tg := in_t 1693 (by decide +kernel)
theorem kl_Ti_By_putCopy : Cond.methodLink R_Ti 114 y_By_putCopy ∈ lw_tg := in_t 1723 (by decide +kernel)
theorem hd_By_putCopy : y_By_putCopy.cls = R_By ∧ y_By_putCopy.cls ≠ "java/lang/invoke/MethodHandle" ∧ y_By_putCopy.cls ≠ "java/lang/invoke/VarHandle" ∧ (parseMethodDescriptor y_By_putCopy.desc).map (fun d => d.parameters.length) = some 3 := by decide +kernel
theorem d_By_putCopy_0 : decode b_By_putCopy 0 = .ok (.aload_n 2, 1) := by decide +kernel
theorem d_By_putCopy_1 : decode b_By_putCopy 1 = .ok (.iload_n 3, 1) := by decide +kernel
theorem d_By_putCopy_2 : decode b_By_putCopy 2 = .ok (.aload_n 2, 1) := by decide +kernel
theorem d_By_putCopy_3 : decode b_By_putCopy 3 = .ok (.getfield 21, 3) := by decide +kernel
theorem d_By_putCopy_6 : decode b_By_putCopy 6 = .ok (.invokevirtual 98, 3) := by decide +kernel
theorem d_By_putCopy_9 : decode b_By_putCopy 9 = .ok (.istore 4, 2) := by decide +kernel
theorem d_By_putCopy_11 : decode b_By_putCopy 11 = .ok (.iload 4, 2) := by decide +kernel
theorem d_By_putCopy_13 : decode b_By_putCopy 13 = .ok (.ifCond .ge 4, 3) := by decide +kernel
theorem d_By_putCopy_16 : decode b_By_putCopy 16 = .ok (.return_, 1) := by decide +kernel
theorem d_By_putCopy_17 : decode b_By_putCopy 17 = .ok (.aload_n 0, 1) := by decide +kernel
theorem d_By_putCopy_18 : decode b_By_putCopy 18 = .ok (.iload_n 1, 1) := by decide +kernel
theorem d_By_putCopy_19 : decode b_By_putCopy 19 = .ok (.invokevirtual 46, 3) := by decide +kernel
theorem d_By_putCopy_22 : decode b_By_putCopy 22 = .ok (.istore 5, 2) := by decide +kernel
theorem d_By_putCopy_24 : decode b_By_putCopy 24 = .ok (.aload_n 0, 1) := by decide +kernel
theorem d_By_putCopy_25 : decode b_By_putCopy 25 = .ok (.aload_n 2, 1) := by decide +kernel
theorem d_By_putCopy_26 : decode b_By_putCopy 26 = .ok (.getfield 15, 3) := by decide +kernel
theorem d_By_putCopy_29 : decode b_By_putCopy 29 = .ok (.iload_n 3, 1) := by decide +kernel
theorem d_By_putCopy_30 : decode b_By_putCopy 30 = .ok (.iload 4, 2) := by decide +kernel
theorem d_By_putCopy_32 : decode b_By_putCopy 32 = .ok (.iload_n 3, 1) := by decide +kernel
theorem d_By_putCopy_33 : decode b_By_putCopy 33 = .ok (.isub, 1) := by decide +kernel
theorem d_By_putCopy_34 : decode b_By_putCopy 34 = .ok (.invokevirtual 35, 3) := by decide +kernel
theorem d_By_putCopy_37 : decode b_By_putCopy 37 = .ok (.aload_n 0, 1) := by decide +kernel
theorem d_By_putCopy_38 : decode b_By_putCopy 38 = .ok (.iload 5, 2) := by decide +kernel
theorem d_By_putCopy_40 : decode b_By_putCopy 40 = .ok (.invokevirtual 43, 3) := by decide +kernel
theorem d_By_putCopy_43 : decode b_By_putCopy 43 = .ok (.return_, 1) := by decide +kernel
abbrev b_By_putTime : ByteArray := prog_4_method_24_code
def y_By_putTime : MethodName := ⟨R_By, "putTime", "(II)V"⟩
abbrev k_By_putTime : Cond := .code y_By_putTime b_By_putTime 8 none
theorem ki_By_putTime : k_By_putTime ∈ lw_tg := in_t 1311 (by decide +kernel)
theorem ks_By_putTime : Cond.instanceMethod y_By_putTime ∈ lw_tg := in_t 1309 (by decide +kernel)
theorem kx_By_putTime : Cond.selects R_By y_By_putTime y_By_putTime ∈ lw_tg := in_t 1310 (by decide +kernel)
theorem kl_Ce_By_putTime : Cond.methodLink R_Ce 306 y_By_putTime ∈ lw_tg := in_t 1308 (by decide +kernel)
theorem kl_By_By_putTime : Cond.methodLink R_By 112 y_By_putTime ∈ lw_tg := in_t 1353 (by decide +kernel)
theorem kl_Ag_By_putTime : Cond.methodLink R_Ag 162 y_By_putTime ∈ lw_tg := in_t 1436 (by decide +kernel)
theorem kl_So_By_putTime : Cond.methodLink R_So 100 y_By_putTime ∈ lw_tg := in_t 1596 (by decide +kernel)
theorem kl_Ti_By_putTime : Cond.methodLink R_Ti 111 y_By_putTime ∈ lw_tg := in_t 1722 (by decide +kernel)
theorem hd_By_putTime : y_By_putTime.cls = R_By ∧ y_By_putTime.cls ≠ "java/lang/invoke/MethodHandle" ∧ y_By_putTime.cls ≠ "java/lang/invoke/VarHandle" ∧ (parseMethodDescriptor y_By_putTime.desc).map (fun d => d.parameters.length) = some 2 := by decide +kernel
theorem d_By_putTime_0 : decode b_By_putTime 0 = .ok (.aload_n 0, 1) := by decide +kernel
theorem d_By_putTime_1 : decode b_By_putTime 1 = .ok (.iload_n 1, 1) := by decide +kernel
theorem d_By_putTime_2 : decode b_By_putTime 2 = .ok (.invokevirtual 46, 3) := by decide +kernel
theorem d_By_putTime_5 : decode b_By_putTime 5 = .ok (.istore_n 3, 1) := by decide +kernel
theorem d_By_putTime_6 : decode b_By_putTime 6 = .ok (.aload_n 0, 1) := by decide +kernel
theorem d_By_putTime_7 : decode b_By_putTime 7 = .ok (.bipush 24, 2) := by decide +kernel
theorem d_By_putTime_9 : decode b_By_putTime 9 = .ok (.invokevirtual 25, 3) := by decide +kernel
theorem d_By_putTime_12 : decode b_By_putTime 12 = .ok (.aload_n 0, 1) := by decide +kernel
theorem d_By_putTime_13 : decode b_By_putTime 13 = .ok (.bipush 15, 2) := by decide +kernel
theorem d_By_putTime_15 : decode b_By_putTime 15 = .ok (.invokevirtual 25, 3) := by decide +kernel
theorem d_By_putTime_18 : decode b_By_putTime 18 = .ok (.iload_n 2, 1) := by decide +kernel
theorem d_By_putTime_19 : decode b_By_putTime 19 = .ok (.ldc 101, 2) := by decide +kernel
theorem d_By_putTime_21 : decode b_By_putTime 21 = .ok (.idiv, 1) := by decide +kernel
theorem d_By_putTime_22 : decode b_By_putTime 22 = .ok (.istore 4, 2) := by decide +kernel
theorem d_By_putTime_24 : decode b_By_putTime 24 = .ok (.iload_n 2, 1) := by decide +kernel
theorem d_By_putTime_25 : decode b_By_putTime 25 = .ok (.ldc 101, 2) := by decide +kernel
theorem d_By_putTime_27 : decode b_By_putTime 27 = .ok (.irem, 1) := by decide +kernel
theorem d_By_putTime_28 : decode b_By_putTime 28 = .ok (.istore 5, 2) := by decide +kernel
theorem d_By_putTime_30 : decode b_By_putTime 30 = .ok (.sipush 1970, 3) := by decide +kernel
theorem d_By_putTime_33 : decode b_By_putTime 33 = .ok (.istore 6, 2) := by decide +kernel
theorem d_By_putTime_35 : decode b_By_putTime 35 = .ok (.iload 6, 2) := by decide +kernel
theorem d_By_putTime_37 : decode b_By_putTime 37 = .ok (.sipush 2037, 3) := by decide +kernel
theorem d_By_putTime_40 : decode b_By_putTime 40 = .ok (.if_icmp .ge 22, 3) := by decide +kernel
theorem d_By_putTime_43 : decode b_By_putTime 43 = .ok (.iload 6, 2) := by decide +kernel
theorem d_By_putTime_45 : decode b_By_putTime 45 = .ok (.iconst 1, 1) := by decide +kernel
theorem d_By_putTime_46 : decode b_By_putTime 46 = .ok (.iadd, 1) := by decide +kernel
theorem d_By_putTime_47 : decode b_By_putTime 47 = .ok (.iconst 1, 1) := by decide +kernel
theorem d_By_putTime_48 : decode b_By_putTime 48 = .ok (.invokestatic 102, 3) := by decide +kernel
theorem d_By_putTime_51 : decode b_By_putTime 51 = .ok (.iload 4, 2) := by decide +kernel
theorem d_By_putTime_53 : decode b_By_putTime 53 = .ok (.if_icmp .gt 9, 3) := by decide +kernel
theorem d_By_putTime_56 : decode b_By_putTime 56 = .ok (.iinc 6 1, 3) := by decide +kernel
theorem d_By_putTime_59 : decode b_By_putTime 59 = .ok (.goto (-24), 3) := by decide +kernel
theorem d_By_putTime_62 : decode b_By_putTime 62 = .ok (.iconst 1, 1) := by decide +kernel
theorem d_By_putTime_63 : decode b_By_putTime 63 = .ok (.istore 7, 2) := by decide +kernel
theorem d_By_putTime_65 : decode b_By_putTime 65 = .ok (.iload 7, 2) := by decide +kernel
theorem d_By_putTime_67 : decode b_By_putTime 67 = .ok (.bipush 12, 2) := by decide +kernel
theorem d_By_putTime_69 : decode b_By_putTime 69 = .ok (.if_icmp .ge 23, 3) := by decide +kernel
theorem d_By_putTime_72 : decode b_By_putTime 72 = .ok (.iload 6, 2) := by decide +kernel
theorem d_By_putTime_74 : decode b_By_putTime 74 = .ok (.iload 7, 2) := by decide +kernel
theorem d_By_putTime_76 : decode b_By_putTime 76 = .ok (.iconst 1, 1) := by decide +kernel
theorem d_By_putTime_77 : decode b_By_putTime 77 = .ok (.iadd, 1) := by decide +kernel
theorem d_By_putTime_78 : decode b_By_putTime 78 = .ok (.invokestatic 102, 3) := by decide +kernel
theorem d_By_putTime_81 : decode b_By_putTime 81 = .ok (.iload 4, 2) := by decide +kernel
theorem d_By_putTime_83 : decode b_By_putTime 83 = .ok (.if_icmp .gt 9, 3) := by decide +kernel
theorem d_By_putTime_86 : decode b_By_putTime 86 = .ok (.iinc 7 1, 3) := by decide +kernel
theorem d_By_putTime_89 : decode b_By_putTime 89 = .ok (.goto (-24), 3) := by decide +kernel
theorem d_By_putTime_92 : decode b_By_putTime 92 = .ok (.aload_n 0, 1) := by decide +kernel
theorem d_By_putTime_93 : decode b_By_putTime 93 = .ok (.iload 6, 2) := by decide +kernel
theorem d_By_putTime_95 : decode b_By_putTime 95 = .ok (.bipush 100, 2) := by decide +kernel
theorem d_By_putTime_97 : decode b_By_putTime 97 = .ok (.idiv, 1) := by decide +kernel
theorem d_By_putTime_98 : decode b_By_putTime 98 = .ok (.invokevirtual 105, 3) := by decide +kernel
theorem d_By_putTime_101 : decode b_By_putTime 101 = .ok (.aload_n 0, 1) := by decide +kernel
theorem d_By_putTime_102 : decode b_By_putTime 102 = .ok (.iload 6, 2) := by decide +kernel
theorem d_By_putTime_104 : decode b_By_putTime 104 = .ok (.bipush 100, 2) := by decide +kernel
theorem d_By_putTime_106 : decode b_By_putTime 106 = .ok (.irem, 1) := by decide +kernel
theorem d_By_putTime_107 : decode b_By_putTime 107 = .ok (.invokevirtual 105, 3) := by decide +kernel
theorem d_By_putTime_110 : decode b_By_putTime 110 = .ok (.aload_n 0, 1) := by decide +kernel
theorem d_By_putTime_111 : decode b_By_putTime 111 = .ok (.iload 7, 2) := by decide +kernel
theorem d_By_putTime_113 : decode b_By_putTime 113 = .ok (.invokevirtual 105, 3) := by decide +kernel
theorem d_By_putTime_116 : decode b_By_putTime 116 = .ok (.aload_n 0, 1) := by decide +kernel
theorem d_By_putTime_117 : decode b_By_putTime 117 = .ok (.iload 4, 2) := by decide +kernel
theorem d_By_putTime_119 : decode b_By_putTime 119 = .ok (.iload 6, 2) := by decide +kernel
theorem d_By_putTime_121 : decode b_By_putTime 121 = .ok (.iload 7, 2) := by decide +kernel
theorem d_By_putTime_123 : decode b_By_putTime 123 = .ok (.invokestatic 102, 3) := by decide +kernel
theorem d_By_putTime_126 : decode b_By_putTime 126 = .ok (.isub, 1) := by decide +kernel
theorem d_By_putTime_127 : decode b_By_putTime 127 = .ok (.iconst 1, 1) := by decide +kernel
theorem d_By_putTime_128 : decode b_By_putTime 128 = .ok (.iadd, 1) := by decide +kernel
theorem d_By_putTime_129 : decode b_By_putTime 129 = .ok (.invokevirtual 105, 3) := by decide +kernel
theorem d_By_putTime_132 : decode b_By_putTime 132 = .ok (.aload_n 0, 1) := by decide +kernel
theorem d_By_putTime_133 : decode b_By_putTime 133 = .ok (.iload 5, 2) := by decide +kernel
theorem d_By_putTime_135 : decode b_By_putTime 135 = .ok (.sipush 3600, 3) := by decide +kernel
theorem d_By_putTime_138 : decode b_By_putTime 138 = .ok (.idiv, 1) := by decide +kernel
theorem d_By_putTime_139 : decode b_By_putTime 139 = .ok (.invokevirtual 105, 3) := by decide +kernel
theorem d_By_putTime_142 : decode b_By_putTime 142 = .ok (.aload_n 0, 1) := by decide +kernel
theorem d_By_putTime_143 : decode b_By_putTime 143 = .ok (.iload 5, 2) := by decide +kernel
theorem d_By_putTime_145 : decode b_By_putTime 145 = .ok (.bipush 60, 2) := by decide +kernel
theorem d_By_putTime_147 : decode b_By_putTime 147 = .ok (.idiv, 1) := by decide +kernel
theorem d_By_putTime_148 : decode b_By_putTime 148 = .ok (.bipush 60, 2) := by decide +kernel
theorem d_By_putTime_150 : decode b_By_putTime 150 = .ok (.irem, 1) := by decide +kernel
theorem d_By_putTime_151 : decode b_By_putTime 151 = .ok (.invokevirtual 105, 3) := by decide +kernel
theorem d_By_putTime_154 : decode b_By_putTime 154 = .ok (.aload_n 0, 1) := by decide +kernel
theorem d_By_putTime_155 : decode b_By_putTime 155 = .ok (.iload 5, 2) := by decide +kernel
theorem d_By_putTime_157 : decode b_By_putTime 157 = .ok (.bipush 60, 2) := by decide +kernel
theorem d_By_putTime_159 : decode b_By_putTime 159 = .ok (.irem, 1) := by decide +kernel
theorem d_By_putTime_160 : decode b_By_putTime 160 = .ok (.invokevirtual 105, 3) := by decide +kernel
theorem d_By_putTime_163 : decode b_By_putTime 163 = .ok (.aload_n 0, 1) := by decide +kernel
theorem d_By_putTime_164 : decode b_By_putTime 164 = .ok (.bipush 90, 2) := by decide +kernel
theorem d_By_putTime_166 : decode b_By_putTime 166 = .ok (.invokevirtual 25, 3) := by decide +kernel
theorem d_By_putTime_169 : decode b_By_putTime 169 = .ok (.aload_n 0, 1) := by decide +kernel
theorem d_By_putTime_170 : decode b_By_putTime 170 = .ok (.iload_n 3, 1) := by decide +kernel
theorem d_By_putTime_171 : decode b_By_putTime 171 = .ok (.invokevirtual 43, 3) := by decide +kernel
theorem d_By_putTime_174 : decode b_By_putTime 174 = .ok (.return_, 1) := by decide +kernel
abbrev b_By_putDigits : ByteArray := prog_4_method_25_code
def y_By_putDigits : MethodName := ⟨R_By, "putDigits", "(I)V"⟩
abbrev k_By_putDigits : Cond := .code y_By_putDigits b_By_putDigits 2 none
theorem ki_By_putDigits : k_By_putDigits ∈ lw_tg := in_t 1315 (by decide +kernel)
theorem ks_By_putDigits : Cond.instanceMethod y_By_putDigits ∈ lw_tg := in_t 1314 (by decide +kernel)
theorem kx_By_putDigits : Cond.selects R_By y_By_putDigits y_By_putDigits ∈ lw_tg := List.mem_filter.mpr ⟨List.mem_append_left _ (List.mem_of_getElem? (i := 46) (by decide +kernel)), rfl⟩
theorem kl_By_By_putDigits : Cond.methodLink R_By 105 y_By_putDigits ∈ lw_tg := in_t 1312 (by decide +kernel)
theorem hd_By_putDigits : y_By_putDigits.cls = R_By ∧ y_By_putDigits.cls ≠ "java/lang/invoke/MethodHandle" ∧ y_By_putDigits.cls ≠ "java/lang/invoke/VarHandle" ∧ (parseMethodDescriptor y_By_putDigits.desc).map (fun d => d.parameters.length) = some 1 := by decide +kernel
theorem d_By_putDigits_0 : decode b_By_putDigits 0 = .ok (.aload_n 0, 1) := by decide +kernel
theorem d_By_putDigits_1 : decode b_By_putDigits 1 = .ok (.bipush 48, 2) := by decide +kernel
theorem d_By_putDigits_3 : decode b_By_putDigits 3 = .ok (.iload_n 1, 1) := by decide +kernel
theorem d_By_putDigits_4 : decode b_By_putDigits 4 = .ok (.bipush 10, 2) := by decide +kernel
theorem d_By_putDigits_6 : decode b_By_putDigits 6 = .ok (.idiv, 1) := by decide +kernel
theorem d_By_putDigits_7 : decode b_By_putDigits 7 = .ok (.bipush 10, 2) := by decide +kernel
theorem d_By_putDigits_9 : decode b_By_putDigits 9 = .ok (.irem, 1) := by decide +kernel
theorem d_By_putDigits_10 : decode b_By_putDigits 10 = .ok (.iadd, 1) := by decide +kernel
theorem d_By_putDigits_11 : decode b_By_putDigits 11 = .ok (.invokevirtual 25, 3) := by decide +kernel
theorem d_By_putDigits_14 : decode b_By_putDigits 14 = .ok (.aload_n 0, 1) := by decide +kernel
theorem d_By_putDigits_15 : decode b_By_putDigits 15 = .ok (.bipush 48, 2) := by decide +kernel
theorem d_By_putDigits_17 : decode b_By_putDigits 17 = .ok (.iload_n 1, 1) := by decide +kernel
theorem d_By_putDigits_18 : decode b_By_putDigits 18 = .ok (.bipush 10, 2) := by decide +kernel
theorem d_By_putDigits_20 : decode b_By_putDigits 20 = .ok (.irem, 1) := by decide +kernel
theorem d_By_putDigits_21 : decode b_By_putDigits 21 = .ok (.iadd, 1) := by decide +kernel
theorem d_By_putDigits_22 : decode b_By_putDigits 22 = .ok (.invokevirtual 25, 3) := by decide +kernel
theorem d_By_putDigits_25 : decode b_By_putDigits 25 = .ok (.return_, 1) := by decide +kernel
abbrev b_By_putErrorHead : ByteArray := prog_4_method_26_code
def y_By_putErrorHead : MethodName := ⟨R_By, "putErrorHead", "(II)V"⟩
abbrev k_By_putErrorHead : Cond := .code y_By_putErrorHead b_By_putErrorHead 3 none
theorem ki_By_putErrorHead : k_By_putErrorHead ∈ lw_tg := in_t 1350 (by decide +kernel)
theorem ks_By_putErrorHead : Cond.instanceMethod y_By_putErrorHead ∈ lw_tg := in_t 1348 (by decide +kernel)
theorem kx_By_putErrorHead : Cond.selects R_By y_By_putErrorHead y_By_putErrorHead ∈ lw_tg := in_t 1349 (by decide +kernel)
theorem kl_Ce_By_putErrorHead : Cond.methodLink R_Ce 363 y_By_putErrorHead ∈ lw_tg := in_t 1347 (by decide +kernel)
theorem kl_H_By_putErrorHead : Cond.methodLink R_H 333 y_By_putErrorHead ∈ lw_tg := in_t 1572 (by decide +kernel)
theorem hd_By_putErrorHead : y_By_putErrorHead.cls = R_By ∧ y_By_putErrorHead.cls ≠ "java/lang/invoke/MethodHandle" ∧ y_By_putErrorHead.cls ≠ "java/lang/invoke/VarHandle" ∧ (parseMethodDescriptor y_By_putErrorHead.desc).map (fun d => d.parameters.length) = some 2 := by decide +kernel
theorem d_By_putErrorHead_0 : decode b_By_putErrorHead 0 = .ok (.aload_n 0, 1) := by decide +kernel
theorem d_By_putErrorHead_1 : decode b_By_putErrorHead 1 = .ok (.iconst 0, 1) := by decide +kernel
theorem d_By_putErrorHead_2 : decode b_By_putErrorHead 2 = .ok (.ldc2_w 108, 3) := by decide +kernel
theorem d_By_putErrorHead_5 : decode b_By_putErrorHead 5 = .ok (.invokevirtual 81, 3) := by decide +kernel
theorem d_By_putErrorHead_8 : decode b_By_putErrorHead 8 = .ok (.aload_n 0, 1) := by decide +kernel
theorem d_By_putErrorHead_9 : decode b_By_putErrorHead 9 = .ok (.iconst 1, 1) := by decide +kernel
theorem d_By_putErrorHead_10 : decode b_By_putErrorHead 10 = .ok (.ldc2_w 110, 3) := by decide +kernel
theorem d_By_putErrorHead_13 : decode b_By_putErrorHead 13 = .ok (.invokevirtual 81, 3) := by decide +kernel
theorem d_By_putErrorHead_16 : decode b_By_putErrorHead 16 = .ok (.aload_n 0, 1) := by decide +kernel
theorem d_By_putErrorHead_17 : decode b_By_putErrorHead 17 = .ok (.iconst 4, 1) := by decide +kernel
theorem d_By_putErrorHead_18 : decode b_By_putErrorHead 18 = .ok (.iload_n 1, 1) := by decide +kernel
theorem d_By_putErrorHead_19 : decode b_By_putErrorHead 19 = .ok (.invokevirtual 112, 3) := by decide +kernel
theorem d_By_putErrorHead_22 : decode b_By_putErrorHead 22 = .ok (.aload_n 0, 1) := by decide +kernel
theorem d_By_putErrorHead_23 : decode b_By_putErrorHead 23 = .ok (.iconst 5, 1) := by decide +kernel
theorem d_By_putErrorHead_24 : decode b_By_putErrorHead 24 = .ok (.lconst 0, 1) := by decide +kernel
theorem d_By_putErrorHead_25 : decode b_By_putErrorHead 25 = .ok (.invokevirtual 81, 3) := by decide +kernel
theorem d_By_putErrorHead_28 : decode b_By_putErrorHead 28 = .ok (.aload_n 0, 1) := by decide +kernel
theorem d_By_putErrorHead_29 : decode b_By_putErrorHead 29 = .ok (.bipush 6, 2) := by decide +kernel
theorem d_By_putErrorHead_31 : decode b_By_putErrorHead 31 = .ok (.iload_n 2, 1) := by decide +kernel
theorem d_By_putErrorHead_32 : decode b_By_putErrorHead 32 = .ok (.i2l, 1) := by decide +kernel
theorem d_By_putErrorHead_33 : decode b_By_putErrorHead 33 = .ok (.invokevirtual 81, 3) := by decide +kernel
theorem d_By_putErrorHead_36 : decode b_By_putErrorHead 36 = .ok (.return_, 1) := by decide +kernel
abbrev b_By_daysBefore : ByteArray := prog_4_method_27_code
def y_By_daysBefore : MethodName := ⟨R_By, "daysBefore", "(II)I"⟩
abbrev k_By_daysBefore : Cond := .code y_By_daysBefore b_By_daysBefore 4 (some .int)
theorem ki_By_daysBefore : k_By_daysBefore ∈ lw_tg := in_t 876 (by decide +kernel)
theorem ks_By_daysBefore : Cond.static y_By_daysBefore ∈ lw_tg := in_t 875 (by decide +kernel)
theorem kl_By_By_daysBefore : Cond.methodLink R_By 102 y_By_daysBefore ∈ lw_tg := in_t 874 (by decide +kernel)
theorem hd_By_daysBefore : y_By_daysBefore.cls = R_By ∧ y_By_daysBefore.cls ≠ "java/lang/invoke/MethodHandle" ∧ y_By_daysBefore.cls ≠ "java/lang/invoke/VarHandle" ∧ (parseMethodDescriptor y_By_daysBefore.desc).map (fun d => d.parameters.length) = some 2 := by decide +kernel
theorem d_By_daysBefore_0 : decode b_By_daysBefore 0 = .ok (.iconst 1, 1) := by decide +kernel
theorem d_By_daysBefore_1 : decode b_By_daysBefore 1 = .ok (.bipush 13, 2) := by decide +kernel
theorem d_By_daysBefore_3 : decode b_By_daysBefore 3 = .ok (.iload_n 1, 1) := by decide +kernel
theorem d_By_daysBefore_4 : decode b_By_daysBefore 4 = .ok (.invokestatic 116, 3) := by decide +kernel
theorem d_By_daysBefore_7 : decode b_By_daysBefore 7 = .ok (.invokestatic 9, 3) := by decide +kernel
theorem d_By_daysBefore_10 : decode b_By_daysBefore 10 = .ok (.istore_n 2, 1) := by decide +kernel
theorem d_By_daysBefore_11 : decode b_By_daysBefore 11 = .ok (.iload_n 0, 1) := by decide +kernel
theorem d_By_daysBefore_12 : decode b_By_daysBefore 12 = .ok (.iconst 4, 1) := by decide +kernel
theorem d_By_daysBefore_13 : decode b_By_daysBefore 13 = .ok (.irem, 1) := by decide +kernel
theorem d_By_daysBefore_14 : decode b_By_daysBefore 14 = .ok (.ifCond .ne 12, 3) := by decide +kernel
theorem d_By_daysBefore_17 : decode b_By_daysBefore 17 = .ok (.iload_n 2, 1) := by decide +kernel
theorem d_By_daysBefore_18 : decode b_By_daysBefore 18 = .ok (.iconst 2, 1) := by decide +kernel
theorem d_By_daysBefore_19 : decode b_By_daysBefore 19 = .ok (.if_icmp .le 7, 3) := by decide +kernel
theorem d_By_daysBefore_22 : decode b_By_daysBefore 22 = .ok (.iconst 1, 1) := by decide +kernel
theorem d_By_daysBefore_23 : decode b_By_daysBefore 23 = .ok (.goto 4, 3) := by decide +kernel
theorem d_By_daysBefore_26 : decode b_By_daysBefore 26 = .ok (.iconst 0, 1) := by decide +kernel
theorem d_By_daysBefore_27 : decode b_By_daysBefore 27 = .ok (.istore_n 3, 1) := by decide +kernel
theorem d_By_daysBefore_28 : decode b_By_daysBefore 28 = .ok (.iload_n 0, 1) := by decide +kernel
theorem d_By_daysBefore_29 : decode b_By_daysBefore 29 = .ok (.sipush 1970, 3) := by decide +kernel
theorem d_By_daysBefore_32 : decode b_By_daysBefore 32 = .ok (.isub, 1) := by decide +kernel
theorem d_By_daysBefore_33 : decode b_By_daysBefore 33 = .ok (.sipush 365, 3) := by decide +kernel
theorem d_By_daysBefore_36 : decode b_By_daysBefore 36 = .ok (.imul, 1) := by decide +kernel
theorem d_By_daysBefore_37 : decode b_By_daysBefore 37 = .ok (.iload_n 0, 1) := by decide +kernel
theorem d_By_daysBefore_38 : decode b_By_daysBefore 38 = .ok (.sipush 1969, 3) := by decide +kernel
theorem d_By_daysBefore_41 : decode b_By_daysBefore 41 = .ok (.isub, 1) := by decide +kernel
theorem d_By_daysBefore_42 : decode b_By_daysBefore 42 = .ok (.iconst 4, 1) := by decide +kernel
theorem d_By_daysBefore_43 : decode b_By_daysBefore 43 = .ok (.idiv, 1) := by decide +kernel
theorem d_By_daysBefore_44 : decode b_By_daysBefore 44 = .ok (.iadd, 1) := by decide +kernel
theorem d_By_daysBefore_45 : decode b_By_daysBefore 45 = .ok (.getstatic 119, 3) := by decide +kernel
theorem d_By_daysBefore_48 : decode b_By_daysBefore 48 = .ok (.iload_n 2, 1) := by decide +kernel
theorem d_By_daysBefore_49 : decode b_By_daysBefore 49 = .ok (.iconst 1, 1) := by decide +kernel
theorem d_By_daysBefore_50 : decode b_By_daysBefore 50 = .ok (.isub, 1) := by decide +kernel
theorem d_By_daysBefore_51 : decode b_By_daysBefore 51 = .ok (.iaload, 1) := by decide +kernel
theorem d_By_daysBefore_52 : decode b_By_daysBefore 52 = .ok (.iadd, 1) := by decide +kernel
theorem d_By_daysBefore_53 : decode b_By_daysBefore 53 = .ok (.iload_n 3, 1) := by decide +kernel
theorem d_By_daysBefore_54 : decode b_By_daysBefore 54 = .ok (.iadd, 1) := by decide +kernel
theorem d_By_daysBefore_55 : decode b_By_daysBefore 55 = .ok (.ireturn, 1) := by decide +kernel
abbrev b_By_isText : ByteArray := prog_4_method_28_code
def y_By_isText : MethodName := ⟨R_By, "isText", "(IILjava/lang/String;)Z"⟩
abbrev k_By_isText : Cond := .code y_By_isText b_By_isText 5 (some .boolean)
theorem ki_By_isText : k_By_isText ∈ lw_tg := in_t 946 (by decide +kernel)
theorem ks_By_isText : Cond.instanceMethod y_By_isText ∈ lw_tg := in_t 944 (by decide +kernel)
theorem kx_By_isText : Cond.selects R_By y_By_isText y_By_isText ∈ lw_tg := in_t 945 (by decide +kernel)
theorem kl_By_By_isText : Cond.methodLink R_By 136 y_By_isText ∈ lw_tg := in_t 943 (by decide +kernel)
theorem kl_H_By_isText : Cond.methodLink R_H 314 y_By_isText ∈ lw_tg := in_t 1406 (by decide +kernel)
theorem hd_By_isText : y_By_isText.cls = R_By ∧ y_By_isText.cls ≠ "java/lang/invoke/MethodHandle" ∧ y_By_isText.cls ≠ "java/lang/invoke/VarHandle" ∧ (parseMethodDescriptor y_By_isText.desc).map (fun d => d.parameters.length) = some 3 := by decide +kernel
theorem d_By_isText_0 : decode b_By_isText 0 = .ok (.iload_n 2, 1) := by decide +kernel
theorem d_By_isText_1 : decode b_By_isText 1 = .ok (.iload_n 1, 1) := by decide +kernel
theorem d_By_isText_2 : decode b_By_isText 2 = .ok (.isub, 1) := by decide +kernel
theorem d_By_isText_3 : decode b_By_isText 3 = .ok (.aload_n 3, 1) := by decide +kernel
theorem d_By_isText_4 : decode b_By_isText 4 = .ok (.invokevirtual 55, 3) := by decide +kernel
theorem d_By_isText_7 : decode b_By_isText 7 = .ok (.if_icmp .eq 5, 3) := by decide +kernel
theorem d_By_isText_10 : decode b_By_isText 10 = .ok (.iconst 0, 1) := by decide +kernel
theorem d_By_isText_11 : decode b_By_isText 11 = .ok (.ireturn, 1) := by decide +kernel
theorem d_By_isText_12 : decode b_By_isText 12 = .ok (.iconst 0, 1) := by decide +kernel
theorem d_By_isText_13 : decode b_By_isText 13 = .ok (.istore 4, 2) := by decide +kernel
theorem d_By_isText_15 : decode b_By_isText 15 = .ok (.iload 4, 2) := by decide +kernel
theorem d_By_isText_17 : decode b_By_isText 17 = .ok (.aload_n 3, 1) := by decide +kernel
theorem d_By_isText_18 : decode b_By_isText 18 = .ok (.invokevirtual 55, 3) := by decide +kernel
theorem d_By_isText_21 : decode b_By_isText 21 = .ok (.if_icmp .ge 28, 3) := by decide +kernel
theorem d_By_isText_24 : decode b_By_isText 24 = .ok (.aload_n 0, 1) := by decide +kernel
theorem d_By_isText_25 : decode b_By_isText 25 = .ok (.iload_n 1, 1) := by decide +kernel
theorem d_By_isText_26 : decode b_By_isText 26 = .ok (.iload 4, 2) := by decide +kernel
theorem d_By_isText_28 : decode b_By_isText 28 = .ok (.iadd, 1) := by decide +kernel
theorem d_By_isText_29 : decode b_By_isText 29 = .ok (.invokevirtual 123, 3) := by decide +kernel
theorem d_By_isText_32 : decode b_By_isText 32 = .ok (.aload_n 3, 1) := by decide +kernel
theorem d_By_isText_33 : decode b_By_isText 33 = .ok (.iload 4, 2) := by decide +kernel
theorem d_By_isText_35 : decode b_By_isText 35 = .ok (.invokevirtual 61, 3) := by decide +kernel
theorem d_By_isText_38 : decode b_By_isText 38 = .ok (.if_icmp .eq 5, 3) := by decide +kernel
theorem d_By_isText_41 : decode b_By_isText 41 = .ok (.iconst 0, 1) := by decide +kernel
theorem d_By_isText_42 : decode b_By_isText 42 = .ok (.ireturn, 1) := by decide +kernel
theorem d_By_isText_43 : decode b_By_isText 43 = .ok (.iinc 4 1, 3) := by decide +kernel
theorem d_By_isText_46 : decode b_By_isText 46 = .ok (.goto (-31), 3) := by decide +kernel
theorem d_By_isText_49 : decode b_By_isText 49 = .ok (.iconst 1, 1) := by decide +kernel
theorem d_By_isText_50 : decode b_By_isText 50 = .ok (.ireturn, 1) := by decide +kernel
abbrev b_By_isPrintable : ByteArray := prog_4_method_29_code
def y_By_isPrintable : MethodName := ⟨R_By, "isPrintable", "(II)Z"⟩
abbrev k_By_isPrintable : Cond := .code y_By_isPrintable b_By_isPrintable 5 (some .boolean)
theorem ki_By_isPrintable : k_By_isPrintable ∈ lw_tg := in_t 798 (by decide +kernel)
theorem ks_By_isPrintable : Cond.instanceMethod y_By_isPrintable ∈ lw_tg := in_t 796 (by decide +kernel)
theorem kx_By_isPrintable : Cond.selects R_By y_By_isPrintable y_By_isPrintable ∈ lw_tg := in_t 797 (by decide +kernel)
theorem kl_H_By_isPrintable : Cond.methodLink R_H 306 y_By_isPrintable ∈ lw_tg := in_t 795 (by decide +kernel)
theorem kl_By_By_isPrintable : Cond.methodLink R_By 163 y_By_isPrintable ∈ lw_tg := in_t 865 (by decide +kernel)
theorem hd_By_isPrintable : y_By_isPrintable.cls = R_By ∧ y_By_isPrintable.cls ≠ "java/lang/invoke/MethodHandle" ∧ y_By_isPrintable.cls ≠ "java/lang/invoke/VarHandle" ∧ (parseMethodDescriptor y_By_isPrintable.desc).map (fun d => d.parameters.length) = some 2 := by decide +kernel
theorem d_By_isPrintable_0 : decode b_By_isPrintable 0 = .ok (.iload_n 1, 1) := by decide +kernel
theorem d_By_isPrintable_1 : decode b_By_isPrintable 1 = .ok (.istore_n 3, 1) := by decide +kernel
theorem d_By_isPrintable_2 : decode b_By_isPrintable 2 = .ok (.iload_n 3, 1) := by decide +kernel
theorem d_By_isPrintable_3 : decode b_By_isPrintable 3 = .ok (.iload_n 2, 1) := by decide +kernel
theorem d_By_isPrintable_4 : decode b_By_isPrintable 4 = .ok (.if_icmp .ge 32, 3) := by decide +kernel
theorem d_By_isPrintable_7 : decode b_By_isPrintable 7 = .ok (.aload_n 0, 1) := by decide +kernel
theorem d_By_isPrintable_8 : decode b_By_isPrintable 8 = .ok (.iload_n 3, 1) := by decide +kernel
theorem d_By_isPrintable_9 : decode b_By_isPrintable 9 = .ok (.invokevirtual 123, 3) := by decide +kernel
theorem d_By_isPrintable_12 : decode b_By_isPrintable 12 = .ok (.istore 4, 2) := by decide +kernel
theorem d_By_isPrintable_14 : decode b_By_isPrintable 14 = .ok (.iload 4, 2) := by decide +kernel
theorem d_By_isPrintable_16 : decode b_By_isPrintable 16 = .ok (.bipush 32, 2) := by decide +kernel
theorem d_By_isPrintable_18 : decode b_By_isPrintable 18 = .ok (.if_icmp .lt 10, 3) := by decide +kernel
theorem d_By_isPrintable_21 : decode b_By_isPrintable 21 = .ok (.iload 4, 2) := by decide +kernel
theorem d_By_isPrintable_23 : decode b_By_isPrintable 23 = .ok (.bipush 126, 2) := by decide +kernel
theorem d_By_isPrintable_25 : decode b_By_isPrintable 25 = .ok (.if_icmp .le 5, 3) := by decide +kernel
theorem d_By_isPrintable_28 : decode b_By_isPrintable 28 = .ok (.iconst 0, 1) := by decide +kernel
theorem d_By_isPrintable_29 : decode b_By_isPrintable 29 = .ok (.ireturn, 1) := by decide +kernel
theorem d_By_isPrintable_30 : decode b_By_isPrintable 30 = .ok (.iinc 3 1, 3) := by decide +kernel
theorem d_By_isPrintable_33 : decode b_By_isPrintable 33 = .ok (.goto (-31), 3) := by decide +kernel
theorem d_By_isPrintable_36 : decode b_By_isPrintable 36 = .ok (.iconst 1, 1) := by decide +kernel
theorem d_By_isPrintable_37 : decode b_By_isPrintable 37 = .ok (.ireturn, 1) := by decide +kernel
abbrev b_By_sameAs : ByteArray := prog_4_method_30_code
def y_By_sameAs : MethodName := ⟨R_By, "sameAs", "(IILRealmHouse$Bytes;II)Z"⟩
abbrev k_By_sameAs : Cond := .code y_By_sameAs b_By_sameAs 7 (some .boolean)
theorem ki_By_sameAs : k_By_sameAs ∈ lw_tg := in_t 809 (by decide +kernel)
theorem ks_By_sameAs : Cond.instanceMethod y_By_sameAs ∈ lw_tg := in_t 807 (by decide +kernel)
theorem kx_By_sameAs : Cond.selects R_By y_By_sameAs y_By_sameAs ∈ lw_tg := in_t 808 (by decide +kernel)
theorem kl_Pr_By_sameAs : Cond.methodLink R_Pr 62 y_By_sameAs ∈ lw_tg := in_t 806 (by decide +kernel)
theorem kl_By_By_sameAs : Cond.methodLink R_By 143 y_By_sameAs ∈ lw_tg := in_t 983 (by decide +kernel)
theorem hd_By_sameAs : y_By_sameAs.cls = R_By ∧ y_By_sameAs.cls ≠ "java/lang/invoke/MethodHandle" ∧ y_By_sameAs.cls ≠ "java/lang/invoke/VarHandle" ∧ (parseMethodDescriptor y_By_sameAs.desc).map (fun d => d.parameters.length) = some 5 := by decide +kernel
theorem d_By_sameAs_0 : decode b_By_sameAs 0 = .ok (.iload_n 1, 1) := by decide +kernel
theorem d_By_sameAs_1 : decode b_By_sameAs 1 = .ok (.ifCond .lt 36, 3) := by decide +kernel
theorem d_By_sameAs_4 : decode b_By_sameAs 4 = .ok (.iload 4, 2) := by decide +kernel
theorem d_By_sameAs_6 : decode b_By_sameAs 6 = .ok (.ifCond .lt 31, 3) := by decide +kernel
theorem d_By_sameAs_9 : decode b_By_sameAs 9 = .ok (.iload_n 2, 1) := by decide +kernel
theorem d_By_sameAs_10 : decode b_By_sameAs 10 = .ok (.aload_n 0, 1) := by decide +kernel
theorem d_By_sameAs_11 : decode b_By_sameAs 11 = .ok (.getfield 21, 3) := by decide +kernel
theorem d_By_sameAs_14 : decode b_By_sameAs 14 = .ok (.if_icmp .gt 23, 3) := by decide +kernel
theorem d_By_sameAs_17 : decode b_By_sameAs 17 = .ok (.iload 5, 2) := by decide +kernel
theorem d_By_sameAs_19 : decode b_By_sameAs 19 = .ok (.aload_n 3, 1) := by decide +kernel
theorem d_By_sameAs_20 : decode b_By_sameAs 20 = .ok (.getfield 21, 3) := by decide +kernel
theorem d_By_sameAs_23 : decode b_By_sameAs 23 = .ok (.if_icmp .gt 14, 3) := by decide +kernel
theorem d_By_sameAs_26 : decode b_By_sameAs 26 = .ok (.iload_n 2, 1) := by decide +kernel
theorem d_By_sameAs_27 : decode b_By_sameAs 27 = .ok (.iload_n 1, 1) := by decide +kernel
theorem d_By_sameAs_28 : decode b_By_sameAs 28 = .ok (.isub, 1) := by decide +kernel
theorem d_By_sameAs_29 : decode b_By_sameAs 29 = .ok (.iload 5, 2) := by decide +kernel
theorem d_By_sameAs_31 : decode b_By_sameAs 31 = .ok (.iload 4, 2) := by decide +kernel
theorem d_By_sameAs_33 : decode b_By_sameAs 33 = .ok (.isub, 1) := by decide +kernel
theorem d_By_sameAs_34 : decode b_By_sameAs 34 = .ok (.if_icmp .eq 5, 3) := by decide +kernel
theorem d_By_sameAs_37 : decode b_By_sameAs 37 = .ok (.iconst 0, 1) := by decide +kernel
theorem d_By_sameAs_38 : decode b_By_sameAs 38 = .ok (.ireturn, 1) := by decide +kernel
theorem d_By_sameAs_39 : decode b_By_sameAs 39 = .ok (.iconst 0, 1) := by decide +kernel
theorem d_By_sameAs_40 : decode b_By_sameAs 40 = .ok (.istore 6, 2) := by decide +kernel
theorem d_By_sameAs_42 : decode b_By_sameAs 42 = .ok (.iload 6, 2) := by decide +kernel
theorem d_By_sameAs_44 : decode b_By_sameAs 44 = .ok (.iload_n 2, 1) := by decide +kernel
theorem d_By_sameAs_45 : decode b_By_sameAs 45 = .ok (.iload_n 1, 1) := by decide +kernel
theorem d_By_sameAs_46 : decode b_By_sameAs 46 = .ok (.isub, 1) := by decide +kernel
theorem d_By_sameAs_47 : decode b_By_sameAs 47 = .ok (.if_icmp .ge 33, 3) := by decide +kernel
theorem d_By_sameAs_50 : decode b_By_sameAs 50 = .ok (.aload_n 0, 1) := by decide +kernel
theorem d_By_sameAs_51 : decode b_By_sameAs 51 = .ok (.getfield 15, 3) := by decide +kernel
theorem d_By_sameAs_54 : decode b_By_sameAs 54 = .ok (.iload_n 1, 1) := by decide +kernel
theorem d_By_sameAs_55 : decode b_By_sameAs 55 = .ok (.iload 6, 2) := by decide +kernel
theorem d_By_sameAs_57 : decode b_By_sameAs 57 = .ok (.iadd, 1) := by decide +kernel
theorem d_By_sameAs_58 : decode b_By_sameAs 58 = .ok (.baload, 1) := by decide +kernel
theorem d_By_sameAs_59 : decode b_By_sameAs 59 = .ok (.aload_n 3, 1) := by decide +kernel
theorem d_By_sameAs_60 : decode b_By_sameAs 60 = .ok (.getfield 15, 3) := by decide +kernel
theorem d_By_sameAs_63 : decode b_By_sameAs 63 = .ok (.iload 4, 2) := by decide +kernel
theorem d_By_sameAs_65 : decode b_By_sameAs 65 = .ok (.iload 6, 2) := by decide +kernel
theorem d_By_sameAs_67 : decode b_By_sameAs 67 = .ok (.iadd, 1) := by decide +kernel
theorem d_By_sameAs_68 : decode b_By_sameAs 68 = .ok (.baload, 1) := by decide +kernel
theorem d_By_sameAs_69 : decode b_By_sameAs 69 = .ok (.if_icmp .eq 5, 3) := by decide +kernel
theorem d_By_sameAs_72 : decode b_By_sameAs 72 = .ok (.iconst 0, 1) := by decide +kernel
theorem d_By_sameAs_73 : decode b_By_sameAs 73 = .ok (.ireturn, 1) := by decide +kernel
theorem d_By_sameAs_74 : decode b_By_sameAs 74 = .ok (.iinc 6 1, 3) := by decide +kernel
theorem d_By_sameAs_77 : decode b_By_sameAs 77 = .ok (.goto (-35), 3) := by decide +kernel
theorem d_By_sameAs_80 : decode b_By_sameAs 80 = .ok (.iconst 1, 1) := by decide +kernel
theorem d_By_sameAs_81 : decode b_By_sameAs 81 = .ok (.ireturn, 1) := by decide +kernel
abbrev b_By_stop : ByteArray := prog_4_method_31_code
def y_By_stop : MethodName := ⟨R_By, "stop", "(II)I"⟩
abbrev k_By_stop : Cond := .code y_By_stop b_By_stop 6 (some .int)
theorem ki_By_stop : k_By_stop ∈ lw_tg := in_t 582 (by decide +kernel)
theorem ks_By_stop : Cond.instanceMethod y_By_stop ∈ lw_tg := in_t 580 (by decide +kernel)
theorem kx_By_stop : Cond.selects R_By y_By_stop y_By_stop ∈ lw_tg := in_t 581 (by decide +kernel)
theorem kl_Va_By_stop : Cond.methodLink R_Va 80 y_By_stop ∈ lw_tg := in_t 579 (by decide +kernel)
theorem kl_By_By_stop : Cond.methodLink R_By 98 y_By_stop ∈ lw_tg := in_t 851 (by decide +kernel)
theorem kl_H_By_stop : Cond.methodLink R_H 157 y_By_stop ∈ lw_tg := in_t 956 (by decide +kernel)
theorem kl_Ga_By_stop : Cond.methodLink R_Ga 136 y_By_stop ∈ lw_tg := in_t 1078 (by decide +kernel)
theorem kl_Ce_By_stop : Cond.methodLink R_Ce 162 y_By_stop ∈ lw_tg := in_t 1139 (by decide +kernel)
theorem kl_Ti_By_stop : Cond.methodLink R_Ti 76 y_By_stop ∈ lw_tg := in_t 1514 (by decide +kernel)
theorem kl_So_By_stop : Cond.methodLink R_So 197 y_By_stop ∈ lw_tg := in_t 1676 (by decide +kernel)
theorem hd_By_stop : y_By_stop.cls = R_By ∧ y_By_stop.cls ≠ "java/lang/invoke/MethodHandle" ∧ y_By_stop.cls ≠ "java/lang/invoke/VarHandle" ∧ (parseMethodDescriptor y_By_stop.desc).map (fun d => d.parameters.length) = some 2 := by decide +kernel
theorem d_By_stop_0 : decode b_By_stop 0 = .ok (.iload_n 1, 1) := by decide +kernel
theorem d_By_stop_1 : decode b_By_stop 1 = .ok (.ifCond .lt 18, 3) := by decide +kernel
theorem d_By_stop_4 : decode b_By_stop 4 = .ok (.iload_n 2, 1) := by decide +kernel
theorem d_By_stop_5 : decode b_By_stop 5 = .ok (.aload_n 0, 1) := by decide +kernel
theorem d_By_stop_6 : decode b_By_stop 6 = .ok (.getfield 21, 3) := by decide +kernel
theorem d_By_stop_9 : decode b_By_stop 9 = .ok (.if_icmp .gt 10, 3) := by decide +kernel
theorem d_By_stop_12 : decode b_By_stop 12 = .ok (.iload_n 2, 1) := by decide +kernel
theorem d_By_stop_13 : decode b_By_stop 13 = .ok (.iload_n 1, 1) := by decide +kernel
theorem d_By_stop_14 : decode b_By_stop 14 = .ok (.isub, 1) := by decide +kernel
theorem d_By_stop_15 : decode b_By_stop 15 = .ok (.iconst 2, 1) := by decide +kernel
theorem d_By_stop_16 : decode b_By_stop 16 = .ok (.if_icmp .ge 5, 3) := by decide +kernel
theorem d_By_stop_19 : decode b_By_stop 19 = .ok (.iconst (-1), 1) := by decide +kernel
theorem d_By_stop_20 : decode b_By_stop 20 = .ok (.ireturn, 1) := by decide +kernel
theorem d_By_stop_21 : decode b_By_stop 21 = .ok (.aload_n 0, 1) := by decide +kernel
theorem d_By_stop_22 : decode b_By_stop 22 = .ok (.getfield 15, 3) := by decide +kernel
theorem d_By_stop_25 : decode b_By_stop 25 = .ok (.iload_n 1, 1) := by decide +kernel
theorem d_By_stop_26 : decode b_By_stop 26 = .ok (.iconst 1, 1) := by decide +kernel
theorem d_By_stop_27 : decode b_By_stop 27 = .ok (.iadd, 1) := by decide +kernel
theorem d_By_stop_28 : decode b_By_stop 28 = .ok (.baload, 1) := by decide +kernel
theorem d_By_stop_29 : decode b_By_stop 29 = .ok (.sipush 255, 3) := by decide +kernel
theorem d_By_stop_32 : decode b_By_stop 32 = .ok (.iand, 1) := by decide +kernel
theorem d_By_stop_33 : decode b_By_stop 33 = .ok (.istore_n 3, 1) := by decide +kernel
theorem d_By_stop_34 : decode b_By_stop 34 = .ok (.iload_n 1, 1) := by decide +kernel
theorem d_By_stop_35 : decode b_By_stop 35 = .ok (.iconst 2, 1) := by decide +kernel
theorem d_By_stop_36 : decode b_By_stop 36 = .ok (.iadd, 1) := by decide +kernel
theorem d_By_stop_37 : decode b_By_stop 37 = .ok (.istore 4, 2) := by decide +kernel
theorem d_By_stop_39 : decode b_By_stop 39 = .ok (.iload_n 3, 1) := by decide +kernel
theorem d_By_stop_40 : decode b_By_stop 40 = .ok (.sipush 128, 3) := by decide +kernel
theorem d_By_stop_43 : decode b_By_stop 43 = .ok (.if_icmp .lt 111, 3) := by decide +kernel
theorem d_By_stop_46 : decode b_By_stop 46 = .ok (.iload_n 3, 1) := by decide +kernel
theorem d_By_stop_47 : decode b_By_stop 47 = .ok (.sipush 128, 3) := by decide +kernel
theorem d_By_stop_50 : decode b_By_stop 50 = .ok (.isub, 1) := by decide +kernel
theorem d_By_stop_51 : decode b_By_stop 51 = .ok (.istore 5, 2) := by decide +kernel
theorem d_By_stop_53 : decode b_By_stop 53 = .ok (.iload 5, 2) := by decide +kernel
theorem d_By_stop_55 : decode b_By_stop 55 = .ok (.iconst 1, 1) := by decide +kernel
theorem d_By_stop_56 : decode b_By_stop 56 = .ok (.if_icmp .lt 18, 3) := by decide +kernel
theorem d_By_stop_59 : decode b_By_stop 59 = .ok (.iload 5, 2) := by decide +kernel
theorem d_By_stop_61 : decode b_By_stop 61 = .ok (.iconst 2, 1) := by decide +kernel
theorem d_By_stop_62 : decode b_By_stop 62 = .ok (.if_icmp .gt 12, 3) := by decide +kernel
theorem d_By_stop_65 : decode b_By_stop 65 = .ok (.iload 5, 2) := by decide +kernel
theorem d_By_stop_67 : decode b_By_stop 67 = .ok (.iload_n 2, 1) := by decide +kernel
theorem d_By_stop_68 : decode b_By_stop 68 = .ok (.iload 4, 2) := by decide +kernel
theorem d_By_stop_70 : decode b_By_stop 70 = .ok (.isub, 1) := by decide +kernel
theorem d_By_stop_71 : decode b_By_stop 71 = .ok (.if_icmp .le 5, 3) := by decide +kernel
theorem d_By_stop_74 : decode b_By_stop 74 = .ok (.iconst (-1), 1) := by decide +kernel
theorem d_By_stop_75 : decode b_By_stop 75 = .ok (.ireturn, 1) := by decide +kernel
theorem d_By_stop_76 : decode b_By_stop 76 = .ok (.iload 5, 2) := by decide +kernel
theorem d_By_stop_78 : decode b_By_stop 78 = .ok (.iconst 1, 1) := by decide +kernel
theorem d_By_stop_79 : decode b_By_stop 79 = .ok (.if_icmp .ne 17, 3) := by decide +kernel
theorem d_By_stop_82 : decode b_By_stop 82 = .ok (.aload_n 0, 1) := by decide +kernel
theorem d_By_stop_83 : decode b_By_stop 83 = .ok (.getfield 15, 3) := by decide +kernel
theorem d_By_stop_86 : decode b_By_stop 86 = .ok (.iload 4, 2) := by decide +kernel
theorem d_By_stop_88 : decode b_By_stop 88 = .ok (.baload, 1) := by decide +kernel
theorem d_By_stop_89 : decode b_By_stop 89 = .ok (.sipush 255, 3) := by decide +kernel
theorem d_By_stop_92 : decode b_By_stop 92 = .ok (.iand, 1) := by decide +kernel
theorem d_By_stop_93 : decode b_By_stop 93 = .ok (.goto 32, 3) := by decide +kernel
theorem d_By_stop_96 : decode b_By_stop 96 = .ok (.aload_n 0, 1) := by decide +kernel
theorem d_By_stop_97 : decode b_By_stop 97 = .ok (.getfield 15, 3) := by decide +kernel
theorem d_By_stop_100 : decode b_By_stop 100 = .ok (.iload 4, 2) := by decide +kernel
theorem d_By_stop_102 : decode b_By_stop 102 = .ok (.baload, 1) := by decide +kernel
theorem d_By_stop_103 : decode b_By_stop 103 = .ok (.sipush 255, 3) := by decide +kernel
theorem d_By_stop_106 : decode b_By_stop 106 = .ok (.iand, 1) := by decide +kernel
theorem d_By_stop_107 : decode b_By_stop 107 = .ok (.sipush 256, 3) := by decide +kernel
theorem d_By_stop_110 : decode b_By_stop 110 = .ok (.imul, 1) := by decide +kernel
theorem d_By_stop_111 : decode b_By_stop 111 = .ok (.aload_n 0, 1) := by decide +kernel
theorem d_By_stop_112 : decode b_By_stop 112 = .ok (.getfield 15, 3) := by decide +kernel
theorem d_By_stop_115 : decode b_By_stop 115 = .ok (.iload 4, 2) := by decide +kernel
theorem d_By_stop_117 : decode b_By_stop 117 = .ok (.iconst 1, 1) := by decide +kernel
theorem d_By_stop_118 : decode b_By_stop 118 = .ok (.iadd, 1) := by decide +kernel
theorem d_By_stop_119 : decode b_By_stop 119 = .ok (.baload, 1) := by decide +kernel
theorem d_By_stop_120 : decode b_By_stop 120 = .ok (.sipush 255, 3) := by decide +kernel
theorem d_By_stop_123 : decode b_By_stop 123 = .ok (.iand, 1) := by decide +kernel
theorem d_By_stop_124 : decode b_By_stop 124 = .ok (.iadd, 1) := by decide +kernel
theorem d_By_stop_125 : decode b_By_stop 125 = .ok (.istore_n 3, 1) := by decide +kernel
theorem d_By_stop_126 : decode b_By_stop 126 = .ok (.iload 4, 2) := by decide +kernel
theorem d_By_stop_128 : decode b_By_stop 128 = .ok (.iload 5, 2) := by decide +kernel
theorem d_By_stop_130 : decode b_By_stop 130 = .ok (.iadd, 1) := by decide +kernel
theorem d_By_stop_131 : decode b_By_stop 131 = .ok (.istore 4, 2) := by decide +kernel
theorem d_By_stop_133 : decode b_By_stop 133 = .ok (.iload_n 3, 1) := by decide +kernel
theorem d_By_stop_134 : decode b_By_stop 134 = .ok (.iload 5, 2) := by decide +kernel
theorem d_By_stop_136 : decode b_By_stop 136 = .ok (.iconst 1, 1) := by decide +kernel
theorem d_By_stop_137 : decode b_By_stop 137 = .ok (.if_icmp .ne 9, 3) := by decide +kernel
theorem d_By_stop_140 : decode b_By_stop 140 = .ok (.sipush 128, 3) := by decide +kernel
theorem d_By_stop_143 : decode b_By_stop 143 = .ok (.goto 6, 3) := by decide +kernel
theorem d_By_stop_146 : decode b_By_stop 146 = .ok (.sipush 256, 3) := by decide +kernel
theorem d_By_stop_149 : decode b_By_stop 149 = .ok (.if_icmp .ge 5, 3) := by decide +kernel
theorem d_By_stop_152 : decode b_By_stop 152 = .ok (.iconst (-1), 1) := by decide +kernel
theorem d_By_stop_153 : decode b_By_stop 153 = .ok (.ireturn, 1) := by decide +kernel
theorem d_By_stop_154 : decode b_By_stop 154 = .ok (.iload_n 3, 1) := by decide +kernel
theorem d_By_stop_155 : decode b_By_stop 155 = .ok (.iload_n 2, 1) := by decide +kernel
theorem d_By_stop_156 : decode b_By_stop 156 = .ok (.iload 4, 2) := by decide +kernel
theorem d_By_stop_158 : decode b_By_stop 158 = .ok (.isub, 1) := by decide +kernel
theorem d_By_stop_159 : decode b_By_stop 159 = .ok (.if_icmp .gt 10, 3) := by decide +kernel
theorem d_By_stop_162 : decode b_By_stop 162 = .ok (.iload 4, 2) := by decide +kernel
theorem d_By_stop_164 : decode b_By_stop 164 = .ok (.iload_n 3, 1) := by decide +kernel
theorem d_By_stop_165 : decode b_By_stop 165 = .ok (.iadd, 1) := by decide +kernel
theorem d_By_stop_166 : decode b_By_stop 166 = .ok (.goto 4, 3) := by decide +kernel
theorem d_By_stop_169 : decode b_By_stop 169 = .ok (.iconst (-1), 1) := by decide +kernel
theorem d_By_stop_170 : decode b_By_stop 170 = .ok (.ireturn, 1) := by decide +kernel
abbrev b_By_body : ByteArray := prog_4_method_32_code
def y_By_body : MethodName := ⟨R_By, "body", "(I)I"⟩
abbrev k_By_body : Cond := .code y_By_body b_By_body 3 (some .int)
theorem ki_By_body : k_By_body ∈ lw_tg := in_t 578 (by decide +kernel)
theorem ks_By_body : Cond.instanceMethod y_By_body ∈ lw_tg := in_t 576 (by decide +kernel)
theorem kx_By_body : Cond.selects R_By y_By_body y_By_body ∈ lw_tg := in_t 577 (by decide +kernel)
theorem kl_Va_By_body : Cond.methodLink R_Va 71 y_By_body ∈ lw_tg := in_t 575 (by decide +kernel)
theorem kl_By_By_body : Cond.methodLink R_By 126 y_By_body ∈ lw_tg := in_t 852 (by decide +kernel)
theorem kl_H_By_body : Cond.methodLink R_H 160 y_By_body ∈ lw_tg := in_t 957 (by decide +kernel)
theorem kl_Ga_By_body : Cond.methodLink R_Ga 133 y_By_body ∈ lw_tg := in_t 1077 (by decide +kernel)
theorem kl_Ce_By_body : Cond.methodLink R_Ce 160 y_By_body ∈ lw_tg := in_t 1138 (by decide +kernel)
theorem kl_Ti_By_body : Cond.methodLink R_Ti 56 y_By_body ∈ lw_tg := in_t 1522 (by decide +kernel)
theorem kl_So_By_body : Cond.methodLink R_So 186 y_By_body ∈ lw_tg := in_t 1666 (by decide +kernel)
theorem hd_By_body : y_By_body.cls = R_By ∧ y_By_body.cls ≠ "java/lang/invoke/MethodHandle" ∧ y_By_body.cls ≠ "java/lang/invoke/VarHandle" ∧ (parseMethodDescriptor y_By_body.desc).map (fun d => d.parameters.length) = some 1 := by decide +kernel
theorem d_By_body_0 : decode b_By_body 0 = .ok (.iload_n 1, 1) := by decide +kernel
theorem d_By_body_1 : decode b_By_body 1 = .ok (.ifCond .lt 13, 3) := by decide +kernel
theorem d_By_body_4 : decode b_By_body 4 = .ok (.iload_n 1, 1) := by decide +kernel
theorem d_By_body_5 : decode b_By_body 5 = .ok (.iconst 1, 1) := by decide +kernel
theorem d_By_body_6 : decode b_By_body 6 = .ok (.iadd, 1) := by decide +kernel
theorem d_By_body_7 : decode b_By_body 7 = .ok (.aload_n 0, 1) := by decide +kernel
theorem d_By_body_8 : decode b_By_body 8 = .ok (.getfield 21, 3) := by decide +kernel
theorem d_By_body_11 : decode b_By_body 11 = .ok (.if_icmp .lt 5, 3) := by decide +kernel
theorem d_By_body_14 : decode b_By_body 14 = .ok (.iconst (-1), 1) := by decide +kernel
theorem d_By_body_15 : decode b_By_body 15 = .ok (.ireturn, 1) := by decide +kernel
theorem d_By_body_16 : decode b_By_body 16 = .ok (.aload_n 0, 1) := by decide +kernel
theorem d_By_body_17 : decode b_By_body 17 = .ok (.getfield 15, 3) := by decide +kernel
theorem d_By_body_20 : decode b_By_body 20 = .ok (.iload_n 1, 1) := by decide +kernel
theorem d_By_body_21 : decode b_By_body 21 = .ok (.iconst 1, 1) := by decide +kernel
theorem d_By_body_22 : decode b_By_body 22 = .ok (.iadd, 1) := by decide +kernel
theorem d_By_body_23 : decode b_By_body 23 = .ok (.baload, 1) := by decide +kernel
theorem d_By_body_24 : decode b_By_body 24 = .ok (.sipush 255, 3) := by decide +kernel
theorem d_By_body_27 : decode b_By_body 27 = .ok (.iand, 1) := by decide +kernel
theorem d_By_body_28 : decode b_By_body 28 = .ok (.istore_n 2, 1) := by decide +kernel
theorem d_By_body_29 : decode b_By_body 29 = .ok (.iload_n 2, 1) := by decide +kernel
theorem d_By_body_30 : decode b_By_body 30 = .ok (.sipush 128, 3) := by decide +kernel
theorem d_By_body_33 : decode b_By_body 33 = .ok (.if_icmp .ge 9, 3) := by decide +kernel
theorem d_By_body_36 : decode b_By_body 36 = .ok (.iload_n 1, 1) := by decide +kernel
theorem d_By_body_37 : decode b_By_body 37 = .ok (.iconst 2, 1) := by decide +kernel
theorem d_By_body_38 : decode b_By_body 38 = .ok (.iadd, 1) := by decide +kernel
theorem d_By_body_39 : decode b_By_body 39 = .ok (.goto 12, 3) := by decide +kernel
theorem d_By_body_42 : decode b_By_body 42 = .ok (.iload_n 1, 1) := by decide +kernel
theorem d_By_body_43 : decode b_By_body 43 = .ok (.iconst 2, 1) := by decide +kernel
theorem d_By_body_44 : decode b_By_body 44 = .ok (.iadd, 1) := by decide +kernel
theorem d_By_body_45 : decode b_By_body 45 = .ok (.iload_n 2, 1) := by decide +kernel
theorem d_By_body_46 : decode b_By_body 46 = .ok (.iadd, 1) := by decide +kernel
theorem d_By_body_47 : decode b_By_body 47 = .ok (.sipush 128, 3) := by decide +kernel
theorem d_By_body_50 : decode b_By_body 50 = .ok (.isub, 1) := by decide +kernel
theorem d_By_body_51 : decode b_By_body 51 = .ok (.ireturn, 1) := by decide +kernel
abbrev b_By_field : ByteArray := prog_4_method_33_code
def y_By_field : MethodName := ⟨R_By, "field", "(II)I"⟩
abbrev k_By_field : Cond := .code y_By_field b_By_field 8 (some .int)
theorem ki_By_field : k_By_field ∈ lw_tg := in_t 928 (by decide +kernel)
theorem ks_By_field : Cond.instanceMethod y_By_field ∈ lw_tg := in_t 926 (by decide +kernel)
theorem kx_By_field : Cond.selects R_By y_By_field y_By_field ∈ lw_tg := in_t 927 (by decide +kernel)
theorem kl_Ce_By_field : Cond.methodLink R_Ce 48 y_By_field ∈ lw_tg := in_t 925 (by decide +kernel)
theorem kl_Ga_By_field : Cond.methodLink R_Ga 42 y_By_field ∈ lw_tg := in_t 963 (by decide +kernel)
theorem kl_By_By_field : Cond.methodLink R_By 140 y_By_field ∈ lw_tg := in_t 982 (by decide +kernel)
theorem kl_Va_By_field : Cond.methodLink R_Va 61 y_By_field ∈ lw_tg := in_t 1003 (by decide +kernel)
theorem kl_Ag_By_field : Cond.methodLink R_Ag 246 y_By_field ∈ lw_tg := in_t 1485 (by decide +kernel)
theorem kl_Ti_By_field : Cond.methodLink R_Ti 52 y_By_field ∈ lw_tg := in_t 1521 (by decide +kernel)
theorem kl_H_By_field : Cond.methodLink R_H 249 y_By_field ∈ lw_tg := in_t 1576 (by decide +kernel)
theorem kl_So_By_field : Cond.methodLink R_So 45 y_By_field ∈ lw_tg := in_t 1583 (by decide +kernel)
theorem hd_By_field : y_By_field.cls = R_By ∧ y_By_field.cls ≠ "java/lang/invoke/MethodHandle" ∧ y_By_field.cls ≠ "java/lang/invoke/VarHandle" ∧ (parseMethodDescriptor y_By_field.desc).map (fun d => d.parameters.length) = some 2 := by decide +kernel
theorem d_By_field_0 : decode b_By_field 0 = .ok (.iload_n 1, 1) := by decide +kernel
theorem d_By_field_1 : decode b_By_field 1 = .ok (.ifCond .lt 24, 3) := by decide +kernel
theorem d_By_field_4 : decode b_By_field 4 = .ok (.iload_n 1, 1) := by decide +kernel
theorem d_By_field_5 : decode b_By_field 5 = .ok (.aload_n 0, 1) := by decide +kernel
theorem d_By_field_6 : decode b_By_field 6 = .ok (.getfield 21, 3) := by decide +kernel
theorem d_By_field_9 : decode b_By_field 9 = .ok (.if_icmp .ge 16, 3) := by decide +kernel
theorem d_By_field_12 : decode b_By_field 12 = .ok (.aload_n 0, 1) := by decide +kernel
theorem d_By_field_13 : decode b_By_field 13 = .ok (.getfield 15, 3) := by decide +kernel
theorem d_By_field_16 : decode b_By_field 16 = .ok (.iload_n 1, 1) := by decide +kernel
theorem d_By_field_17 : decode b_By_field 17 = .ok (.baload, 1) := by decide +kernel
theorem d_By_field_18 : decode b_By_field 18 = .ok (.sipush 224, 3) := by decide +kernel
theorem d_By_field_21 : decode b_By_field 21 = .ok (.iand, 1) := by decide +kernel
theorem d_By_field_22 : decode b_By_field 22 = .ok (.goto 4, 3) := by decide +kernel
theorem d_By_field_25 : decode b_By_field 25 = .ok (.iconst 0, 1) := by decide +kernel
theorem d_By_field_26 : decode b_By_field 26 = .ok (.istore_n 3, 1) := by decide +kernel
theorem d_By_field_27 : decode b_By_field 27 = .ok (.iload_n 3, 1) := by decide +kernel
theorem d_By_field_28 : decode b_By_field 28 = .ok (.bipush 96, 2) := by decide +kernel
theorem d_By_field_30 : decode b_By_field 30 = .ok (.if_icmp .ne 11, 3) := by decide +kernel
theorem d_By_field_33 : decode b_By_field 33 = .ok (.aload_n 0, 1) := by decide +kernel
theorem d_By_field_34 : decode b_By_field 34 = .ok (.iload_n 1, 1) := by decide +kernel
theorem d_By_field_35 : decode b_By_field 35 = .ok (.invokevirtual 126, 3) := by decide +kernel
theorem d_By_field_38 : decode b_By_field 38 = .ok (.goto 4, 3) := by decide +kernel
theorem d_By_field_41 : decode b_By_field 41 = .ok (.iload_n 1, 1) := by decide +kernel
theorem d_By_field_42 : decode b_By_field 42 = .ok (.istore 4, 2) := by decide +kernel
theorem d_By_field_44 : decode b_By_field 44 = .ok (.aload_n 0, 1) := by decide +kernel
theorem d_By_field_45 : decode b_By_field 45 = .ok (.iload 4, 2) := by decide +kernel
theorem d_By_field_47 : decode b_By_field 47 = .ok (.aload_n 0, 1) := by decide +kernel
theorem d_By_field_48 : decode b_By_field 48 = .ok (.getfield 21, 3) := by decide +kernel
theorem d_By_field_51 : decode b_By_field 51 = .ok (.invokevirtual 98, 3) := by decide +kernel
theorem d_By_field_54 : decode b_By_field 54 = .ok (.istore 5, 2) := by decide +kernel
theorem d_By_field_56 : decode b_By_field 56 = .ok (.aload_n 0, 1) := by decide +kernel
theorem d_By_field_57 : decode b_By_field 57 = .ok (.iload 4, 2) := by decide +kernel
theorem d_By_field_59 : decode b_By_field 59 = .ok (.invokevirtual 126, 3) := by decide +kernel
theorem d_By_field_62 : decode b_By_field 62 = .ok (.istore 6, 2) := by decide +kernel
theorem d_By_field_64 : decode b_By_field 64 = .ok (.iconst 0, 1) := by decide +kernel
theorem d_By_field_65 : decode b_By_field 65 = .ok (.istore 7, 2) := by decide +kernel
theorem d_By_field_67 : decode b_By_field 67 = .ok (.iload 7, 2) := by decide +kernel
theorem d_By_field_69 : decode b_By_field 69 = .ok (.bipush 13, 2) := by decide +kernel
theorem d_By_field_71 : decode b_By_field 71 = .ok (.if_icmp .ge 57, 3) := by decide +kernel
theorem d_By_field_74 : decode b_By_field 74 = .ok (.iload 6, 2) := by decide +kernel
theorem d_By_field_76 : decode b_By_field 76 = .ok (.ifCond .lt 52, 3) := by decide +kernel
theorem d_By_field_79 : decode b_By_field 79 = .ok (.iload 6, 2) := by decide +kernel
theorem d_By_field_81 : decode b_By_field 81 = .ok (.iload 5, 2) := by decide +kernel
theorem d_By_field_83 : decode b_By_field 83 = .ok (.if_icmp .ge 45, 3) := by decide +kernel
theorem d_By_field_86 : decode b_By_field 86 = .ok (.aload_n 0, 1) := by decide +kernel
theorem d_By_field_87 : decode b_By_field 87 = .ok (.getfield 15, 3) := by decide +kernel
theorem d_By_field_90 : decode b_By_field 90 = .ok (.iload 6, 2) := by decide +kernel
theorem d_By_field_92 : decode b_By_field 92 = .ok (.baload, 1) := by decide +kernel
theorem d_By_field_93 : decode b_By_field 93 = .ok (.sipush 255, 3) := by decide +kernel
theorem d_By_field_96 : decode b_By_field 96 = .ok (.iand, 1) := by decide +kernel
theorem d_By_field_97 : decode b_By_field 97 = .ok (.sipush 160, 3) := by decide +kernel
theorem d_By_field_100 : decode b_By_field 100 = .ok (.iload_n 2, 1) := by decide +kernel
theorem d_By_field_101 : decode b_By_field 101 = .ok (.iadd, 1) := by decide +kernel
theorem d_By_field_102 : decode b_By_field 102 = .ok (.if_icmp .ne 10, 3) := by decide +kernel
theorem d_By_field_105 : decode b_By_field 105 = .ok (.aload_n 0, 1) := by decide +kernel
theorem d_By_field_106 : decode b_By_field 106 = .ok (.iload 6, 2) := by decide +kernel
theorem d_By_field_108 : decode b_By_field 108 = .ok (.invokevirtual 126, 3) := by decide +kernel
theorem d_By_field_111 : decode b_By_field 111 = .ok (.ireturn, 1) := by decide +kernel
theorem d_By_field_112 : decode b_By_field 112 = .ok (.aload_n 0, 1) := by decide +kernel
theorem d_By_field_113 : decode b_By_field 113 = .ok (.iload 6, 2) := by decide +kernel
theorem d_By_field_115 : decode b_By_field 115 = .ok (.iload 5, 2) := by decide +kernel
theorem d_By_field_117 : decode b_By_field 117 = .ok (.invokevirtual 98, 3) := by decide +kernel
theorem d_By_field_120 : decode b_By_field 120 = .ok (.istore 6, 2) := by decide +kernel
theorem d_By_field_122 : decode b_By_field 122 = .ok (.iinc 7 1, 3) := by decide +kernel
theorem d_By_field_125 : decode b_By_field 125 = .ok (.goto (-58), 3) := by decide +kernel
theorem d_By_field_128 : decode b_By_field 128 = .ok (.iconst (-1), 1) := by decide +kernel
theorem d_By_field_129 : decode b_By_field 129 = .ok (.ireturn, 1) := by decide +kernel
abbrev b_By_element : ByteArray := prog_4_method_34_code
def y_By_element : MethodName := ⟨R_By, "element", "(II)I"⟩
abbrev k_By_element : Cond := .code y_By_element b_By_element 6 (some .int)
theorem ki_By_element : k_By_element ∈ lw_tg := in_t 954 (by decide +kernel)
theorem ks_By_element : Cond.instanceMethod y_By_element ∈ lw_tg := in_t 952 (by decide +kernel)
theorem kx_By_element : Cond.selects R_By y_By_element y_By_element ∈ lw_tg := in_t 953 (by decide +kernel)
theorem kl_Ce_By_element : Cond.methodLink R_Ce 54 y_By_element ∈ lw_tg := in_t 951 (by decide +kernel)
theorem kl_So_By_element : Cond.methodLink R_So 235 y_By_element ∈ lw_tg := in_t 1735 (by decide +kernel)
theorem kl_Ag_By_element : Cond.methodLink R_Ag 304 y_By_element ∈ lw_tg := in_t 1743 (by decide +kernel)
theorem hd_By_element : y_By_element.cls = R_By ∧ y_By_element.cls ≠ "java/lang/invoke/MethodHandle" ∧ y_By_element.cls ≠ "java/lang/invoke/VarHandle" ∧ (parseMethodDescriptor y_By_element.desc).map (fun d => d.parameters.length) = some 2 := by decide +kernel
theorem d_By_element_0 : decode b_By_element 0 = .ok (.aload_n 0, 1) := by decide +kernel
theorem d_By_element_1 : decode b_By_element 1 = .ok (.iload_n 1, 1) := by decide +kernel
theorem d_By_element_2 : decode b_By_element 2 = .ok (.aload_n 0, 1) := by decide +kernel
theorem d_By_element_3 : decode b_By_element 3 = .ok (.getfield 21, 3) := by decide +kernel
theorem d_By_element_6 : decode b_By_element 6 = .ok (.invokevirtual 98, 3) := by decide +kernel
theorem d_By_element_9 : decode b_By_element 9 = .ok (.istore_n 3, 1) := by decide +kernel
theorem d_By_element_10 : decode b_By_element 10 = .ok (.aload_n 0, 1) := by decide +kernel
theorem d_By_element_11 : decode b_By_element 11 = .ok (.iload_n 1, 1) := by decide +kernel
theorem d_By_element_12 : decode b_By_element 12 = .ok (.invokevirtual 126, 3) := by decide +kernel
theorem d_By_element_15 : decode b_By_element 15 = .ok (.istore 4, 2) := by decide +kernel
theorem d_By_element_17 : decode b_By_element 17 = .ok (.iconst 0, 1) := by decide +kernel
theorem d_By_element_18 : decode b_By_element 18 = .ok (.istore 5, 2) := by decide +kernel
theorem d_By_element_20 : decode b_By_element 20 = .ok (.iload 5, 2) := by decide +kernel
theorem d_By_element_22 : decode b_By_element 22 = .ok (.bipush 16, 2) := by decide +kernel
theorem d_By_element_24 : decode b_By_element 24 = .ok (.if_icmp .ge 38, 3) := by decide +kernel
theorem d_By_element_27 : decode b_By_element 27 = .ok (.iload 4, 2) := by decide +kernel
theorem d_By_element_29 : decode b_By_element 29 = .ok (.ifCond .lt 33, 3) := by decide +kernel
theorem d_By_element_32 : decode b_By_element 32 = .ok (.iload 4, 2) := by decide +kernel
theorem d_By_element_34 : decode b_By_element 34 = .ok (.iload_n 3, 1) := by decide +kernel
theorem d_By_element_35 : decode b_By_element 35 = .ok (.if_icmp .ge 27, 3) := by decide +kernel
theorem d_By_element_38 : decode b_By_element 38 = .ok (.iload 5, 2) := by decide +kernel
theorem d_By_element_40 : decode b_By_element 40 = .ok (.iload_n 2, 1) := by decide +kernel
theorem d_By_element_41 : decode b_By_element 41 = .ok (.if_icmp .ne 6, 3) := by decide +kernel
theorem d_By_element_44 : decode b_By_element 44 = .ok (.iload 4, 2) := by decide +kernel
theorem d_By_element_46 : decode b_By_element 46 = .ok (.ireturn, 1) := by decide +kernel
theorem d_By_element_47 : decode b_By_element 47 = .ok (.aload_n 0, 1) := by decide +kernel
theorem d_By_element_48 : decode b_By_element 48 = .ok (.iload 4, 2) := by decide +kernel
theorem d_By_element_50 : decode b_By_element 50 = .ok (.iload_n 3, 1) := by decide +kernel
theorem d_By_element_51 : decode b_By_element 51 = .ok (.invokevirtual 98, 3) := by decide +kernel
theorem d_By_element_54 : decode b_By_element 54 = .ok (.istore 4, 2) := by decide +kernel
theorem d_By_element_56 : decode b_By_element 56 = .ok (.iinc 5 1, 3) := by decide +kernel
theorem d_By_element_59 : decode b_By_element 59 = .ok (.goto (-39), 3) := by decide +kernel
theorem d_By_element_62 : decode b_By_element 62 = .ok (.iconst (-1), 1) := by decide +kernel
theorem d_By_element_63 : decode b_By_element 63 = .ok (.ireturn, 1) := by decide +kernel
abbrev b_By_numberAt : ByteArray := prog_4_method_35_code
def y_By_numberAt : MethodName := ⟨R_By, "numberAt", "(I)J"⟩
abbrev k_By_numberAt : Cond := .code y_By_numberAt b_By_numberAt 4 (some .long)
theorem ki_By_numberAt : k_By_numberAt ∈ lw_tg := in_t 932 (by decide +kernel)
theorem ks_By_numberAt : Cond.instanceMethod y_By_numberAt ∈ lw_tg := in_t 930 (by decide +kernel)
theorem kx_By_numberAt : Cond.selects R_By y_By_numberAt y_By_numberAt ∈ lw_tg := in_t 931 (by decide +kernel)
theorem kl_Ce_By_numberAt : Cond.methodLink R_Ce 57 y_By_numberAt ∈ lw_tg := in_t 929 (by decide +kernel)
theorem kl_Ga_By_numberAt : Cond.methodLink R_Ga 46 y_By_numberAt ∈ lw_tg := in_t 964 (by decide +kernel)
theorem kl_Va_By_numberAt : Cond.methodLink R_Va 65 y_By_numberAt ∈ lw_tg := in_t 1004 (by decide +kernel)
theorem kl_Ag_By_numberAt : Cond.methodLink R_Ag 249 y_By_numberAt ∈ lw_tg := in_t 1486 (by decide +kernel)
theorem kl_Ti_By_numberAt : Cond.methodLink R_Ti 60 y_By_numberAt ∈ lw_tg := in_t 1523 (by decide +kernel)
theorem kl_So_By_numberAt : Cond.methodLink R_So 69 y_By_numberAt ∈ lw_tg := in_t 1586 (by decide +kernel)
theorem hd_By_numberAt : y_By_numberAt.cls = R_By ∧ y_By_numberAt.cls ≠ "java/lang/invoke/MethodHandle" ∧ y_By_numberAt.cls ≠ "java/lang/invoke/VarHandle" ∧ (parseMethodDescriptor y_By_numberAt.desc).map (fun d => d.parameters.length) = some 1 := by decide +kernel
theorem d_By_numberAt_0 : decode b_By_numberAt 0 = .ok (.aload_n 0, 1) := by decide +kernel
theorem d_By_numberAt_1 : decode b_By_numberAt 1 = .ok (.iload_n 1, 1) := by decide +kernel
theorem d_By_numberAt_2 : decode b_By_numberAt 2 = .ok (.aload_n 0, 1) := by decide +kernel
theorem d_By_numberAt_3 : decode b_By_numberAt 3 = .ok (.getfield 21, 3) := by decide +kernel
theorem d_By_numberAt_6 : decode b_By_numberAt 6 = .ok (.invokevirtual 98, 3) := by decide +kernel
theorem d_By_numberAt_9 : decode b_By_numberAt 9 = .ok (.istore_n 2, 1) := by decide +kernel
theorem d_By_numberAt_10 : decode b_By_numberAt 10 = .ok (.aload_n 0, 1) := by decide +kernel
theorem d_By_numberAt_11 : decode b_By_numberAt 11 = .ok (.iload_n 1, 1) := by decide +kernel
theorem d_By_numberAt_12 : decode b_By_numberAt 12 = .ok (.invokevirtual 126, 3) := by decide +kernel
theorem d_By_numberAt_15 : decode b_By_numberAt 15 = .ok (.istore_n 3, 1) := by decide +kernel
theorem d_By_numberAt_16 : decode b_By_numberAt 16 = .ok (.iload_n 2, 1) := by decide +kernel
theorem d_By_numberAt_17 : decode b_By_numberAt 17 = .ok (.iload_n 3, 1) := by decide +kernel
theorem d_By_numberAt_18 : decode b_By_numberAt 18 = .ok (.if_icmp .le 16, 3) := by decide +kernel
theorem d_By_numberAt_21 : decode b_By_numberAt 21 = .ok (.iload_n 3, 1) := by decide +kernel
theorem d_By_numberAt_22 : decode b_By_numberAt 22 = .ok (.ifCond .lt 12, 3) := by decide +kernel
theorem d_By_numberAt_25 : decode b_By_numberAt 25 = .ok (.aload_n 0, 1) := by decide +kernel
theorem d_By_numberAt_26 : decode b_By_numberAt 26 = .ok (.iload_n 3, 1) := by decide +kernel
theorem d_By_numberAt_27 : decode b_By_numberAt 27 = .ok (.iload_n 2, 1) := by decide +kernel
theorem d_By_numberAt_28 : decode b_By_numberAt 28 = .ok (.invokevirtual 129, 3) := by decide +kernel
theorem d_By_numberAt_31 : decode b_By_numberAt 31 = .ok (.goto 4, 3) := by decide +kernel
theorem d_By_numberAt_34 : decode b_By_numberAt 34 = .ok (.lconst 0, 1) := by decide +kernel
theorem d_By_numberAt_35 : decode b_By_numberAt 35 = .ok (.lreturn, 1) := by decide +kernel
abbrev b_By_number : ByteArray := prog_4_method_36_code
def y_By_number : MethodName := ⟨R_By, "number", "(II)J"⟩
abbrev k_By_number : Cond := .code y_By_number b_By_number 6 (some .long)
theorem ki_By_number : k_By_number ∈ lw_tg := in_t 862 (by decide +kernel)
theorem ks_By_number : Cond.instanceMethod y_By_number ∈ lw_tg := in_t 861 (by decide +kernel)
theorem kx_By_number : Cond.selects R_By y_By_number y_By_number ∈ lw_tg := List.mem_filter.mpr ⟨List.mem_append_left _ (List.mem_of_getElem? (i := 12) (by decide +kernel)), rfl⟩
theorem kl_By_By_number : Cond.methodLink R_By 129 y_By_number ∈ lw_tg := in_t 859 (by decide +kernel)
theorem hd_By_number : y_By_number.cls = R_By ∧ y_By_number.cls ≠ "java/lang/invoke/MethodHandle" ∧ y_By_number.cls ≠ "java/lang/invoke/VarHandle" ∧ (parseMethodDescriptor y_By_number.desc).map (fun d => d.parameters.length) = some 2 := by decide +kernel
theorem d_By_number_0 : decode b_By_number 0 = .ok (.aload_n 0, 1) := by decide +kernel
theorem d_By_number_1 : decode b_By_number 1 = .ok (.getfield 15, 3) := by decide +kernel
theorem d_By_number_4 : decode b_By_number 4 = .ok (.iload_n 1, 1) := by decide +kernel
theorem d_By_number_5 : decode b_By_number 5 = .ok (.baload, 1) := by decide +kernel
theorem d_By_number_6 : decode b_By_number 6 = .ok (.i2l, 1) := by decide +kernel
theorem d_By_number_7 : decode b_By_number 7 = .ok (.lstore_n 3, 1) := by decide +kernel
theorem d_By_number_8 : decode b_By_number 8 = .ok (.iload_n 1, 1) := by decide +kernel
theorem d_By_number_9 : decode b_By_number 9 = .ok (.iconst 1, 1) := by decide +kernel
theorem d_By_number_10 : decode b_By_number 10 = .ok (.iadd, 1) := by decide +kernel
theorem d_By_number_11 : decode b_By_number 11 = .ok (.istore 5, 2) := by decide +kernel
theorem d_By_number_13 : decode b_By_number 13 = .ok (.iload 5, 2) := by decide +kernel
theorem d_By_number_15 : decode b_By_number 15 = .ok (.iload_n 2, 1) := by decide +kernel
theorem d_By_number_16 : decode b_By_number 16 = .ok (.if_icmp .ge 36, 3) := by decide +kernel
theorem d_By_number_19 : decode b_By_number 19 = .ok (.iload 5, 2) := by decide +kernel
theorem d_By_number_21 : decode b_By_number 21 = .ok (.aload_n 0, 1) := by decide +kernel
theorem d_By_number_22 : decode b_By_number 22 = .ok (.getfield 21, 3) := by decide +kernel
theorem d_By_number_25 : decode b_By_number 25 = .ok (.if_icmp .ge 27, 3) := by decide +kernel
theorem d_By_number_28 : decode b_By_number 28 = .ok (.lload_n 3, 1) := by decide +kernel
theorem d_By_number_29 : decode b_By_number 29 = .ok (.bipush 8, 2) := by decide +kernel
theorem d_By_number_31 : decode b_By_number 31 = .ok (.lshl, 1) := by decide +kernel
theorem d_By_number_32 : decode b_By_number 32 = .ok (.aload_n 0, 1) := by decide +kernel
theorem d_By_number_33 : decode b_By_number 33 = .ok (.getfield 15, 3) := by decide +kernel
theorem d_By_number_36 : decode b_By_number 36 = .ok (.iload 5, 2) := by decide +kernel
theorem d_By_number_38 : decode b_By_number 38 = .ok (.baload, 1) := by decide +kernel
theorem d_By_number_39 : decode b_By_number 39 = .ok (.sipush 255, 3) := by decide +kernel
theorem d_By_number_42 : decode b_By_number 42 = .ok (.iand, 1) := by decide +kernel
theorem d_By_number_43 : decode b_By_number 43 = .ok (.i2l, 1) := by decide +kernel
theorem d_By_number_44 : decode b_By_number 44 = .ok (.lor, 1) := by decide +kernel
theorem d_By_number_45 : decode b_By_number 45 = .ok (.lstore_n 3, 1) := by decide +kernel
theorem d_By_number_46 : decode b_By_number 46 = .ok (.iinc 5 1, 3) := by decide +kernel
theorem d_By_number_49 : decode b_By_number 49 = .ok (.goto (-36), 3) := by decide +kernel
theorem d_By_number_52 : decode b_By_number 52 = .ok (.lload_n 3, 1) := by decide +kernel
theorem d_By_number_53 : decode b_By_number 53 = .ok (.lreturn, 1) := by decide +kernel
abbrev b_By_bitsAt : ByteArray := prog_4_method_37_code
def y_By_bitsAt : MethodName := ⟨R_By, "bitsAt", "(I)I"⟩
abbrev k_By_bitsAt : Cond := .code y_By_bitsAt b_By_bitsAt 3 (some .int)
theorem ki_By_bitsAt : k_By_bitsAt ∈ lw_tg := in_t 937 (by decide +kernel)
theorem ks_By_bitsAt : Cond.instanceMethod y_By_bitsAt ∈ lw_tg := in_t 935 (by decide +kernel)
theorem kx_By_bitsAt : Cond.selects R_By y_By_bitsAt y_By_bitsAt ∈ lw_tg := in_t 936 (by decide +kernel)
theorem kl_Ce_By_bitsAt : Cond.methodLink R_Ce 84 y_By_bitsAt ∈ lw_tg := in_t 934 (by decide +kernel)
theorem kl_Ga_By_bitsAt : Cond.methodLink R_Ga 54 y_By_bitsAt ∈ lw_tg := in_t 967 (by decide +kernel)
theorem kl_Ti_By_bitsAt : Cond.methodLink R_Ti 83 y_By_bitsAt ∈ lw_tg := in_t 1528 (by decide +kernel)
theorem kl_H_By_bitsAt : Cond.methodLink R_H 252 y_By_bitsAt ∈ lw_tg := in_t 1577 (by decide +kernel)
theorem hd_By_bitsAt : y_By_bitsAt.cls = R_By ∧ y_By_bitsAt.cls ≠ "java/lang/invoke/MethodHandle" ∧ y_By_bitsAt.cls ≠ "java/lang/invoke/VarHandle" ∧ (parseMethodDescriptor y_By_bitsAt.desc).map (fun d => d.parameters.length) = some 1 := by decide +kernel
theorem d_By_bitsAt_0 : decode b_By_bitsAt 0 = .ok (.aload_n 0, 1) := by decide +kernel
theorem d_By_bitsAt_1 : decode b_By_bitsAt 1 = .ok (.iload_n 1, 1) := by decide +kernel
theorem d_By_bitsAt_2 : decode b_By_bitsAt 2 = .ok (.invokevirtual 126, 3) := by decide +kernel
theorem d_By_bitsAt_5 : decode b_By_bitsAt 5 = .ok (.istore_n 2, 1) := by decide +kernel
theorem d_By_bitsAt_6 : decode b_By_bitsAt 6 = .ok (.iload_n 2, 1) := by decide +kernel
theorem d_By_bitsAt_7 : decode b_By_bitsAt 7 = .ok (.ifCond .lt 13, 3) := by decide +kernel
theorem d_By_bitsAt_10 : decode b_By_bitsAt 10 = .ok (.iload_n 2, 1) := by decide +kernel
theorem d_By_bitsAt_11 : decode b_By_bitsAt 11 = .ok (.iconst 5, 1) := by decide +kernel
theorem d_By_bitsAt_12 : decode b_By_bitsAt 12 = .ok (.iadd, 1) := by decide +kernel
theorem d_By_bitsAt_13 : decode b_By_bitsAt 13 = .ok (.aload_n 0, 1) := by decide +kernel
theorem d_By_bitsAt_14 : decode b_By_bitsAt 14 = .ok (.getfield 21, 3) := by decide +kernel
theorem d_By_bitsAt_17 : decode b_By_bitsAt 17 = .ok (.if_icmp .le 5, 3) := by decide +kernel
theorem d_By_bitsAt_20 : decode b_By_bitsAt 20 = .ok (.iconst 0, 1) := by decide +kernel
theorem d_By_bitsAt_21 : decode b_By_bitsAt 21 = .ok (.ireturn, 1) := by decide +kernel
theorem d_By_bitsAt_22 : decode b_By_bitsAt 22 = .ok (.aload_n 0, 1) := by decide +kernel
theorem d_By_bitsAt_23 : decode b_By_bitsAt 23 = .ok (.iload_n 2, 1) := by decide +kernel
theorem d_By_bitsAt_24 : decode b_By_bitsAt 24 = .ok (.iconst 1, 1) := by decide +kernel
theorem d_By_bitsAt_25 : decode b_By_bitsAt 25 = .ok (.iadd, 1) := by decide +kernel
theorem d_By_bitsAt_26 : decode b_By_bitsAt 26 = .ok (.iload_n 2, 1) := by decide +kernel
theorem d_By_bitsAt_27 : decode b_By_bitsAt 27 = .ok (.iconst 5, 1) := by decide +kernel
theorem d_By_bitsAt_28 : decode b_By_bitsAt 28 = .ok (.iadd, 1) := by decide +kernel
theorem d_By_bitsAt_29 : decode b_By_bitsAt 29 = .ok (.invokevirtual 129, 3) := by decide +kernel
theorem d_By_bitsAt_32 : decode b_By_bitsAt 32 = .ok (.l2i, 1) := by decide +kernel
theorem d_By_bitsAt_33 : decode b_By_bitsAt 33 = .ok (.ireturn, 1) := by decide +kernel
abbrev b_By_hasFarBits : ByteArray := prog_4_method_38_code
def y_By_hasFarBits : MethodName := ⟨R_By, "hasFarBits", "(I)Z"⟩
abbrev k_By_hasFarBits : Cond := .code y_By_hasFarBits b_By_hasFarBits 5 (some .boolean)
theorem ki_By_hasFarBits : k_By_hasFarBits ∈ lw_tg := in_t 972 (by decide +kernel)
theorem ks_By_hasFarBits : Cond.instanceMethod y_By_hasFarBits ∈ lw_tg := in_t 970 (by decide +kernel)
theorem kx_By_hasFarBits : Cond.selects R_By y_By_hasFarBits y_By_hasFarBits ∈ lw_tg := in_t 971 (by decide +kernel)
theorem kl_Ga_By_hasFarBits : Cond.methodLink R_Ga 59 y_By_hasFarBits ∈ lw_tg := in_t 969 (by decide +kernel)
theorem kl_Ce_By_hasFarBits : Cond.methodLink R_Ce 106 y_By_hasFarBits ∈ lw_tg := in_t 1126 (by decide +kernel)
theorem hd_By_hasFarBits : y_By_hasFarBits.cls = R_By ∧ y_By_hasFarBits.cls ≠ "java/lang/invoke/MethodHandle" ∧ y_By_hasFarBits.cls ≠ "java/lang/invoke/VarHandle" ∧ (parseMethodDescriptor y_By_hasFarBits.desc).map (fun d => d.parameters.length) = some 1 := by decide +kernel
theorem d_By_hasFarBits_0 : decode b_By_hasFarBits 0 = .ok (.aload_n 0, 1) := by decide +kernel
theorem d_By_hasFarBits_1 : decode b_By_hasFarBits 1 = .ok (.iload_n 1, 1) := by decide +kernel
theorem d_By_hasFarBits_2 : decode b_By_hasFarBits 2 = .ok (.aload_n 0, 1) := by decide +kernel
theorem d_By_hasFarBits_3 : decode b_By_hasFarBits 3 = .ok (.getfield 21, 3) := by decide +kernel
theorem d_By_hasFarBits_6 : decode b_By_hasFarBits 6 = .ok (.invokevirtual 98, 3) := by decide +kernel
theorem d_By_hasFarBits_9 : decode b_By_hasFarBits 9 = .ok (.istore_n 2, 1) := by decide +kernel
theorem d_By_hasFarBits_10 : decode b_By_hasFarBits 10 = .ok (.aload_n 0, 1) := by decide +kernel
theorem d_By_hasFarBits_11 : decode b_By_hasFarBits 11 = .ok (.iload_n 1, 1) := by decide +kernel
theorem d_By_hasFarBits_12 : decode b_By_hasFarBits 12 = .ok (.invokevirtual 126, 3) := by decide +kernel
theorem d_By_hasFarBits_15 : decode b_By_hasFarBits 15 = .ok (.istore_n 3, 1) := by decide +kernel
theorem d_By_hasFarBits_16 : decode b_By_hasFarBits 16 = .ok (.iload_n 3, 1) := by decide +kernel
theorem d_By_hasFarBits_17 : decode b_By_hasFarBits 17 = .ok (.iconst 5, 1) := by decide +kernel
theorem d_By_hasFarBits_18 : decode b_By_hasFarBits 18 = .ok (.iadd, 1) := by decide +kernel
theorem d_By_hasFarBits_19 : decode b_By_hasFarBits 19 = .ok (.istore 4, 2) := by decide +kernel
theorem d_By_hasFarBits_21 : decode b_By_hasFarBits 21 = .ok (.iload_n 3, 1) := by decide +kernel
theorem d_By_hasFarBits_22 : decode b_By_hasFarBits 22 = .ok (.ifCond .lt 27, 3) := by decide +kernel
theorem d_By_hasFarBits_25 : decode b_By_hasFarBits 25 = .ok (.iload 4, 2) := by decide +kernel
theorem d_By_hasFarBits_27 : decode b_By_hasFarBits 27 = .ok (.iload_n 2, 1) := by decide +kernel
theorem d_By_hasFarBits_28 : decode b_By_hasFarBits 28 = .ok (.if_icmp .ge 21, 3) := by decide +kernel
theorem d_By_hasFarBits_31 : decode b_By_hasFarBits 31 = .ok (.aload_n 0, 1) := by decide +kernel
theorem d_By_hasFarBits_32 : decode b_By_hasFarBits 32 = .ok (.getfield 15, 3) := by decide +kernel
theorem d_By_hasFarBits_35 : decode b_By_hasFarBits 35 = .ok (.iload 4, 2) := by decide +kernel
theorem d_By_hasFarBits_37 : decode b_By_hasFarBits 37 = .ok (.baload, 1) := by decide +kernel
theorem d_By_hasFarBits_38 : decode b_By_hasFarBits 38 = .ok (.ifCond .eq 5, 3) := by decide +kernel
theorem d_By_hasFarBits_41 : decode b_By_hasFarBits 41 = .ok (.iconst 1, 1) := by decide +kernel
theorem d_By_hasFarBits_42 : decode b_By_hasFarBits 42 = .ok (.ireturn, 1) := by decide +kernel
theorem d_By_hasFarBits_43 : decode b_By_hasFarBits 43 = .ok (.iinc 4 1, 3) := by decide +kernel
theorem d_By_hasFarBits_46 : decode b_By_hasFarBits 46 = .ok (.goto (-25), 3) := by decide +kernel
theorem d_By_hasFarBits_49 : decode b_By_hasFarBits 49 = .ok (.iconst 0, 1) := by decide +kernel
theorem d_By_hasFarBits_50 : decode b_By_hasFarBits 50 = .ok (.ireturn, 1) := by decide +kernel
abbrev b_By_timeAt : ByteArray := prog_4_method_39_code
def y_By_timeAt : MethodName := ⟨R_By, "timeAt", "(I)I"⟩
abbrev k_By_timeAt : Cond := .code y_By_timeAt b_By_timeAt 5 (some .int)
theorem ki_By_timeAt : k_By_timeAt ∈ lw_tg := in_t 1068 (by decide +kernel)
theorem ks_By_timeAt : Cond.instanceMethod y_By_timeAt ∈ lw_tg := in_t 1066 (by decide +kernel)
theorem kx_By_timeAt : Cond.selects R_By y_By_timeAt y_By_timeAt ∈ lw_tg := in_t 1067 (by decide +kernel)
theorem kl_Ga_By_timeAt : Cond.methodLink R_Ga 122 y_By_timeAt ∈ lw_tg := in_t 1065 (by decide +kernel)
theorem kl_Ce_By_timeAt : Cond.methodLink R_Ce 109 y_By_timeAt ∈ lw_tg := in_t 1127 (by decide +kernel)
theorem kl_Ag_By_timeAt : Cond.methodLink R_Ag 282 y_By_timeAt ∈ lw_tg := in_t 1504 (by decide +kernel)
theorem kl_Ti_By_timeAt : Cond.methodLink R_Ti 86 y_By_timeAt ∈ lw_tg := in_t 1529 (by decide +kernel)
theorem kl_So_By_timeAt : Cond.methodLink R_So 62 y_By_timeAt ∈ lw_tg := in_t 1585 (by decide +kernel)
theorem hd_By_timeAt : y_By_timeAt.cls = R_By ∧ y_By_timeAt.cls ≠ "java/lang/invoke/MethodHandle" ∧ y_By_timeAt.cls ≠ "java/lang/invoke/VarHandle" ∧ (parseMethodDescriptor y_By_timeAt.desc).map (fun d => d.parameters.length) = some 1 := by decide +kernel
theorem d_By_timeAt_0 : decode b_By_timeAt 0 = .ok (.iload_n 1, 1) := by decide +kernel
theorem d_By_timeAt_1 : decode b_By_timeAt 1 = .ok (.ifCond .ge 5, 3) := by decide +kernel
theorem d_By_timeAt_4 : decode b_By_timeAt 4 = .ok (.iconst (-1), 1) := by decide +kernel
theorem d_By_timeAt_5 : decode b_By_timeAt 5 = .ok (.ireturn, 1) := by decide +kernel
theorem d_By_timeAt_6 : decode b_By_timeAt 6 = .ok (.aload_n 0, 1) := by decide +kernel
theorem d_By_timeAt_7 : decode b_By_timeAt 7 = .ok (.iload_n 1, 1) := by decide +kernel
theorem d_By_timeAt_8 : decode b_By_timeAt 8 = .ok (.invokevirtual 126, 3) := by decide +kernel
theorem d_By_timeAt_11 : decode b_By_timeAt 11 = .ok (.istore_n 2, 1) := by decide +kernel
theorem d_By_timeAt_12 : decode b_By_timeAt 12 = .ok (.aload_n 0, 1) := by decide +kernel
theorem d_By_timeAt_13 : decode b_By_timeAt 13 = .ok (.iload_n 2, 1) := by decide +kernel
theorem d_By_timeAt_14 : decode b_By_timeAt 14 = .ok (.iconst 4, 1) := by decide +kernel
theorem d_By_timeAt_15 : decode b_By_timeAt 15 = .ok (.invokevirtual 133, 3) := by decide +kernel
theorem d_By_timeAt_18 : decode b_By_timeAt 18 = .ok (.aload_n 0, 1) := by decide +kernel
theorem d_By_timeAt_19 : decode b_By_timeAt 19 = .ok (.iload_n 2, 1) := by decide +kernel
theorem d_By_timeAt_20 : decode b_By_timeAt 20 = .ok (.iconst 4, 1) := by decide +kernel
theorem d_By_timeAt_21 : decode b_By_timeAt 21 = .ok (.iadd, 1) := by decide +kernel
theorem d_By_timeAt_22 : decode b_By_timeAt 22 = .ok (.iconst 2, 1) := by decide +kernel
theorem d_By_timeAt_23 : decode b_By_timeAt 23 = .ok (.invokevirtual 133, 3) := by decide +kernel
theorem d_By_timeAt_26 : decode b_By_timeAt 26 = .ok (.invokestatic 102, 3) := by decide +kernel
theorem d_By_timeAt_29 : decode b_By_timeAt 29 = .ok (.aload_n 0, 1) := by decide +kernel
theorem d_By_timeAt_30 : decode b_By_timeAt 30 = .ok (.iload_n 2, 1) := by decide +kernel
theorem d_By_timeAt_31 : decode b_By_timeAt 31 = .ok (.bipush 6, 2) := by decide +kernel
theorem d_By_timeAt_33 : decode b_By_timeAt 33 = .ok (.iadd, 1) := by decide +kernel
theorem d_By_timeAt_34 : decode b_By_timeAt 34 = .ok (.iconst 2, 1) := by decide +kernel
theorem d_By_timeAt_35 : decode b_By_timeAt 35 = .ok (.invokevirtual 133, 3) := by decide +kernel
theorem d_By_timeAt_38 : decode b_By_timeAt 38 = .ok (.iadd, 1) := by decide +kernel
theorem d_By_timeAt_39 : decode b_By_timeAt 39 = .ok (.iconst 1, 1) := by decide +kernel
theorem d_By_timeAt_40 : decode b_By_timeAt 40 = .ok (.isub, 1) := by decide +kernel
theorem d_By_timeAt_41 : decode b_By_timeAt 41 = .ok (.istore_n 3, 1) := by decide +kernel
theorem d_By_timeAt_42 : decode b_By_timeAt 42 = .ok (.aload_n 0, 1) := by decide +kernel
theorem d_By_timeAt_43 : decode b_By_timeAt 43 = .ok (.iload_n 2, 1) := by decide +kernel
theorem d_By_timeAt_44 : decode b_By_timeAt 44 = .ok (.bipush 8, 2) := by decide +kernel
theorem d_By_timeAt_46 : decode b_By_timeAt 46 = .ok (.iadd, 1) := by decide +kernel
theorem d_By_timeAt_47 : decode b_By_timeAt 47 = .ok (.iconst 2, 1) := by decide +kernel
theorem d_By_timeAt_48 : decode b_By_timeAt 48 = .ok (.invokevirtual 133, 3) := by decide +kernel
theorem d_By_timeAt_51 : decode b_By_timeAt 51 = .ok (.bipush 60, 2) := by decide +kernel
theorem d_By_timeAt_53 : decode b_By_timeAt 53 = .ok (.imul, 1) := by decide +kernel
theorem d_By_timeAt_54 : decode b_By_timeAt 54 = .ok (.aload_n 0, 1) := by decide +kernel
theorem d_By_timeAt_55 : decode b_By_timeAt 55 = .ok (.iload_n 2, 1) := by decide +kernel
theorem d_By_timeAt_56 : decode b_By_timeAt 56 = .ok (.bipush 10, 2) := by decide +kernel
theorem d_By_timeAt_58 : decode b_By_timeAt 58 = .ok (.iadd, 1) := by decide +kernel
theorem d_By_timeAt_59 : decode b_By_timeAt 59 = .ok (.iconst 2, 1) := by decide +kernel
theorem d_By_timeAt_60 : decode b_By_timeAt 60 = .ok (.invokevirtual 133, 3) := by decide +kernel
theorem d_By_timeAt_63 : decode b_By_timeAt 63 = .ok (.iadd, 1) := by decide +kernel
theorem d_By_timeAt_64 : decode b_By_timeAt 64 = .ok (.istore 4, 2) := by decide +kernel
theorem d_By_timeAt_66 : decode b_By_timeAt 66 = .ok (.iload_n 3, 1) := by decide +kernel
theorem d_By_timeAt_67 : decode b_By_timeAt 67 = .ok (.ldc 101, 2) := by decide +kernel
theorem d_By_timeAt_69 : decode b_By_timeAt 69 = .ok (.imul, 1) := by decide +kernel
theorem d_By_timeAt_70 : decode b_By_timeAt 70 = .ok (.iload 4, 2) := by decide +kernel
theorem d_By_timeAt_72 : decode b_By_timeAt 72 = .ok (.bipush 60, 2) := by decide +kernel
theorem d_By_timeAt_74 : decode b_By_timeAt 74 = .ok (.imul, 1) := by decide +kernel
theorem d_By_timeAt_75 : decode b_By_timeAt 75 = .ok (.iadd, 1) := by decide +kernel
theorem d_By_timeAt_76 : decode b_By_timeAt 76 = .ok (.aload_n 0, 1) := by decide +kernel
theorem d_By_timeAt_77 : decode b_By_timeAt 77 = .ok (.iload_n 2, 1) := by decide +kernel
theorem d_By_timeAt_78 : decode b_By_timeAt 78 = .ok (.bipush 12, 2) := by decide +kernel
theorem d_By_timeAt_80 : decode b_By_timeAt 80 = .ok (.iadd, 1) := by decide +kernel
theorem d_By_timeAt_81 : decode b_By_timeAt 81 = .ok (.iconst 2, 1) := by decide +kernel
theorem d_By_timeAt_82 : decode b_By_timeAt 82 = .ok (.invokevirtual 133, 3) := by decide +kernel
theorem d_By_timeAt_85 : decode b_By_timeAt 85 = .ok (.iadd, 1) := by decide +kernel
theorem d_By_timeAt_86 : decode b_By_timeAt 86 = .ok (.ireturn, 1) := by decide +kernel
abbrev b_By_digits : ByteArray := prog_4_method_40_code
def y_By_digits : MethodName := ⟨R_By, "digits", "(II)I"⟩
abbrev k_By_digits : Cond := .code y_By_digits b_By_digits 6 (some .int)
theorem ki_By_digits : k_By_digits ∈ lw_tg := in_t 873 (by decide +kernel)
theorem ks_By_digits : Cond.instanceMethod y_By_digits ∈ lw_tg := in_t 872 (by decide +kernel)
theorem kx_By_digits : Cond.selects R_By y_By_digits y_By_digits ∈ lw_tg := List.mem_filter.mpr ⟨List.mem_append_left _ (List.mem_of_getElem? (i := 14) (by decide +kernel)), rfl⟩
theorem kl_By_By_digits : Cond.methodLink R_By 133 y_By_digits ∈ lw_tg := in_t 870 (by decide +kernel)
theorem hd_By_digits : y_By_digits.cls = R_By ∧ y_By_digits.cls ≠ "java/lang/invoke/MethodHandle" ∧ y_By_digits.cls ≠ "java/lang/invoke/VarHandle" ∧ (parseMethodDescriptor y_By_digits.desc).map (fun d => d.parameters.length) = some 2 := by decide +kernel
theorem d_By_digits_0 : decode b_By_digits 0 = .ok (.iconst 0, 1) := by decide +kernel
theorem d_By_digits_1 : decode b_By_digits 1 = .ok (.istore_n 3, 1) := by decide +kernel
theorem d_By_digits_2 : decode b_By_digits 2 = .ok (.iload_n 1, 1) := by decide +kernel
theorem d_By_digits_3 : decode b_By_digits 3 = .ok (.istore 4, 2) := by decide +kernel
theorem d_By_digits_5 : decode b_By_digits 5 = .ok (.iload 4, 2) := by decide +kernel
theorem d_By_digits_7 : decode b_By_digits 7 = .ok (.iload_n 1, 1) := by decide +kernel
theorem d_By_digits_8 : decode b_By_digits 8 = .ok (.iload_n 2, 1) := by decide +kernel
theorem d_By_digits_9 : decode b_By_digits 9 = .ok (.iadd, 1) := by decide +kernel
theorem d_By_digits_10 : decode b_By_digits 10 = .ok (.if_icmp .ge 44, 3) := by decide +kernel
theorem d_By_digits_13 : decode b_By_digits 13 = .ok (.aload_n 0, 1) := by decide +kernel
theorem d_By_digits_14 : decode b_By_digits 14 = .ok (.iload 4, 2) := by decide +kernel
theorem d_By_digits_16 : decode b_By_digits 16 = .ok (.invokevirtual 123, 3) := by decide +kernel
theorem d_By_digits_19 : decode b_By_digits 19 = .ok (.istore 5, 2) := by decide +kernel
theorem d_By_digits_21 : decode b_By_digits 21 = .ok (.iload 5, 2) := by decide +kernel
theorem d_By_digits_23 : decode b_By_digits 23 = .ok (.bipush 48, 2) := by decide +kernel
theorem d_By_digits_25 : decode b_By_digits 25 = .ok (.if_icmp .lt 10, 3) := by decide +kernel
theorem d_By_digits_28 : decode b_By_digits 28 = .ok (.iload 5, 2) := by decide +kernel
theorem d_By_digits_30 : decode b_By_digits 30 = .ok (.bipush 57, 2) := by decide +kernel
theorem d_By_digits_32 : decode b_By_digits 32 = .ok (.if_icmp .le 5, 3) := by decide +kernel
theorem d_By_digits_35 : decode b_By_digits 35 = .ok (.iconst (-1), 1) := by decide +kernel
theorem d_By_digits_36 : decode b_By_digits 36 = .ok (.ireturn, 1) := by decide +kernel
theorem d_By_digits_37 : decode b_By_digits 37 = .ok (.iload_n 3, 1) := by decide +kernel
theorem d_By_digits_38 : decode b_By_digits 38 = .ok (.bipush 10, 2) := by decide +kernel
theorem d_By_digits_40 : decode b_By_digits 40 = .ok (.imul, 1) := by decide +kernel
theorem d_By_digits_41 : decode b_By_digits 41 = .ok (.iload 5, 2) := by decide +kernel
theorem d_By_digits_43 : decode b_By_digits 43 = .ok (.iadd, 1) := by decide +kernel
theorem d_By_digits_44 : decode b_By_digits 44 = .ok (.bipush 48, 2) := by decide +kernel
theorem d_By_digits_46 : decode b_By_digits 46 = .ok (.isub, 1) := by decide +kernel
theorem d_By_digits_47 : decode b_By_digits 47 = .ok (.istore_n 3, 1) := by decide +kernel
theorem d_By_digits_48 : decode b_By_digits 48 = .ok (.iinc 4 1, 3) := by decide +kernel
theorem d_By_digits_51 : decode b_By_digits 51 = .ok (.goto (-46), 3) := by decide +kernel
theorem d_By_digits_54 : decode b_By_digits 54 = .ok (.iload_n 3, 1) := by decide +kernel
theorem d_By_digits_55 : decode b_By_digits 55 = .ok (.ireturn, 1) := by decide +kernel
abbrev b_By_isRealm : ByteArray := prog_4_method_41_code
def y_By_isRealm : MethodName := ⟨R_By, "isRealm", "(I)Z"⟩
abbrev k_By_isRealm : Cond := .code y_By_isRealm b_By_isRealm 2 (some .boolean)
theorem ki_By_isRealm : k_By_isRealm ∈ lw_tg := in_t 941 (by decide +kernel)
theorem ks_By_isRealm : Cond.instanceMethod y_By_isRealm ∈ lw_tg := in_t 939 (by decide +kernel)
theorem kx_By_isRealm : Cond.selects R_By y_By_isRealm y_By_isRealm ∈ lw_tg := in_t 940 (by decide +kernel)
theorem kl_Ce_By_isRealm : Cond.methodLink R_Ce 87 y_By_isRealm ∈ lw_tg := in_t 938 (by decide +kernel)
theorem kl_Ga_By_isRealm : Cond.methodLink R_Ga 75 y_By_isRealm ∈ lw_tg := in_t 977 (by decide +kernel)
theorem kl_Ag_By_isRealm : Cond.methodLink R_Ag 271 y_By_isRealm ∈ lw_tg := in_t 1501 (by decide +kernel)
theorem hd_By_isRealm : y_By_isRealm.cls = R_By ∧ y_By_isRealm.cls ≠ "java/lang/invoke/MethodHandle" ∧ y_By_isRealm.cls ≠ "java/lang/invoke/VarHandle" ∧ (parseMethodDescriptor y_By_isRealm.desc).map (fun d => d.parameters.length) = some 1 := by decide +kernel
theorem d_By_isRealm_0 : decode b_By_isRealm 0 = .ok (.iload_n 1, 1) := by decide +kernel
theorem d_By_isRealm_1 : decode b_By_isRealm 1 = .ok (.ifCond .lt 30, 3) := by decide +kernel
theorem d_By_isRealm_4 : decode b_By_isRealm 4 = .ok (.aload_n 0, 1) := by decide +kernel
theorem d_By_isRealm_5 : decode b_By_isRealm 5 = .ok (.aload_n 0, 1) := by decide +kernel
theorem d_By_isRealm_6 : decode b_By_isRealm 6 = .ok (.iload_n 1, 1) := by decide +kernel
theorem d_By_isRealm_7 : decode b_By_isRealm 7 = .ok (.invokevirtual 126, 3) := by decide +kernel
theorem d_By_isRealm_10 : decode b_By_isRealm 10 = .ok (.aload_n 0, 1) := by decide +kernel
theorem d_By_isRealm_11 : decode b_By_isRealm 11 = .ok (.iload_n 1, 1) := by decide +kernel
theorem d_By_isRealm_12 : decode b_By_isRealm 12 = .ok (.aload_n 0, 1) := by decide +kernel
theorem d_By_isRealm_13 : decode b_By_isRealm 13 = .ok (.getfield 21, 3) := by decide +kernel
theorem d_By_isRealm_16 : decode b_By_isRealm 16 = .ok (.invokevirtual 98, 3) := by decide +kernel
theorem d_By_isRealm_19 : decode b_By_isRealm 19 = .ok (.ldc 69, 2) := by decide +kernel
theorem d_By_isRealm_21 : decode b_By_isRealm 21 = .ok (.invokevirtual 136, 3) := by decide +kernel
theorem d_By_isRealm_24 : decode b_By_isRealm 24 = .ok (.ifCond .eq 7, 3) := by decide +kernel
theorem d_By_isRealm_27 : decode b_By_isRealm 27 = .ok (.iconst 1, 1) := by decide +kernel
theorem d_By_isRealm_28 : decode b_By_isRealm 28 = .ok (.goto 4, 3) := by decide +kernel
theorem d_By_isRealm_31 : decode b_By_isRealm 31 = .ok (.iconst 0, 1) := by decide +kernel
theorem d_By_isRealm_32 : decode b_By_isRealm 32 = .ok (.ireturn, 1) := by decide +kernel
abbrev b_By_isNamed : ByteArray := prog_4_method_42_code
def y_By_isNamed : MethodName := ⟨R_By, "isNamed", "(ILRealmHouse$Bytes;)Z"⟩
abbrev k_By_isNamed : Cond := .code y_By_isNamed b_By_isNamed 4 (some .boolean)
theorem ki_By_isNamed : k_By_isNamed ∈ lw_tg := in_t 981 (by decide +kernel)
theorem ks_By_isNamed : Cond.instanceMethod y_By_isNamed ∈ lw_tg := in_t 979 (by decide +kernel)
theorem kx_By_isNamed : Cond.selects R_By y_By_isNamed y_By_isNamed ∈ lw_tg := in_t 980 (by decide +kernel)
theorem kl_Ga_By_isNamed : Cond.methodLink R_Ga 83 y_By_isNamed ∈ lw_tg := in_t 978 (by decide +kernel)
theorem kl_Pr_By_isNamed : Cond.methodLink R_Pr 66 y_By_isNamed ∈ lw_tg := in_t 1108 (by decide +kernel)
theorem kl_Ag_By_isNamed : Cond.methodLink R_Ag 274 y_By_isNamed ∈ lw_tg := in_t 1502 (by decide +kernel)
theorem hd_By_isNamed : y_By_isNamed.cls = R_By ∧ y_By_isNamed.cls ≠ "java/lang/invoke/MethodHandle" ∧ y_By_isNamed.cls ≠ "java/lang/invoke/VarHandle" ∧ (parseMethodDescriptor y_By_isNamed.desc).map (fun d => d.parameters.length) = some 2 := by decide +kernel
theorem d_By_isNamed_0 : decode b_By_isNamed 0 = .ok (.aload_n 0, 1) := by decide +kernel
theorem d_By_isNamed_1 : decode b_By_isNamed 1 = .ok (.iload_n 1, 1) := by decide +kernel
theorem d_By_isNamed_2 : decode b_By_isNamed 2 = .ok (.iconst 1, 1) := by decide +kernel
theorem d_By_isNamed_3 : decode b_By_isNamed 3 = .ok (.invokevirtual 140, 3) := by decide +kernel
theorem d_By_isNamed_6 : decode b_By_isNamed 6 = .ok (.istore_n 3, 1) := by decide +kernel
theorem d_By_isNamed_7 : decode b_By_isNamed 7 = .ok (.iload_n 3, 1) := by decide +kernel
theorem d_By_isNamed_8 : decode b_By_isNamed 8 = .ok (.ifCond .lt 34, 3) := by decide +kernel
theorem d_By_isNamed_11 : decode b_By_isNamed 11 = .ok (.aload_n 0, 1) := by decide +kernel
theorem d_By_isNamed_12 : decode b_By_isNamed 12 = .ok (.aload_n 0, 1) := by decide +kernel
theorem d_By_isNamed_13 : decode b_By_isNamed 13 = .ok (.iload_n 3, 1) := by decide +kernel
theorem d_By_isNamed_14 : decode b_By_isNamed 14 = .ok (.invokevirtual 126, 3) := by decide +kernel
theorem d_By_isNamed_17 : decode b_By_isNamed 17 = .ok (.aload_n 0, 1) := by decide +kernel
theorem d_By_isNamed_18 : decode b_By_isNamed 18 = .ok (.iload_n 3, 1) := by decide +kernel
theorem d_By_isNamed_19 : decode b_By_isNamed 19 = .ok (.aload_n 0, 1) := by decide +kernel
theorem d_By_isNamed_20 : decode b_By_isNamed 20 = .ok (.getfield 21, 3) := by decide +kernel
theorem d_By_isNamed_23 : decode b_By_isNamed 23 = .ok (.invokevirtual 98, 3) := by decide +kernel
theorem d_By_isNamed_26 : decode b_By_isNamed 26 = .ok (.aload_n 2, 1) := by decide +kernel
theorem d_By_isNamed_27 : decode b_By_isNamed 27 = .ok (.iconst 0, 1) := by decide +kernel
theorem d_By_isNamed_28 : decode b_By_isNamed 28 = .ok (.aload_n 2, 1) := by decide +kernel
theorem d_By_isNamed_29 : decode b_By_isNamed 29 = .ok (.getfield 21, 3) := by decide +kernel
theorem d_By_isNamed_32 : decode b_By_isNamed 32 = .ok (.invokevirtual 143, 3) := by decide +kernel
theorem d_By_isNamed_35 : decode b_By_isNamed 35 = .ok (.ifCond .eq 7, 3) := by decide +kernel
theorem d_By_isNamed_38 : decode b_By_isNamed 38 = .ok (.iconst 1, 1) := by decide +kernel
theorem d_By_isNamed_39 : decode b_By_isNamed 39 = .ok (.goto 4, 3) := by decide +kernel
theorem d_By_isNamed_42 : decode b_By_isNamed 42 = .ok (.iconst 0, 1) := by decide +kernel
theorem d_By_isNamed_43 : decode b_By_isNamed 43 = .ok (.ireturn, 1) := by decide +kernel
abbrev b_By_sameParts : ByteArray := prog_4_method_43_code
def y_By_sameParts : MethodName := ⟨R_By, "sameParts", "(ILRealmHouse$Bytes;I)Z"⟩
abbrev k_By_sameParts : Cond := .code y_By_sameParts b_By_sameParts 6 (some .boolean)
theorem ki_By_sameParts : k_By_sameParts ∈ lw_tg := in_t 1064 (by decide +kernel)
theorem ks_By_sameParts : Cond.instanceMethod y_By_sameParts ∈ lw_tg := in_t 1062 (by decide +kernel)
theorem kx_By_sameParts : Cond.selects R_By y_By_sameParts y_By_sameParts ∈ lw_tg := in_t 1063 (by decide +kernel)
theorem kl_Ga_By_sameParts : Cond.methodLink R_Ga 118 y_By_sameParts ∈ lw_tg := in_t 1061 (by decide +kernel)
theorem hd_By_sameParts : y_By_sameParts.cls = R_By ∧ y_By_sameParts.cls ≠ "java/lang/invoke/MethodHandle" ∧ y_By_sameParts.cls ≠ "java/lang/invoke/VarHandle" ∧ (parseMethodDescriptor y_By_sameParts.desc).map (fun d => d.parameters.length) = some 3 := by decide +kernel
theorem d_By_sameParts_0 : decode b_By_sameParts 0 = .ok (.aload_n 0, 1) := by decide +kernel
theorem d_By_sameParts_1 : decode b_By_sameParts 1 = .ok (.iload_n 1, 1) := by decide +kernel
theorem d_By_sameParts_2 : decode b_By_sameParts 2 = .ok (.iconst 1, 1) := by decide +kernel
theorem d_By_sameParts_3 : decode b_By_sameParts 3 = .ok (.invokevirtual 140, 3) := by decide +kernel
theorem d_By_sameParts_6 : decode b_By_sameParts 6 = .ok (.istore 4, 2) := by decide +kernel
theorem d_By_sameParts_8 : decode b_By_sameParts 8 = .ok (.aload_n 2, 1) := by decide +kernel
theorem d_By_sameParts_9 : decode b_By_sameParts 9 = .ok (.iload_n 3, 1) := by decide +kernel
theorem d_By_sameParts_10 : decode b_By_sameParts 10 = .ok (.iconst 1, 1) := by decide +kernel
theorem d_By_sameParts_11 : decode b_By_sameParts 11 = .ok (.invokevirtual 140, 3) := by decide +kernel
theorem d_By_sameParts_14 : decode b_By_sameParts 14 = .ok (.istore 5, 2) := by decide +kernel
theorem d_By_sameParts_16 : decode b_By_sameParts 16 = .ok (.iload 4, 2) := by decide +kernel
theorem d_By_sameParts_18 : decode b_By_sameParts 18 = .ok (.ifCond .lt 44, 3) := by decide +kernel
theorem d_By_sameParts_21 : decode b_By_sameParts 21 = .ok (.iload 5, 2) := by decide +kernel
theorem d_By_sameParts_23 : decode b_By_sameParts 23 = .ok (.ifCond .lt 39, 3) := by decide +kernel
theorem d_By_sameParts_26 : decode b_By_sameParts 26 = .ok (.aload_n 0, 1) := by decide +kernel
theorem d_By_sameParts_27 : decode b_By_sameParts 27 = .ok (.iload 4, 2) := by decide +kernel
theorem d_By_sameParts_29 : decode b_By_sameParts 29 = .ok (.aload_n 0, 1) := by decide +kernel
theorem d_By_sameParts_30 : decode b_By_sameParts 30 = .ok (.iload 4, 2) := by decide +kernel
theorem d_By_sameParts_32 : decode b_By_sameParts 32 = .ok (.aload_n 0, 1) := by decide +kernel
theorem d_By_sameParts_33 : decode b_By_sameParts 33 = .ok (.getfield 21, 3) := by decide +kernel
theorem d_By_sameParts_36 : decode b_By_sameParts 36 = .ok (.invokevirtual 98, 3) := by decide +kernel
theorem d_By_sameParts_39 : decode b_By_sameParts 39 = .ok (.aload_n 2, 1) := by decide +kernel
theorem d_By_sameParts_40 : decode b_By_sameParts 40 = .ok (.iload 5, 2) := by decide +kernel
theorem d_By_sameParts_42 : decode b_By_sameParts 42 = .ok (.aload_n 2, 1) := by decide +kernel
theorem d_By_sameParts_43 : decode b_By_sameParts 43 = .ok (.iload 5, 2) := by decide +kernel
theorem d_By_sameParts_45 : decode b_By_sameParts 45 = .ok (.aload_n 2, 1) := by decide +kernel
theorem d_By_sameParts_46 : decode b_By_sameParts 46 = .ok (.getfield 21, 3) := by decide +kernel
theorem d_By_sameParts_49 : decode b_By_sameParts 49 = .ok (.invokevirtual 98, 3) := by decide +kernel
theorem d_By_sameParts_52 : decode b_By_sameParts 52 = .ok (.invokevirtual 143, 3) := by decide +kernel
theorem d_By_sameParts_55 : decode b_By_sameParts 55 = .ok (.ifCond .eq 7, 3) := by decide +kernel
theorem d_By_sameParts_58 : decode b_By_sameParts 58 = .ok (.iconst 1, 1) := by decide +kernel
theorem d_By_sameParts_59 : decode b_By_sameParts 59 = .ok (.goto 4, 3) := by decide +kernel
theorem d_By_sameParts_62 : decode b_By_sameParts 62 = .ok (.iconst 0, 1) := by decide +kernel
theorem d_By_sameParts_63 : decode b_By_sameParts 63 = .ok (.ireturn, 1) := by decide +kernel
abbrev b_By_partsSize : ByteArray := prog_4_method_44_code
def y_By_partsSize : MethodName := ⟨R_By, "partsSize", "(I)I"⟩
abbrev k_By_partsSize : Cond := .code y_By_partsSize b_By_partsSize 3 (some .int)
theorem ki_By_partsSize : k_By_partsSize ∈ lw_tg := in_t 1050 (by decide +kernel)
theorem ks_By_partsSize : Cond.instanceMethod y_By_partsSize ∈ lw_tg := in_t 1048 (by decide +kernel)
theorem kx_By_partsSize : Cond.selects R_By y_By_partsSize y_By_partsSize ∈ lw_tg := in_t 1049 (by decide +kernel)
theorem kl_Ga_By_partsSize : Cond.methodLink R_Ga 111 y_By_partsSize ∈ lw_tg := in_t 1047 (by decide +kernel)
theorem kl_Ag_By_partsSize : Cond.methodLink R_Ag 307 y_By_partsSize ∈ lw_tg := in_t 1744 (by decide +kernel)
theorem hd_By_partsSize : y_By_partsSize.cls = R_By ∧ y_By_partsSize.cls ≠ "java/lang/invoke/MethodHandle" ∧ y_By_partsSize.cls ≠ "java/lang/invoke/VarHandle" ∧ (parseMethodDescriptor y_By_partsSize.desc).map (fun d => d.parameters.length) = some 1 := by decide +kernel
theorem d_By_partsSize_0 : decode b_By_partsSize 0 = .ok (.aload_n 0, 1) := by decide +kernel
theorem d_By_partsSize_1 : decode b_By_partsSize 1 = .ok (.iload_n 1, 1) := by decide +kernel
theorem d_By_partsSize_2 : decode b_By_partsSize 2 = .ok (.iconst 1, 1) := by decide +kernel
theorem d_By_partsSize_3 : decode b_By_partsSize 3 = .ok (.invokevirtual 140, 3) := by decide +kernel
theorem d_By_partsSize_6 : decode b_By_partsSize 6 = .ok (.istore_n 2, 1) := by decide +kernel
theorem d_By_partsSize_7 : decode b_By_partsSize 7 = .ok (.aload_n 0, 1) := by decide +kernel
theorem d_By_partsSize_8 : decode b_By_partsSize 8 = .ok (.iload_n 2, 1) := by decide +kernel
theorem d_By_partsSize_9 : decode b_By_partsSize 9 = .ok (.aload_n 0, 1) := by decide +kernel
theorem d_By_partsSize_10 : decode b_By_partsSize 10 = .ok (.getfield 21, 3) := by decide +kernel
theorem d_By_partsSize_13 : decode b_By_partsSize 13 = .ok (.invokevirtual 98, 3) := by decide +kernel
theorem d_By_partsSize_16 : decode b_By_partsSize 16 = .ok (.aload_n 0, 1) := by decide +kernel
theorem d_By_partsSize_17 : decode b_By_partsSize 17 = .ok (.iload_n 2, 1) := by decide +kernel
theorem d_By_partsSize_18 : decode b_By_partsSize 18 = .ok (.invokevirtual 126, 3) := by decide +kernel
theorem d_By_partsSize_21 : decode b_By_partsSize 21 = .ok (.isub, 1) := by decide +kernel
theorem d_By_partsSize_22 : decode b_By_partsSize 22 = .ok (.ireturn, 1) := by decide +kernel
abbrev b_By_isA : ByteArray := prog_4_method_45_code
def y_By_isA : MethodName := ⟨R_By, "isA", "(III)Z"⟩
abbrev k_By_isA : Cond := .code y_By_isA b_By_isA 4 (some .boolean)
theorem ki_By_isA : k_By_isA ∈ lw_tg := in_t 846 (by decide +kernel)
theorem ks_By_isA : Cond.instanceMethod y_By_isA ∈ lw_tg := in_t 844 (by decide +kernel)
theorem kx_By_isA : Cond.selects R_By y_By_isA y_By_isA ∈ lw_tg := in_t 845 (by decide +kernel)
theorem kl_Ce_By_isA : Cond.methodLink R_Ce 72 y_By_isA ∈ lw_tg := in_t 843 (by decide +kernel)
theorem kl_Ga_By_isA : Cond.methodLink R_Ga 38 y_By_isA ∈ lw_tg := in_t 962 (by decide +kernel)
theorem kl_Ag_By_isA : Cond.methodLink R_Ag 242 y_By_isA ∈ lw_tg := in_t 1484 (by decide +kernel)
theorem kl_So_By_isA : Cond.methodLink R_So 174 y_By_isA ∈ lw_tg := in_t 1664 (by decide +kernel)
theorem hd_By_isA : y_By_isA.cls = R_By ∧ y_By_isA.cls ≠ "java/lang/invoke/MethodHandle" ∧ y_By_isA.cls ≠ "java/lang/invoke/VarHandle" ∧ (parseMethodDescriptor y_By_isA.desc).map (fun d => d.parameters.length) = some 3 := by decide +kernel
theorem d_By_isA_0 : decode b_By_isA 0 = .ok (.aload_n 0, 1) := by decide +kernel
theorem d_By_isA_1 : decode b_By_isA 1 = .ok (.iload_n 1, 1) := by decide +kernel
theorem d_By_isA_2 : decode b_By_isA 2 = .ok (.iload_n 2, 1) := by decide +kernel
theorem d_By_isA_3 : decode b_By_isA 3 = .ok (.iload_n 3, 1) := by decide +kernel
theorem d_By_isA_4 : decode b_By_isA 4 = .ok (.iconst 0, 1) := by decide +kernel
theorem d_By_isA_5 : decode b_By_isA 5 = .ok (.invokevirtual 147, 3) := by decide +kernel
theorem d_By_isA_8 : decode b_By_isA 8 = .ok (.ireturn, 1) := by decide +kernel
abbrev b_By_fits : ByteArray := prog_4_method_46_code
def y_By_fits : MethodName := ⟨R_By, "fits", "(IIII)Z"⟩
abbrev k_By_fits : Cond := .code y_By_fits b_By_fits 7 (some .boolean)
theorem ki_By_fits : k_By_fits ∈ lw_tg := in_t 850 (by decide +kernel)
theorem ks_By_fits : Cond.instanceMethod y_By_fits ∈ lw_tg := in_t 849 (by decide +kernel)
theorem kx_By_fits : Cond.selects R_By y_By_fits y_By_fits ∈ lw_tg := List.mem_filter.mpr ⟨List.mem_append_left _ (List.mem_of_getElem? (i := 10) (by decide +kernel)), rfl⟩
theorem kl_By_By_fits : Cond.methodLink R_By 147 y_By_fits ∈ lw_tg := in_t 847 (by decide +kernel)
theorem hd_By_fits : y_By_fits.cls = R_By ∧ y_By_fits.cls ≠ "java/lang/invoke/MethodHandle" ∧ y_By_fits.cls ≠ "java/lang/invoke/VarHandle" ∧ (parseMethodDescriptor y_By_fits.desc).map (fun d => d.parameters.length) = some 4 := by decide +kernel
theorem d_By_fits_0 : decode b_By_fits 0 = .ok (.iload 4, 2) := by decide +kernel
theorem d_By_fits_2 : decode b_By_fits 2 = .ok (.bipush 20, 2) := by decide +kernel
theorem d_By_fits_4 : decode b_By_fits 4 = .ok (.if_icmp .gt 17, 3) := by decide +kernel
theorem d_By_fits_7 : decode b_By_fits 7 = .ok (.iload_n 2, 1) := by decide +kernel
theorem d_By_fits_8 : decode b_By_fits 8 = .ok (.ifCond .lt 13, 3) := by decide +kernel
theorem d_By_fits_11 : decode b_By_fits 11 = .ok (.aload_n 0, 1) := by decide +kernel
theorem d_By_fits_12 : decode b_By_fits 12 = .ok (.iload_n 2, 1) := by decide +kernel
theorem d_By_fits_13 : decode b_By_fits 13 = .ok (.iload_n 3, 1) := by decide +kernel
theorem d_By_fits_14 : decode b_By_fits 14 = .ok (.invokevirtual 98, 3) := by decide +kernel
theorem d_By_fits_17 : decode b_By_fits 17 = .ok (.iload_n 3, 1) := by decide +kernel
theorem d_By_fits_18 : decode b_By_fits 18 = .ok (.if_icmp .eq 5, 3) := by decide +kernel
theorem d_By_fits_21 : decode b_By_fits 21 = .ok (.iconst 0, 1) := by decide +kernel
theorem d_By_fits_22 : decode b_By_fits 22 = .ok (.ireturn, 1) := by decide +kernel
theorem d_By_fits_23 : decode b_By_fits 23 = .ok (.aload_n 0, 1) := by decide +kernel
theorem d_By_fits_24 : decode b_By_fits 24 = .ok (.getfield 15, 3) := by decide +kernel
theorem d_By_fits_27 : decode b_By_fits 27 = .ok (.iload_n 2, 1) := by decide +kernel
theorem d_By_fits_28 : decode b_By_fits 28 = .ok (.baload, 1) := by decide +kernel
theorem d_By_fits_29 : decode b_By_fits 29 = .ok (.sipush 255, 3) := by decide +kernel
theorem d_By_fits_32 : decode b_By_fits 32 = .ok (.iand, 1) := by decide +kernel
theorem d_By_fits_33 : decode b_By_fits 33 = .ok (.istore 5, 2) := by decide +kernel
theorem d_By_fits_35 : decode b_By_fits 35 = .ok (.aload_n 0, 1) := by decide +kernel
theorem d_By_fits_36 : decode b_By_fits 36 = .ok (.iload_n 2, 1) := by decide +kernel
theorem d_By_fits_37 : decode b_By_fits 37 = .ok (.invokevirtual 126, 3) := by decide +kernel
theorem d_By_fits_40 : decode b_By_fits 40 = .ok (.istore 6, 2) := by decide +kernel
theorem d_By_fits_42 : decode b_By_fits 42 = .ok (.iload_n 1, 1) := by decide +kernel
theorem d_By_fits_43 : decode b_By_fits 43 = .ok (.tableswitch 261 98 117 #[219, 261, 261, 261, 261, 261, 261, 93, 261, 261, 261, 147, 261, 249, 261, 261, 261, 173, 196, 121], 93) := by decide +kernel
theorem d_By_fits_136 : decode b_By_fits 136 = .ok (.iload 5, 2) := by decide +kernel
theorem d_By_fits_138 : decode b_By_fits 138 = .ok (.iconst 2, 1) := by decide +kernel
theorem d_By_fits_139 : decode b_By_fits 139 = .ok (.if_icmp .ne 23, 3) := by decide +kernel
theorem d_By_fits_142 : decode b_By_fits 142 = .ok (.aload_n 0, 1) := by decide +kernel
theorem d_By_fits_143 : decode b_By_fits 143 = .ok (.iload 6, 2) := by decide +kernel
theorem d_By_fits_145 : decode b_By_fits 145 = .ok (.iload_n 3, 1) := by decide +kernel
theorem d_By_fits_146 : decode b_By_fits 146 = .ok (.ldc2_w 151, 3) := by decide +kernel
theorem d_By_fits_149 : decode b_By_fits 149 = .ok (.ldc2_w 153, 3) := by decide +kernel
theorem d_By_fits_152 : decode b_By_fits 152 = .ok (.invokevirtual 155, 3) := by decide +kernel
theorem d_By_fits_155 : decode b_By_fits 155 = .ok (.ifCond .eq 7, 3) := by decide +kernel
theorem d_By_fits_158 : decode b_By_fits 158 = .ok (.iconst 1, 1) := by decide +kernel
theorem d_By_fits_159 : decode b_By_fits 159 = .ok (.goto 4, 3) := by decide +kernel
theorem d_By_fits_162 : decode b_By_fits 162 = .ok (.iconst 0, 1) := by decide +kernel
theorem d_By_fits_163 : decode b_By_fits 163 = .ok (.ireturn, 1) := by decide +kernel
theorem d_By_fits_164 : decode b_By_fits 164 = .ok (.iload 5, 2) := by decide +kernel
theorem d_By_fits_166 : decode b_By_fits 166 = .ok (.iconst 2, 1) := by decide +kernel
theorem d_By_fits_167 : decode b_By_fits 167 = .ok (.if_icmp .ne 21, 3) := by decide +kernel
theorem d_By_fits_170 : decode b_By_fits 170 = .ok (.aload_n 0, 1) := by decide +kernel
theorem d_By_fits_171 : decode b_By_fits 171 = .ok (.iload 6, 2) := by decide +kernel
theorem d_By_fits_173 : decode b_By_fits 173 = .ok (.iload_n 3, 1) := by decide +kernel
theorem d_By_fits_174 : decode b_By_fits 174 = .ok (.lconst 0, 1) := by decide +kernel
theorem d_By_fits_175 : decode b_By_fits 175 = .ok (.ldc2_w 159, 3) := by decide +kernel
theorem d_By_fits_178 : decode b_By_fits 178 = .ok (.invokevirtual 155, 3) := by decide +kernel
theorem d_By_fits_181 : decode b_By_fits 181 = .ok (.ifCond .eq 7, 3) := by decide +kernel
theorem d_By_fits_184 : decode b_By_fits 184 = .ok (.iconst 1, 1) := by decide +kernel
theorem d_By_fits_185 : decode b_By_fits 185 = .ok (.goto 4, 3) := by decide +kernel
theorem d_By_fits_188 : decode b_By_fits 188 = .ok (.iconst 0, 1) := by decide +kernel
theorem d_By_fits_189 : decode b_By_fits 189 = .ok (.ireturn, 1) := by decide +kernel
theorem d_By_fits_190 : decode b_By_fits 190 = .ok (.iload 5, 2) := by decide +kernel
theorem d_By_fits_192 : decode b_By_fits 192 = .ok (.iconst 2, 1) := by decide +kernel
theorem d_By_fits_193 : decode b_By_fits 193 = .ok (.if_icmp .ne 21, 3) := by decide +kernel
theorem d_By_fits_196 : decode b_By_fits 196 = .ok (.aload_n 0, 1) := by decide +kernel
theorem d_By_fits_197 : decode b_By_fits 197 = .ok (.iload 6, 2) := by decide +kernel
theorem d_By_fits_199 : decode b_By_fits 199 = .ok (.iload_n 3, 1) := by decide +kernel
theorem d_By_fits_200 : decode b_By_fits 200 = .ok (.lconst 0, 1) := by decide +kernel
theorem d_By_fits_201 : decode b_By_fits 201 = .ok (.ldc2_w 161, 3) := by decide +kernel
theorem d_By_fits_204 : decode b_By_fits 204 = .ok (.invokevirtual 155, 3) := by decide +kernel
theorem d_By_fits_207 : decode b_By_fits 207 = .ok (.ifCond .eq 7, 3) := by decide +kernel
theorem d_By_fits_210 : decode b_By_fits 210 = .ok (.iconst 1, 1) := by decide +kernel
theorem d_By_fits_211 : decode b_By_fits 211 = .ok (.goto 4, 3) := by decide +kernel
theorem d_By_fits_214 : decode b_By_fits 214 = .ok (.iconst 0, 1) := by decide +kernel
theorem d_By_fits_215 : decode b_By_fits 215 = .ok (.ireturn, 1) := by decide +kernel
theorem d_By_fits_216 : decode b_By_fits 216 = .ok (.iload 5, 2) := by decide +kernel
theorem d_By_fits_218 : decode b_By_fits 218 = .ok (.bipush 27, 2) := by decide +kernel
theorem d_By_fits_220 : decode b_By_fits 220 = .ok (.if_icmp .ne 17, 3) := by decide +kernel
theorem d_By_fits_223 : decode b_By_fits 223 = .ok (.aload_n 0, 1) := by decide +kernel
theorem d_By_fits_224 : decode b_By_fits 224 = .ok (.iload 6, 2) := by decide +kernel
theorem d_By_fits_226 : decode b_By_fits 226 = .ok (.iload_n 3, 1) := by decide +kernel
theorem d_By_fits_227 : decode b_By_fits 227 = .ok (.invokevirtual 163, 3) := by decide +kernel
theorem d_By_fits_230 : decode b_By_fits 230 = .ok (.ifCond .eq 7, 3) := by decide +kernel
theorem d_By_fits_233 : decode b_By_fits 233 = .ok (.iconst 1, 1) := by decide +kernel
theorem d_By_fits_234 : decode b_By_fits 234 = .ok (.goto 4, 3) := by decide +kernel
theorem d_By_fits_237 : decode b_By_fits 237 = .ok (.iconst 0, 1) := by decide +kernel
theorem d_By_fits_238 : decode b_By_fits 238 = .ok (.ireturn, 1) := by decide +kernel
theorem d_By_fits_239 : decode b_By_fits 239 = .ok (.iload 5, 2) := by decide +kernel
theorem d_By_fits_241 : decode b_By_fits 241 = .ok (.bipush 24, 2) := by decide +kernel
theorem d_By_fits_243 : decode b_By_fits 243 = .ok (.if_icmp .ne 17, 3) := by decide +kernel
theorem d_By_fits_246 : decode b_By_fits 246 = .ok (.aload_n 0, 1) := by decide +kernel
theorem d_By_fits_247 : decode b_By_fits 247 = .ok (.iload 6, 2) := by decide +kernel
theorem d_By_fits_249 : decode b_By_fits 249 = .ok (.iload_n 3, 1) := by decide +kernel
theorem d_By_fits_250 : decode b_By_fits 250 = .ok (.invokevirtual 167, 3) := by decide +kernel
theorem d_By_fits_253 : decode b_By_fits 253 = .ok (.ifCond .eq 7, 3) := by decide +kernel
theorem d_By_fits_256 : decode b_By_fits 256 = .ok (.iconst 1, 1) := by decide +kernel
theorem d_By_fits_257 : decode b_By_fits 257 = .ok (.goto 4, 3) := by decide +kernel
theorem d_By_fits_260 : decode b_By_fits 260 = .ok (.iconst 0, 1) := by decide +kernel
theorem d_By_fits_261 : decode b_By_fits 261 = .ok (.ireturn, 1) := by decide +kernel
theorem d_By_fits_262 : decode b_By_fits 262 = .ok (.iload 5, 2) := by decide +kernel
theorem d_By_fits_264 : decode b_By_fits 264 = .ok (.iconst 3, 1) := by decide +kernel
theorem d_By_fits_265 : decode b_By_fits 265 = .ok (.if_icmp .ne 25, 3) := by decide +kernel
theorem d_By_fits_268 : decode b_By_fits 268 = .ok (.iload_n 3, 1) := by decide +kernel
theorem d_By_fits_269 : decode b_By_fits 269 = .ok (.iload 6, 2) := by decide +kernel
theorem d_By_fits_271 : decode b_By_fits 271 = .ok (.isub, 1) := by decide +kernel
theorem d_By_fits_272 : decode b_By_fits 272 = .ok (.iconst 5, 1) := by decide +kernel
theorem d_By_fits_273 : decode b_By_fits 273 = .ok (.if_icmp .lt 17, 3) := by decide +kernel
theorem d_By_fits_276 : decode b_By_fits 276 = .ok (.aload_n 0, 1) := by decide +kernel
theorem d_By_fits_277 : decode b_By_fits 277 = .ok (.getfield 15, 3) := by decide +kernel
theorem d_By_fits_280 : decode b_By_fits 280 = .ok (.iload 6, 2) := by decide +kernel
theorem d_By_fits_282 : decode b_By_fits 282 = .ok (.baload, 1) := by decide +kernel
theorem d_By_fits_283 : decode b_By_fits 283 = .ok (.ifCond .ne 7, 3) := by decide +kernel
theorem d_By_fits_286 : decode b_By_fits 286 = .ok (.iconst 1, 1) := by decide +kernel
theorem d_By_fits_287 : decode b_By_fits 287 = .ok (.goto 4, 3) := by decide +kernel
theorem d_By_fits_290 : decode b_By_fits 290 = .ok (.iconst 0, 1) := by decide +kernel
theorem d_By_fits_291 : decode b_By_fits 291 = .ok (.ireturn, 1) := by decide +kernel
theorem d_By_fits_292 : decode b_By_fits 292 = .ok (.iload 5, 2) := by decide +kernel
theorem d_By_fits_294 : decode b_By_fits 294 = .ok (.iconst 4, 1) := by decide +kernel
theorem d_By_fits_295 : decode b_By_fits 295 = .ok (.if_icmp .ne 7, 3) := by decide +kernel
theorem d_By_fits_298 : decode b_By_fits 298 = .ok (.iconst 1, 1) := by decide +kernel
theorem d_By_fits_299 : decode b_By_fits 299 = .ok (.goto 4, 3) := by decide +kernel
theorem d_By_fits_302 : decode b_By_fits 302 = .ok (.iconst 0, 1) := by decide +kernel
theorem d_By_fits_303 : decode b_By_fits 303 = .ok (.ireturn, 1) := by decide +kernel
theorem d_By_fits_304 : decode b_By_fits 304 = .ok (.iload 5, 2) := by decide +kernel
theorem d_By_fits_306 : decode b_By_fits 306 = .ok (.iload_n 1, 1) := by decide +kernel
theorem d_By_fits_307 : decode b_By_fits 307 = .ok (.invokestatic 170, 3) := by decide +kernel
theorem d_By_fits_310 : decode b_By_fits 310 = .ok (.if_icmp .ne 20, 3) := by decide +kernel
theorem d_By_fits_313 : decode b_By_fits 313 = .ok (.aload_n 0, 1) := by decide +kernel
theorem d_By_fits_314 : decode b_By_fits 314 = .ok (.iload_n 1, 1) := by decide +kernel
theorem d_By_fits_315 : decode b_By_fits 315 = .ok (.iload 6, 2) := by decide +kernel
theorem d_By_fits_317 : decode b_By_fits 317 = .ok (.iload_n 3, 1) := by decide +kernel
theorem d_By_fits_318 : decode b_By_fits 318 = .ok (.iload 4, 2) := by decide +kernel
theorem d_By_fits_320 : decode b_By_fits 320 = .ok (.invokevirtual 173, 3) := by decide +kernel
theorem d_By_fits_323 : decode b_By_fits 323 = .ok (.ifCond .eq 7, 3) := by decide +kernel
theorem d_By_fits_326 : decode b_By_fits 326 = .ok (.iconst 1, 1) := by decide +kernel
theorem d_By_fits_327 : decode b_By_fits 327 = .ok (.goto 4, 3) := by decide +kernel
theorem d_By_fits_330 : decode b_By_fits 330 = .ok (.iconst 0, 1) := by decide +kernel
theorem d_By_fits_331 : decode b_By_fits 331 = .ok (.ireturn, 1) := by decide +kernel
abbrev b_By_fitsInside : ByteArray := prog_4_method_47_code
def y_By_fitsInside : MethodName := ⟨R_By, "fitsInside", "(IIII)Z"⟩
abbrev k_By_fitsInside : Cond := .code y_By_fitsInside b_By_fitsInside 5 (some .boolean)
theorem ki_By_fitsInside : k_By_fitsInside ∈ lw_tg := in_t 886 (by decide +kernel)
theorem ks_By_fitsInside : Cond.instanceMethod y_By_fitsInside ∈ lw_tg := in_t 885 (by decide +kernel)
theorem kx_By_fitsInside : Cond.selects R_By y_By_fitsInside y_By_fitsInside ∈ lw_tg := List.mem_filter.mpr ⟨List.mem_append_left _ (List.mem_of_getElem? (i := 15) (by decide +kernel)), rfl⟩
theorem kl_By_By_fitsInside : Cond.methodLink R_By 173 y_By_fitsInside ∈ lw_tg := in_t 883 (by decide +kernel)
theorem hd_By_fitsInside : y_By_fitsInside.cls = R_By ∧ y_By_fitsInside.cls ≠ "java/lang/invoke/MethodHandle" ∧ y_By_fitsInside.cls ≠ "java/lang/invoke/VarHandle" ∧ (parseMethodDescriptor y_By_fitsInside.desc).map (fun d => d.parameters.length) = some 4 := by decide +kernel
theorem d_By_fitsInside_0 : decode b_By_fitsInside 0 = .ok (.iload_n 1, 1) := by decide +kernel
theorem d_By_fitsInside_1 : decode b_By_fitsInside 1 = .ok (.bipush 65, 2) := by decide +kernel
theorem d_By_fitsInside_3 : decode b_By_fitsInside 3 = .ok (.if_icmp .lt 25, 3) := by decide +kernel
theorem d_By_fitsInside_6 : decode b_By_fitsInside 6 = .ok (.iload_n 1, 1) := by decide +kernel
theorem d_By_fitsInside_7 : decode b_By_fitsInside 7 = .ok (.bipush 90, 2) := by decide +kernel
theorem d_By_fitsInside_9 : decode b_By_fitsInside 9 = .ok (.if_icmp .gt 19, 3) := by decide +kernel
theorem d_By_fitsInside_12 : decode b_By_fitsInside 12 = .ok (.aload_n 0, 1) := by decide +kernel
theorem d_By_fitsInside_13 : decode b_By_fitsInside 13 = .ok (.iload_n 1, 1) := by decide +kernel
theorem d_By_fitsInside_14 : decode b_By_fitsInside 14 = .ok (.bipush 65, 2) := by decide +kernel
theorem d_By_fitsInside_16 : decode b_By_fitsInside 16 = .ok (.isub, 1) := by decide +kernel
theorem d_By_fitsInside_17 : decode b_By_fitsInside 17 = .ok (.bipush 97, 2) := by decide +kernel
theorem d_By_fitsInside_19 : decode b_By_fitsInside 19 = .ok (.iadd, 1) := by decide +kernel
theorem d_By_fitsInside_20 : decode b_By_fitsInside 20 = .ok (.iload_n 2, 1) := by decide +kernel
theorem d_By_fitsInside_21 : decode b_By_fitsInside 21 = .ok (.iload_n 3, 1) := by decide +kernel
theorem d_By_fitsInside_22 : decode b_By_fitsInside 22 = .ok (.iload 4, 2) := by decide +kernel
theorem d_By_fitsInside_24 : decode b_By_fitsInside 24 = .ok (.invokevirtual 176, 3) := by decide +kernel
theorem d_By_fitsInside_27 : decode b_By_fitsInside 27 = .ok (.ireturn, 1) := by decide +kernel
theorem d_By_fitsInside_28 : decode b_By_fitsInside 28 = .ok (.iload_n 1, 1) := by decide +kernel
theorem d_By_fitsInside_29 : decode b_By_fitsInside 29 = .ok (.invokestatic 170, 3) := by decide +kernel
theorem d_By_fitsInside_32 : decode b_By_fitsInside 32 = .ok (.bipush 48, 2) := by decide +kernel
theorem d_By_fitsInside_34 : decode b_By_fitsInside 34 = .ok (.if_icmp .ne 16, 3) := by decide +kernel
theorem d_By_fitsInside_37 : decode b_By_fitsInside 37 = .ok (.aload_n 0, 1) := by decide +kernel
theorem d_By_fitsInside_38 : decode b_By_fitsInside 38 = .ok (.iload_n 1, 1) := by decide +kernel
theorem d_By_fitsInside_39 : decode b_By_fitsInside 39 = .ok (.invokestatic 179, 3) := by decide +kernel
theorem d_By_fitsInside_42 : decode b_By_fitsInside 42 = .ok (.iload_n 2, 1) := by decide +kernel
theorem d_By_fitsInside_43 : decode b_By_fitsInside 43 = .ok (.iload_n 3, 1) := by decide +kernel
theorem d_By_fitsInside_44 : decode b_By_fitsInside 44 = .ok (.iload 4, 2) := by decide +kernel
theorem d_By_fitsInside_46 : decode b_By_fitsInside 46 = .ok (.invokevirtual 183, 3) := by decide +kernel
theorem d_By_fitsInside_49 : decode b_By_fitsInside 49 = .ok (.ireturn, 1) := by decide +kernel
theorem d_By_fitsInside_50 : decode b_By_fitsInside 50 = .ok (.aload_n 0, 1) := by decide +kernel
theorem d_By_fitsInside_51 : decode b_By_fitsInside 51 = .ok (.iload_n 2, 1) := by decide +kernel
theorem d_By_fitsInside_52 : decode b_By_fitsInside 52 = .ok (.invokevirtual 123, 3) := by decide +kernel
theorem d_By_fitsInside_55 : decode b_By_fitsInside 55 = .ok (.bipush 48, 2) := by decide +kernel
theorem d_By_fitsInside_57 : decode b_By_fitsInside 57 = .ok (.if_icmp .ne 36, 3) := by decide +kernel
theorem d_By_fitsInside_60 : decode b_By_fitsInside 60 = .ok (.aload_n 0, 1) := by decide +kernel
theorem d_By_fitsInside_61 : decode b_By_fitsInside 61 = .ok (.iload_n 2, 1) := by decide +kernel
theorem d_By_fitsInside_62 : decode b_By_fitsInside 62 = .ok (.iload_n 3, 1) := by decide +kernel
theorem d_By_fitsInside_63 : decode b_By_fitsInside 63 = .ok (.invokevirtual 98, 3) := by decide +kernel
theorem d_By_fitsInside_66 : decode b_By_fitsInside 66 = .ok (.iload_n 3, 1) := by decide +kernel
theorem d_By_fitsInside_67 : decode b_By_fitsInside 67 = .ok (.if_icmp .ne 26, 3) := by decide +kernel
theorem d_By_fitsInside_70 : decode b_By_fitsInside 70 = .ok (.aload_n 0, 1) := by decide +kernel
theorem d_By_fitsInside_71 : decode b_By_fitsInside 71 = .ok (.iload_n 1, 1) := by decide +kernel
theorem d_By_fitsInside_72 : decode b_By_fitsInside 72 = .ok (.invokestatic 179, 3) := by decide +kernel
theorem d_By_fitsInside_75 : decode b_By_fitsInside 75 = .ok (.aload_n 0, 1) := by decide +kernel
theorem d_By_fitsInside_76 : decode b_By_fitsInside 76 = .ok (.iload_n 2, 1) := by decide +kernel
theorem d_By_fitsInside_77 : decode b_By_fitsInside 77 = .ok (.invokevirtual 126, 3) := by decide +kernel
theorem d_By_fitsInside_80 : decode b_By_fitsInside 80 = .ok (.iload_n 3, 1) := by decide +kernel
theorem d_By_fitsInside_81 : decode b_By_fitsInside 81 = .ok (.iload 4, 2) := by decide +kernel
theorem d_By_fitsInside_83 : decode b_By_fitsInside 83 = .ok (.invokevirtual 183, 3) := by decide +kernel
theorem d_By_fitsInside_86 : decode b_By_fitsInside 86 = .ok (.ifCond .eq 7, 3) := by decide +kernel
theorem d_By_fitsInside_89 : decode b_By_fitsInside 89 = .ok (.iconst 1, 1) := by decide +kernel
theorem d_By_fitsInside_90 : decode b_By_fitsInside 90 = .ok (.goto 4, 3) := by decide +kernel
theorem d_By_fitsInside_93 : decode b_By_fitsInside 93 = .ok (.iconst 0, 1) := by decide +kernel
theorem d_By_fitsInside_94 : decode b_By_fitsInside 94 = .ok (.ireturn, 1) := by decide +kernel
abbrev b_By_fitsRow : ByteArray := prog_4_method_48_code
def y_By_fitsRow : MethodName := ⟨R_By, "fitsRow", "(IIII)Z"⟩
abbrev k_By_fitsRow : Cond := .code y_By_fitsRow b_By_fitsRow 8 (some .boolean)
theorem ki_By_fitsRow : k_By_fitsRow ∈ lw_tg := in_t 890 (by decide +kernel)
theorem ks_By_fitsRow : Cond.instanceMethod y_By_fitsRow ∈ lw_tg := in_t 889 (by decide +kernel)
theorem kx_By_fitsRow : Cond.selects R_By y_By_fitsRow y_By_fitsRow ∈ lw_tg := List.mem_filter.mpr ⟨List.mem_append_left _ (List.mem_of_getElem? (i := 16) (by decide +kernel)), rfl⟩
theorem kl_By_By_fitsRow : Cond.methodLink R_By 176 y_By_fitsRow ∈ lw_tg := in_t 887 (by decide +kernel)
theorem hd_By_fitsRow : y_By_fitsRow.cls = R_By ∧ y_By_fitsRow.cls ≠ "java/lang/invoke/MethodHandle" ∧ y_By_fitsRow.cls ≠ "java/lang/invoke/VarHandle" ∧ (parseMethodDescriptor y_By_fitsRow.desc).map (fun d => d.parameters.length) = some 4 := by decide +kernel
theorem d_By_fitsRow_0 : decode b_By_fitsRow 0 = .ok (.iload_n 2, 1) := by decide +kernel
theorem d_By_fitsRow_1 : decode b_By_fitsRow 1 = .ok (.istore 5, 2) := by decide +kernel
theorem d_By_fitsRow_3 : decode b_By_fitsRow 3 = .ok (.iconst 0, 1) := by decide +kernel
theorem d_By_fitsRow_4 : decode b_By_fitsRow 4 = .ok (.istore 6, 2) := by decide +kernel
theorem d_By_fitsRow_6 : decode b_By_fitsRow 6 = .ok (.iload 6, 2) := by decide +kernel
theorem d_By_fitsRow_8 : decode b_By_fitsRow 8 = .ok (.bipush 16, 2) := by decide +kernel
theorem d_By_fitsRow_10 : decode b_By_fitsRow 10 = .ok (.if_icmp .ge 51, 3) := by decide +kernel
theorem d_By_fitsRow_13 : decode b_By_fitsRow 13 = .ok (.iload 5, 2) := by decide +kernel
theorem d_By_fitsRow_15 : decode b_By_fitsRow 15 = .ok (.iload_n 3, 1) := by decide +kernel
theorem d_By_fitsRow_16 : decode b_By_fitsRow 16 = .ok (.if_icmp .ge 45, 3) := by decide +kernel
theorem d_By_fitsRow_19 : decode b_By_fitsRow 19 = .ok (.aload_n 0, 1) := by decide +kernel
theorem d_By_fitsRow_20 : decode b_By_fitsRow 20 = .ok (.iload 5, 2) := by decide +kernel
theorem d_By_fitsRow_22 : decode b_By_fitsRow 22 = .ok (.iload_n 3, 1) := by decide +kernel
theorem d_By_fitsRow_23 : decode b_By_fitsRow 23 = .ok (.invokevirtual 98, 3) := by decide +kernel
theorem d_By_fitsRow_26 : decode b_By_fitsRow 26 = .ok (.istore 7, 2) := by decide +kernel
theorem d_By_fitsRow_28 : decode b_By_fitsRow 28 = .ok (.iload 7, 2) := by decide +kernel
theorem d_By_fitsRow_30 : decode b_By_fitsRow 30 = .ok (.ifCond .lt 19, 3) := by decide +kernel
theorem d_By_fitsRow_33 : decode b_By_fitsRow 33 = .ok (.aload_n 0, 1) := by decide +kernel
theorem d_By_fitsRow_34 : decode b_By_fitsRow 34 = .ok (.iload_n 1, 1) := by decide +kernel
theorem d_By_fitsRow_35 : decode b_By_fitsRow 35 = .ok (.iload 5, 2) := by decide +kernel
theorem d_By_fitsRow_37 : decode b_By_fitsRow 37 = .ok (.iload 7, 2) := by decide +kernel
theorem d_By_fitsRow_39 : decode b_By_fitsRow 39 = .ok (.iload 4, 2) := by decide +kernel
theorem d_By_fitsRow_41 : decode b_By_fitsRow 41 = .ok (.iconst 1, 1) := by decide +kernel
theorem d_By_fitsRow_42 : decode b_By_fitsRow 42 = .ok (.iadd, 1) := by decide +kernel
theorem d_By_fitsRow_43 : decode b_By_fitsRow 43 = .ok (.invokevirtual 147, 3) := by decide +kernel
theorem d_By_fitsRow_46 : decode b_By_fitsRow 46 = .ok (.ifCond .ne 5, 3) := by decide +kernel
theorem d_By_fitsRow_49 : decode b_By_fitsRow 49 = .ok (.iconst 0, 1) := by decide +kernel
theorem d_By_fitsRow_50 : decode b_By_fitsRow 50 = .ok (.ireturn, 1) := by decide +kernel
theorem d_By_fitsRow_51 : decode b_By_fitsRow 51 = .ok (.iload 7, 2) := by decide +kernel
theorem d_By_fitsRow_53 : decode b_By_fitsRow 53 = .ok (.istore 5, 2) := by decide +kernel
theorem d_By_fitsRow_55 : decode b_By_fitsRow 55 = .ok (.iinc 6 1, 3) := by decide +kernel
theorem d_By_fitsRow_58 : decode b_By_fitsRow 58 = .ok (.goto (-52), 3) := by decide +kernel
theorem d_By_fitsRow_61 : decode b_By_fitsRow 61 = .ok (.iload 5, 2) := by decide +kernel
theorem d_By_fitsRow_63 : decode b_By_fitsRow 63 = .ok (.iload_n 3, 1) := by decide +kernel
theorem d_By_fitsRow_64 : decode b_By_fitsRow 64 = .ok (.if_icmp .ne 7, 3) := by decide +kernel
theorem d_By_fitsRow_67 : decode b_By_fitsRow 67 = .ok (.iconst 1, 1) := by decide +kernel
theorem d_By_fitsRow_68 : decode b_By_fitsRow 68 = .ok (.goto 4, 3) := by decide +kernel
theorem d_By_fitsRow_71 : decode b_By_fitsRow 71 = .ok (.iconst 0, 1) := by decide +kernel
theorem d_By_fitsRow_72 : decode b_By_fitsRow 72 = .ok (.ireturn, 1) := by decide +kernel
abbrev b_By_fitsFields : ByteArray := prog_4_method_49_code
def y_By_fitsFields : MethodName := ⟨R_By, "fitsFields", "(Ljava/lang/String;III)Z"⟩
abbrev k_By_fitsFields : Cond := .code y_By_fitsFields b_By_fitsFields 10 (some .boolean)
theorem ki_By_fitsFields : k_By_fitsFields ∈ lw_tg := in_t 924 (by decide +kernel)
theorem ks_By_fitsFields : Cond.instanceMethod y_By_fitsFields ∈ lw_tg := in_t 923 (by decide +kernel)
theorem kx_By_fitsFields : Cond.selects R_By y_By_fitsFields y_By_fitsFields ∈ lw_tg := List.mem_filter.mpr ⟨List.mem_append_left _ (List.mem_of_getElem? (i := 17) (by decide +kernel)), rfl⟩
theorem kl_By_By_fitsFields : Cond.methodLink R_By 183 y_By_fitsFields ∈ lw_tg := in_t 921 (by decide +kernel)
theorem hd_By_fitsFields : y_By_fitsFields.cls = R_By ∧ y_By_fitsFields.cls ≠ "java/lang/invoke/MethodHandle" ∧ y_By_fitsFields.cls ≠ "java/lang/invoke/VarHandle" ∧ (parseMethodDescriptor y_By_fitsFields.desc).map (fun d => d.parameters.length) = some 4 := by decide +kernel
theorem d_By_fitsFields_0 : decode b_By_fitsFields 0 = .ok (.iload_n 2, 1) := by decide +kernel
theorem d_By_fitsFields_1 : decode b_By_fitsFields 1 = .ok (.istore 5, 2) := by decide +kernel
theorem d_By_fitsFields_3 : decode b_By_fitsFields 3 = .ok (.iconst 0, 1) := by decide +kernel
theorem d_By_fitsFields_4 : decode b_By_fitsFields 4 = .ok (.istore 6, 2) := by decide +kernel
theorem d_By_fitsFields_6 : decode b_By_fitsFields 6 = .ok (.iload 6, 2) := by decide +kernel
theorem d_By_fitsFields_8 : decode b_By_fitsFields 8 = .ok (.iconst 2, 1) := by decide +kernel
theorem d_By_fitsFields_9 : decode b_By_fitsFields 9 = .ok (.iadd, 1) := by decide +kernel
theorem d_By_fitsFields_10 : decode b_By_fitsFields 10 = .ok (.aload_n 1, 1) := by decide +kernel
theorem d_By_fitsFields_11 : decode b_By_fitsFields 11 = .ok (.invokevirtual 55, 3) := by decide +kernel
theorem d_By_fitsFields_14 : decode b_By_fitsFields 14 = .ok (.if_icmp .ge 128, 3) := by decide +kernel
theorem d_By_fitsFields_17 : decode b_By_fitsFields 17 = .ok (.aload_n 1, 1) := by decide +kernel
theorem d_By_fitsFields_18 : decode b_By_fitsFields 18 = .ok (.iload 6, 2) := by decide +kernel
theorem d_By_fitsFields_20 : decode b_By_fitsFields 20 = .ok (.invokevirtual 61, 3) := by decide +kernel
theorem d_By_fitsFields_23 : decode b_By_fitsFields 23 = .ok (.istore 7, 2) := by decide +kernel
theorem d_By_fitsFields_25 : decode b_By_fitsFields 25 = .ok (.iload 7, 2) := by decide +kernel
theorem d_By_fitsFields_27 : decode b_By_fitsFields 27 = .ok (.bipush 57, 2) := by decide +kernel
theorem d_By_fitsFields_29 : decode b_By_fitsFields 29 = .ok (.if_icmp .gt 11, 3) := by decide +kernel
theorem d_By_fitsFields_32 : decode b_By_fitsFields 32 = .ok (.iload 7, 2) := by decide +kernel
theorem d_By_fitsFields_34 : decode b_By_fitsFields 34 = .ok (.bipush 48, 2) := by decide +kernel
theorem d_By_fitsFields_36 : decode b_By_fitsFields 36 = .ok (.isub, 1) := by decide +kernel
theorem d_By_fitsFields_37 : decode b_By_fitsFields 37 = .ok (.goto 11, 3) := by decide +kernel
theorem d_By_fitsFields_40 : decode b_By_fitsFields 40 = .ok (.iload 7, 2) := by decide +kernel
theorem d_By_fitsFields_42 : decode b_By_fitsFields 42 = .ok (.bipush 97, 2) := by decide +kernel
theorem d_By_fitsFields_44 : decode b_By_fitsFields 44 = .ok (.isub, 1) := by decide +kernel
theorem d_By_fitsFields_45 : decode b_By_fitsFields 45 = .ok (.bipush 10, 2) := by decide +kernel
theorem d_By_fitsFields_47 : decode b_By_fitsFields 47 = .ok (.iadd, 1) := by decide +kernel
theorem d_By_fitsFields_48 : decode b_By_fitsFields 48 = .ok (.istore 8, 2) := by decide +kernel
theorem d_By_fitsFields_50 : decode b_By_fitsFields 50 = .ok (.iload 5, 2) := by decide +kernel
theorem d_By_fitsFields_52 : decode b_By_fitsFields 52 = .ok (.iload_n 3, 1) := by decide +kernel
theorem d_By_fitsFields_53 : decode b_By_fitsFields 53 = .ok (.if_icmp .ge 68, 3) := by decide +kernel
theorem d_By_fitsFields_56 : decode b_By_fitsFields 56 = .ok (.aload_n 0, 1) := by decide +kernel
theorem d_By_fitsFields_57 : decode b_By_fitsFields 57 = .ok (.iload 5, 2) := by decide +kernel
theorem d_By_fitsFields_59 : decode b_By_fitsFields 59 = .ok (.invokevirtual 123, 3) := by decide +kernel
theorem d_By_fitsFields_62 : decode b_By_fitsFields 62 = .ok (.sipush 160, 3) := by decide +kernel
theorem d_By_fitsFields_65 : decode b_By_fitsFields 65 = .ok (.iload 8, 2) := by decide +kernel
theorem d_By_fitsFields_67 : decode b_By_fitsFields 67 = .ok (.iadd, 1) := by decide +kernel
theorem d_By_fitsFields_68 : decode b_By_fitsFields 68 = .ok (.if_icmp .ne 53, 3) := by decide +kernel
theorem d_By_fitsFields_71 : decode b_By_fitsFields 71 = .ok (.aload_n 0, 1) := by decide +kernel
theorem d_By_fitsFields_72 : decode b_By_fitsFields 72 = .ok (.iload 5, 2) := by decide +kernel
theorem d_By_fitsFields_74 : decode b_By_fitsFields 74 = .ok (.iload_n 3, 1) := by decide +kernel
theorem d_By_fitsFields_75 : decode b_By_fitsFields 75 = .ok (.invokevirtual 98, 3) := by decide +kernel
theorem d_By_fitsFields_78 : decode b_By_fitsFields 78 = .ok (.istore 9, 2) := by decide +kernel
theorem d_By_fitsFields_80 : decode b_By_fitsFields 80 = .ok (.iload 9, 2) := by decide +kernel
theorem d_By_fitsFields_82 : decode b_By_fitsFields 82 = .ok (.ifCond .lt 30, 3) := by decide +kernel
theorem d_By_fitsFields_85 : decode b_By_fitsFields 85 = .ok (.aload_n 0, 1) := by decide +kernel
theorem d_By_fitsFields_86 : decode b_By_fitsFields 86 = .ok (.aload_n 1, 1) := by decide +kernel
theorem d_By_fitsFields_87 : decode b_By_fitsFields 87 = .ok (.iload 6, 2) := by decide +kernel
theorem d_By_fitsFields_89 : decode b_By_fitsFields 89 = .ok (.iconst 2, 1) := by decide +kernel
theorem d_By_fitsFields_90 : decode b_By_fitsFields 90 = .ok (.iadd, 1) := by decide +kernel
theorem d_By_fitsFields_91 : decode b_By_fitsFields 91 = .ok (.invokevirtual 61, 3) := by decide +kernel
theorem d_By_fitsFields_94 : decode b_By_fitsFields 94 = .ok (.aload_n 0, 1) := by decide +kernel
theorem d_By_fitsFields_95 : decode b_By_fitsFields 95 = .ok (.iload 5, 2) := by decide +kernel
theorem d_By_fitsFields_97 : decode b_By_fitsFields 97 = .ok (.invokevirtual 126, 3) := by decide +kernel
theorem d_By_fitsFields_100 : decode b_By_fitsFields 100 = .ok (.iload 9, 2) := by decide +kernel
theorem d_By_fitsFields_102 : decode b_By_fitsFields 102 = .ok (.iload 4, 2) := by decide +kernel
theorem d_By_fitsFields_104 : decode b_By_fitsFields 104 = .ok (.iconst 1, 1) := by decide +kernel
theorem d_By_fitsFields_105 : decode b_By_fitsFields 105 = .ok (.iadd, 1) := by decide +kernel
theorem d_By_fitsFields_106 : decode b_By_fitsFields 106 = .ok (.invokevirtual 147, 3) := by decide +kernel
theorem d_By_fitsFields_109 : decode b_By_fitsFields 109 = .ok (.ifCond .ne 5, 3) := by decide +kernel
theorem d_By_fitsFields_112 : decode b_By_fitsFields 112 = .ok (.iconst 0, 1) := by decide +kernel
theorem d_By_fitsFields_113 : decode b_By_fitsFields 113 = .ok (.ireturn, 1) := by decide +kernel
theorem d_By_fitsFields_114 : decode b_By_fitsFields 114 = .ok (.iload 9, 2) := by decide +kernel
theorem d_By_fitsFields_116 : decode b_By_fitsFields 116 = .ok (.istore 5, 2) := by decide +kernel
theorem d_By_fitsFields_118 : decode b_By_fitsFields 118 = .ok (.goto 18, 3) := by decide +kernel
theorem d_By_fitsFields_121 : decode b_By_fitsFields 121 = .ok (.aload_n 1, 1) := by decide +kernel
theorem d_By_fitsFields_122 : decode b_By_fitsFields 122 = .ok (.iload 6, 2) := by decide +kernel
theorem d_By_fitsFields_124 : decode b_By_fitsFields 124 = .ok (.iconst 1, 1) := by decide +kernel
theorem d_By_fitsFields_125 : decode b_By_fitsFields 125 = .ok (.iadd, 1) := by decide +kernel
theorem d_By_fitsFields_126 : decode b_By_fitsFields 126 = .ok (.invokevirtual 61, 3) := by decide +kernel
theorem d_By_fitsFields_129 : decode b_By_fitsFields 129 = .ok (.bipush 33, 2) := by decide +kernel
theorem d_By_fitsFields_131 : decode b_By_fitsFields 131 = .ok (.if_icmp .ne 5, 3) := by decide +kernel
theorem d_By_fitsFields_134 : decode b_By_fitsFields 134 = .ok (.iconst 0, 1) := by decide +kernel
theorem d_By_fitsFields_135 : decode b_By_fitsFields 135 = .ok (.ireturn, 1) := by decide +kernel
theorem d_By_fitsFields_136 : decode b_By_fitsFields 136 = .ok (.iinc 6 3, 3) := by decide +kernel
theorem d_By_fitsFields_139 : decode b_By_fitsFields 139 = .ok (.goto (-133), 3) := by decide +kernel
theorem d_By_fitsFields_142 : decode b_By_fitsFields 142 = .ok (.iload 5, 2) := by decide +kernel
theorem d_By_fitsFields_144 : decode b_By_fitsFields 144 = .ok (.iload_n 3, 1) := by decide +kernel
theorem d_By_fitsFields_145 : decode b_By_fitsFields 145 = .ok (.if_icmp .ne 7, 3) := by decide +kernel
theorem d_By_fitsFields_148 : decode b_By_fitsFields 148 = .ok (.iconst 1, 1) := by decide +kernel
theorem d_By_fitsFields_149 : decode b_By_fitsFields 149 = .ok (.goto 4, 3) := by decide +kernel
theorem d_By_fitsFields_152 : decode b_By_fitsFields 152 = .ok (.iconst 0, 1) := by decide +kernel
theorem d_By_fitsFields_153 : decode b_By_fitsFields 153 = .ok (.ireturn, 1) := by decide +kernel
abbrev b_By_isNumber : ByteArray := prog_4_method_50_code
def y_By_isNumber : MethodName := ⟨R_By, "isNumber", "(IIJJ)Z"⟩
abbrev k_By_isNumber : Cond := .code y_By_isNumber b_By_isNumber 9 (some .boolean)
theorem ki_By_isNumber : k_By_isNumber ∈ lw_tg := in_t 858 (by decide +kernel)
theorem ks_By_isNumber : Cond.instanceMethod y_By_isNumber ∈ lw_tg := in_t 857 (by decide +kernel)
theorem kx_By_isNumber : Cond.selects R_By y_By_isNumber y_By_isNumber ∈ lw_tg := List.mem_filter.mpr ⟨List.mem_append_left _ (List.mem_of_getElem? (i := 11) (by decide +kernel)), rfl⟩
theorem kl_By_By_isNumber : Cond.methodLink R_By 155 y_By_isNumber ∈ lw_tg := in_t 855 (by decide +kernel)
theorem hd_By_isNumber : y_By_isNumber.cls = R_By ∧ y_By_isNumber.cls ≠ "java/lang/invoke/MethodHandle" ∧ y_By_isNumber.cls ≠ "java/lang/invoke/VarHandle" ∧ (parseMethodDescriptor y_By_isNumber.desc).map (fun d => d.parameters.length) = some 4 := by decide +kernel
theorem d_By_isNumber_0 : decode b_By_isNumber 0 = .ok (.iload_n 1, 1) := by decide +kernel
theorem d_By_isNumber_1 : decode b_By_isNumber 1 = .ok (.ifCond .lt 23, 3) := by decide +kernel
theorem d_By_isNumber_4 : decode b_By_isNumber 4 = .ok (.iload_n 2, 1) := by decide +kernel
theorem d_By_isNumber_5 : decode b_By_isNumber 5 = .ok (.iload_n 1, 1) := by decide +kernel
theorem d_By_isNumber_6 : decode b_By_isNumber 6 = .ok (.if_icmp .le 18, 3) := by decide +kernel
theorem d_By_isNumber_9 : decode b_By_isNumber 9 = .ok (.iload_n 2, 1) := by decide +kernel
theorem d_By_isNumber_10 : decode b_By_isNumber 10 = .ok (.iload_n 1, 1) := by decide +kernel
theorem d_By_isNumber_11 : decode b_By_isNumber 11 = .ok (.isub, 1) := by decide +kernel
theorem d_By_isNumber_12 : decode b_By_isNumber 12 = .ok (.iconst 5, 1) := by decide +kernel
theorem d_By_isNumber_13 : decode b_By_isNumber 13 = .ok (.if_icmp .gt 11, 3) := by decide +kernel
theorem d_By_isNumber_16 : decode b_By_isNumber 16 = .ok (.iload_n 2, 1) := by decide +kernel
theorem d_By_isNumber_17 : decode b_By_isNumber 17 = .ok (.aload_n 0, 1) := by decide +kernel
theorem d_By_isNumber_18 : decode b_By_isNumber 18 = .ok (.getfield 21, 3) := by decide +kernel
theorem d_By_isNumber_21 : decode b_By_isNumber 21 = .ok (.if_icmp .le 5, 3) := by decide +kernel
theorem d_By_isNumber_24 : decode b_By_isNumber 24 = .ok (.iconst 0, 1) := by decide +kernel
theorem d_By_isNumber_25 : decode b_By_isNumber 25 = .ok (.ireturn, 1) := by decide +kernel
theorem d_By_isNumber_26 : decode b_By_isNumber 26 = .ok (.iload_n 2, 1) := by decide +kernel
theorem d_By_isNumber_27 : decode b_By_isNumber 27 = .ok (.iload_n 1, 1) := by decide +kernel
theorem d_By_isNumber_28 : decode b_By_isNumber 28 = .ok (.isub, 1) := by decide +kernel
theorem d_By_isNumber_29 : decode b_By_isNumber 29 = .ok (.iconst 1, 1) := by decide +kernel
theorem d_By_isNumber_30 : decode b_By_isNumber 30 = .ok (.if_icmp .le 46, 3) := by decide +kernel
theorem d_By_isNumber_33 : decode b_By_isNumber 33 = .ok (.aload_n 0, 1) := by decide +kernel
theorem d_By_isNumber_34 : decode b_By_isNumber 34 = .ok (.getfield 15, 3) := by decide +kernel
theorem d_By_isNumber_37 : decode b_By_isNumber 37 = .ok (.iload_n 1, 1) := by decide +kernel
theorem d_By_isNumber_38 : decode b_By_isNumber 38 = .ok (.baload, 1) := by decide +kernel
theorem d_By_isNumber_39 : decode b_By_isNumber 39 = .ok (.ifCond .ne 14, 3) := by decide +kernel
theorem d_By_isNumber_42 : decode b_By_isNumber 42 = .ok (.aload_n 0, 1) := by decide +kernel
theorem d_By_isNumber_43 : decode b_By_isNumber 43 = .ok (.getfield 15, 3) := by decide +kernel
theorem d_By_isNumber_46 : decode b_By_isNumber 46 = .ok (.iload_n 1, 1) := by decide +kernel
theorem d_By_isNumber_47 : decode b_By_isNumber 47 = .ok (.iconst 1, 1) := by decide +kernel
theorem d_By_isNumber_48 : decode b_By_isNumber 48 = .ok (.iadd, 1) := by decide +kernel
theorem d_By_isNumber_49 : decode b_By_isNumber 49 = .ok (.baload, 1) := by decide +kernel
theorem d_By_isNumber_50 : decode b_By_isNumber 50 = .ok (.ifCond .ge 24, 3) := by decide +kernel
theorem d_By_isNumber_53 : decode b_By_isNumber 53 = .ok (.aload_n 0, 1) := by decide +kernel
theorem d_By_isNumber_54 : decode b_By_isNumber 54 = .ok (.getfield 15, 3) := by decide +kernel
theorem d_By_isNumber_57 : decode b_By_isNumber 57 = .ok (.iload_n 1, 1) := by decide +kernel
theorem d_By_isNumber_58 : decode b_By_isNumber 58 = .ok (.baload, 1) := by decide +kernel
theorem d_By_isNumber_59 : decode b_By_isNumber 59 = .ok (.iconst (-1), 1) := by decide +kernel
theorem d_By_isNumber_60 : decode b_By_isNumber 60 = .ok (.if_icmp .ne 16, 3) := by decide +kernel
theorem d_By_isNumber_63 : decode b_By_isNumber 63 = .ok (.aload_n 0, 1) := by decide +kernel
theorem d_By_isNumber_64 : decode b_By_isNumber 64 = .ok (.getfield 15, 3) := by decide +kernel
theorem d_By_isNumber_67 : decode b_By_isNumber 67 = .ok (.iload_n 1, 1) := by decide +kernel
theorem d_By_isNumber_68 : decode b_By_isNumber 68 = .ok (.iconst 1, 1) := by decide +kernel
theorem d_By_isNumber_69 : decode b_By_isNumber 69 = .ok (.iadd, 1) := by decide +kernel
theorem d_By_isNumber_70 : decode b_By_isNumber 70 = .ok (.baload, 1) := by decide +kernel
theorem d_By_isNumber_71 : decode b_By_isNumber 71 = .ok (.ifCond .ge 5, 3) := by decide +kernel
theorem d_By_isNumber_74 : decode b_By_isNumber 74 = .ok (.iconst 0, 1) := by decide +kernel
theorem d_By_isNumber_75 : decode b_By_isNumber 75 = .ok (.ireturn, 1) := by decide +kernel
theorem d_By_isNumber_76 : decode b_By_isNumber 76 = .ok (.aload_n 0, 1) := by decide +kernel
theorem d_By_isNumber_77 : decode b_By_isNumber 77 = .ok (.iload_n 1, 1) := by decide +kernel
theorem d_By_isNumber_78 : decode b_By_isNumber 78 = .ok (.iload_n 2, 1) := by decide +kernel
theorem d_By_isNumber_79 : decode b_By_isNumber 79 = .ok (.invokevirtual 129, 3) := by decide +kernel
theorem d_By_isNumber_82 : decode b_By_isNumber 82 = .ok (.lstore 7, 2) := by decide +kernel
theorem d_By_isNumber_84 : decode b_By_isNumber 84 = .ok (.lload 7, 2) := by decide +kernel
theorem d_By_isNumber_86 : decode b_By_isNumber 86 = .ok (.lload_n 3, 1) := by decide +kernel
theorem d_By_isNumber_87 : decode b_By_isNumber 87 = .ok (.lcmp, 1) := by decide +kernel
theorem d_By_isNumber_88 : decode b_By_isNumber 88 = .ok (.ifCond .lt 15, 3) := by decide +kernel
theorem d_By_isNumber_91 : decode b_By_isNumber 91 = .ok (.lload 7, 2) := by decide +kernel
theorem d_By_isNumber_93 : decode b_By_isNumber 93 = .ok (.lload 5, 2) := by decide +kernel
theorem d_By_isNumber_95 : decode b_By_isNumber 95 = .ok (.lcmp, 1) := by decide +kernel
theorem d_By_isNumber_96 : decode b_By_isNumber 96 = .ok (.ifCond .gt 7, 3) := by decide +kernel
theorem d_By_isNumber_99 : decode b_By_isNumber 99 = .ok (.iconst 1, 1) := by decide +kernel
theorem d_By_isNumber_100 : decode b_By_isNumber 100 = .ok (.goto 4, 3) := by decide +kernel
theorem d_By_isNumber_103 : decode b_By_isNumber 103 = .ok (.iconst 0, 1) := by decide +kernel
theorem d_By_isNumber_104 : decode b_By_isNumber 104 = .ok (.ireturn, 1) := by decide +kernel
abbrev b_By_isTime : ByteArray := prog_4_method_51_code
def y_By_isTime : MethodName := ⟨R_By, "isTime", "(II)Z"⟩
abbrev k_By_isTime : Cond := .code y_By_isTime b_By_isTime 9 (some .boolean)
theorem ki_By_isTime : k_By_isTime ∈ lw_tg := in_t 869 (by decide +kernel)
theorem ks_By_isTime : Cond.instanceMethod y_By_isTime ∈ lw_tg := in_t 868 (by decide +kernel)
theorem kx_By_isTime : Cond.selects R_By y_By_isTime y_By_isTime ∈ lw_tg := List.mem_filter.mpr ⟨List.mem_append_left _ (List.mem_of_getElem? (i := 13) (by decide +kernel)), rfl⟩
theorem kl_By_By_isTime : Cond.methodLink R_By 167 y_By_isTime ∈ lw_tg := in_t 866 (by decide +kernel)
theorem hd_By_isTime : y_By_isTime.cls = R_By ∧ y_By_isTime.cls ≠ "java/lang/invoke/MethodHandle" ∧ y_By_isTime.cls ≠ "java/lang/invoke/VarHandle" ∧ (parseMethodDescriptor y_By_isTime.desc).map (fun d => d.parameters.length) = some 2 := by decide +kernel
theorem d_By_isTime_0 : decode b_By_isTime 0 = .ok (.iload_n 2, 1) := by decide +kernel
theorem d_By_isTime_1 : decode b_By_isTime 1 = .ok (.iload_n 1, 1) := by decide +kernel
theorem d_By_isTime_2 : decode b_By_isTime 2 = .ok (.isub, 1) := by decide +kernel
theorem d_By_isTime_3 : decode b_By_isTime 3 = .ok (.bipush 15, 2) := by decide +kernel
theorem d_By_isTime_5 : decode b_By_isTime 5 = .ok (.if_icmp .ne 16, 3) := by decide +kernel
theorem d_By_isTime_8 : decode b_By_isTime 8 = .ok (.aload_n 0, 1) := by decide +kernel
theorem d_By_isTime_9 : decode b_By_isTime 9 = .ok (.iload_n 1, 1) := by decide +kernel
theorem d_By_isTime_10 : decode b_By_isTime 10 = .ok (.bipush 14, 2) := by decide +kernel
theorem d_By_isTime_12 : decode b_By_isTime 12 = .ok (.iadd, 1) := by decide +kernel
theorem d_By_isTime_13 : decode b_By_isTime 13 = .ok (.invokevirtual 123, 3) := by decide +kernel
theorem d_By_isTime_16 : decode b_By_isTime 16 = .ok (.bipush 90, 2) := by decide +kernel
theorem d_By_isTime_18 : decode b_By_isTime 18 = .ok (.if_icmp .eq 5, 3) := by decide +kernel
theorem d_By_isTime_21 : decode b_By_isTime 21 = .ok (.iconst 0, 1) := by decide +kernel
theorem d_By_isTime_22 : decode b_By_isTime 22 = .ok (.ireturn, 1) := by decide +kernel
theorem d_By_isTime_23 : decode b_By_isTime 23 = .ok (.aload_n 0, 1) := by decide +kernel
theorem d_By_isTime_24 : decode b_By_isTime 24 = .ok (.iload_n 1, 1) := by decide +kernel
theorem d_By_isTime_25 : decode b_By_isTime 25 = .ok (.iconst 4, 1) := by decide +kernel
theorem d_By_isTime_26 : decode b_By_isTime 26 = .ok (.invokevirtual 133, 3) := by decide +kernel
theorem d_By_isTime_29 : decode b_By_isTime 29 = .ok (.istore_n 3, 1) := by decide +kernel
theorem d_By_isTime_30 : decode b_By_isTime 30 = .ok (.aload_n 0, 1) := by decide +kernel
theorem d_By_isTime_31 : decode b_By_isTime 31 = .ok (.iload_n 1, 1) := by decide +kernel
theorem d_By_isTime_32 : decode b_By_isTime 32 = .ok (.iconst 4, 1) := by decide +kernel
theorem d_By_isTime_33 : decode b_By_isTime 33 = .ok (.iadd, 1) := by decide +kernel
theorem d_By_isTime_34 : decode b_By_isTime 34 = .ok (.iconst 2, 1) := by decide +kernel
theorem d_By_isTime_35 : decode b_By_isTime 35 = .ok (.invokevirtual 133, 3) := by decide +kernel
theorem d_By_isTime_38 : decode b_By_isTime 38 = .ok (.istore 4, 2) := by decide +kernel
theorem d_By_isTime_40 : decode b_By_isTime 40 = .ok (.aload_n 0, 1) := by decide +kernel
theorem d_By_isTime_41 : decode b_By_isTime 41 = .ok (.iload_n 1, 1) := by decide +kernel
theorem d_By_isTime_42 : decode b_By_isTime 42 = .ok (.bipush 6, 2) := by decide +kernel
theorem d_By_isTime_44 : decode b_By_isTime 44 = .ok (.iadd, 1) := by decide +kernel
theorem d_By_isTime_45 : decode b_By_isTime 45 = .ok (.iconst 2, 1) := by decide +kernel
theorem d_By_isTime_46 : decode b_By_isTime 46 = .ok (.invokevirtual 133, 3) := by decide +kernel
theorem d_By_isTime_49 : decode b_By_isTime 49 = .ok (.istore 5, 2) := by decide +kernel
theorem d_By_isTime_51 : decode b_By_isTime 51 = .ok (.aload_n 0, 1) := by decide +kernel
theorem d_By_isTime_52 : decode b_By_isTime 52 = .ok (.iload_n 1, 1) := by decide +kernel
theorem d_By_isTime_53 : decode b_By_isTime 53 = .ok (.bipush 8, 2) := by decide +kernel
theorem d_By_isTime_55 : decode b_By_isTime 55 = .ok (.iadd, 1) := by decide +kernel
theorem d_By_isTime_56 : decode b_By_isTime 56 = .ok (.iconst 2, 1) := by decide +kernel
theorem d_By_isTime_57 : decode b_By_isTime 57 = .ok (.invokevirtual 133, 3) := by decide +kernel
theorem d_By_isTime_60 : decode b_By_isTime 60 = .ok (.istore 6, 2) := by decide +kernel
theorem d_By_isTime_62 : decode b_By_isTime 62 = .ok (.aload_n 0, 1) := by decide +kernel
theorem d_By_isTime_63 : decode b_By_isTime 63 = .ok (.iload_n 1, 1) := by decide +kernel
theorem d_By_isTime_64 : decode b_By_isTime 64 = .ok (.bipush 10, 2) := by decide +kernel
theorem d_By_isTime_66 : decode b_By_isTime 66 = .ok (.iadd, 1) := by decide +kernel
theorem d_By_isTime_67 : decode b_By_isTime 67 = .ok (.iconst 2, 1) := by decide +kernel
theorem d_By_isTime_68 : decode b_By_isTime 68 = .ok (.invokevirtual 133, 3) := by decide +kernel
theorem d_By_isTime_71 : decode b_By_isTime 71 = .ok (.istore 7, 2) := by decide +kernel
theorem d_By_isTime_73 : decode b_By_isTime 73 = .ok (.aload_n 0, 1) := by decide +kernel
theorem d_By_isTime_74 : decode b_By_isTime 74 = .ok (.iload_n 1, 1) := by decide +kernel
theorem d_By_isTime_75 : decode b_By_isTime 75 = .ok (.bipush 12, 2) := by decide +kernel
theorem d_By_isTime_77 : decode b_By_isTime 77 = .ok (.iadd, 1) := by decide +kernel
theorem d_By_isTime_78 : decode b_By_isTime 78 = .ok (.iconst 2, 1) := by decide +kernel
theorem d_By_isTime_79 : decode b_By_isTime 79 = .ok (.invokevirtual 133, 3) := by decide +kernel
theorem d_By_isTime_82 : decode b_By_isTime 82 = .ok (.istore 8, 2) := by decide +kernel
theorem d_By_isTime_84 : decode b_By_isTime 84 = .ok (.iload_n 3, 1) := by decide +kernel
theorem d_By_isTime_85 : decode b_By_isTime 85 = .ok (.sipush 1970, 3) := by decide +kernel
theorem d_By_isTime_88 : decode b_By_isTime 88 = .ok (.if_icmp .lt 89, 3) := by decide +kernel
theorem d_By_isTime_91 : decode b_By_isTime 91 = .ok (.iload_n 3, 1) := by decide +kernel
theorem d_By_isTime_92 : decode b_By_isTime 92 = .ok (.sipush 2037, 3) := by decide +kernel
theorem d_By_isTime_95 : decode b_By_isTime 95 = .ok (.if_icmp .gt 82, 3) := by decide +kernel
theorem d_By_isTime_98 : decode b_By_isTime 98 = .ok (.iload 4, 2) := by decide +kernel
theorem d_By_isTime_100 : decode b_By_isTime 100 = .ok (.iconst 1, 1) := by decide +kernel
theorem d_By_isTime_101 : decode b_By_isTime 101 = .ok (.if_icmp .lt 76, 3) := by decide +kernel
theorem d_By_isTime_104 : decode b_By_isTime 104 = .ok (.iload 4, 2) := by decide +kernel
theorem d_By_isTime_106 : decode b_By_isTime 106 = .ok (.bipush 12, 2) := by decide +kernel
theorem d_By_isTime_108 : decode b_By_isTime 108 = .ok (.if_icmp .gt 69, 3) := by decide +kernel
theorem d_By_isTime_111 : decode b_By_isTime 111 = .ok (.iload 5, 2) := by decide +kernel
theorem d_By_isTime_113 : decode b_By_isTime 113 = .ok (.iconst 1, 1) := by decide +kernel
theorem d_By_isTime_114 : decode b_By_isTime 114 = .ok (.if_icmp .lt 63, 3) := by decide +kernel
theorem d_By_isTime_117 : decode b_By_isTime 117 = .ok (.iload 5, 2) := by decide +kernel
theorem d_By_isTime_119 : decode b_By_isTime 119 = .ok (.iload_n 3, 1) := by decide +kernel
theorem d_By_isTime_120 : decode b_By_isTime 120 = .ok (.iload 4, 2) := by decide +kernel
theorem d_By_isTime_122 : decode b_By_isTime 122 = .ok (.iconst 1, 1) := by decide +kernel
theorem d_By_isTime_123 : decode b_By_isTime 123 = .ok (.iadd, 1) := by decide +kernel
theorem d_By_isTime_124 : decode b_By_isTime 124 = .ok (.invokestatic 102, 3) := by decide +kernel
theorem d_By_isTime_127 : decode b_By_isTime 127 = .ok (.iload_n 3, 1) := by decide +kernel
theorem d_By_isTime_128 : decode b_By_isTime 128 = .ok (.iload 4, 2) := by decide +kernel
theorem d_By_isTime_130 : decode b_By_isTime 130 = .ok (.invokestatic 102, 3) := by decide +kernel
theorem d_By_isTime_133 : decode b_By_isTime 133 = .ok (.isub, 1) := by decide +kernel
theorem d_By_isTime_134 : decode b_By_isTime 134 = .ok (.if_icmp .gt 43, 3) := by decide +kernel
theorem d_By_isTime_137 : decode b_By_isTime 137 = .ok (.iload 6, 2) := by decide +kernel
theorem d_By_isTime_139 : decode b_By_isTime 139 = .ok (.ifCond .lt 38, 3) := by decide +kernel
theorem d_By_isTime_142 : decode b_By_isTime 142 = .ok (.iload 6, 2) := by decide +kernel
theorem d_By_isTime_144 : decode b_By_isTime 144 = .ok (.bipush 23, 2) := by decide +kernel
theorem d_By_isTime_146 : decode b_By_isTime 146 = .ok (.if_icmp .gt 31, 3) := by decide +kernel
theorem d_By_isTime_149 : decode b_By_isTime 149 = .ok (.iload 7, 2) := by decide +kernel
theorem d_By_isTime_151 : decode b_By_isTime 151 = .ok (.ifCond .lt 26, 3) := by decide +kernel
theorem d_By_isTime_154 : decode b_By_isTime 154 = .ok (.iload 7, 2) := by decide +kernel
theorem d_By_isTime_156 : decode b_By_isTime 156 = .ok (.bipush 59, 2) := by decide +kernel
theorem d_By_isTime_158 : decode b_By_isTime 158 = .ok (.if_icmp .gt 19, 3) := by decide +kernel
theorem d_By_isTime_161 : decode b_By_isTime 161 = .ok (.iload 8, 2) := by decide +kernel
theorem d_By_isTime_163 : decode b_By_isTime 163 = .ok (.ifCond .lt 14, 3) := by decide +kernel
theorem d_By_isTime_166 : decode b_By_isTime 166 = .ok (.iload 8, 2) := by decide +kernel
theorem d_By_isTime_168 : decode b_By_isTime 168 = .ok (.bipush 59, 2) := by decide +kernel
theorem d_By_isTime_170 : decode b_By_isTime 170 = .ok (.if_icmp .gt 7, 3) := by decide +kernel
theorem d_By_isTime_173 : decode b_By_isTime 173 = .ok (.iconst 1, 1) := by decide +kernel
theorem d_By_isTime_174 : decode b_By_isTime 174 = .ok (.goto 4, 3) := by decide +kernel
theorem d_By_isTime_177 : decode b_By_isTime 177 = .ok (.iconst 0, 1) := by decide +kernel
theorem d_By_isTime_178 : decode b_By_isTime 178 = .ok (.ireturn, 1) := by decide +kernel
abbrev b_By_tagOf : ByteArray := prog_4_method_52_code
def y_By_tagOf : MethodName := ⟨R_By, "tagOf", "(I)I"⟩
abbrev k_By_tagOf : Cond := .code y_By_tagOf b_By_tagOf 1 (some .int)
theorem ki_By_tagOf : k_By_tagOf ∈ lw_tg := in_t 882 (by decide +kernel)
theorem ks_By_tagOf : Cond.static y_By_tagOf ∈ lw_tg := in_t 881 (by decide +kernel)
theorem kl_By_By_tagOf : Cond.methodLink R_By 170 y_By_tagOf ∈ lw_tg := in_t 880 (by decide +kernel)
theorem hd_By_tagOf : y_By_tagOf.cls = R_By ∧ y_By_tagOf.cls ≠ "java/lang/invoke/MethodHandle" ∧ y_By_tagOf.cls ≠ "java/lang/invoke/VarHandle" ∧ (parseMethodDescriptor y_By_tagOf.desc).map (fun d => d.parameters.length) = some 1 := by decide +kernel
theorem d_By_tagOf_0 : decode b_By_tagOf 0 = .ok (.iload_n 0, 1) := by decide +kernel
theorem d_By_tagOf_1 : decode b_By_tagOf 1 = .ok (.sipush 256, 3) := by decide +kernel
theorem d_By_tagOf_4 : decode b_By_tagOf 4 = .ok (.if_icmp .lt 11, 3) := by decide +kernel
theorem d_By_tagOf_7 : decode b_By_tagOf 7 = .ok (.iload_n 0, 1) := by decide +kernel
theorem d_By_tagOf_8 : decode b_By_tagOf 8 = .ok (.sipush 256, 3) := by decide +kernel
theorem d_By_tagOf_11 : decode b_By_tagOf 11 = .ok (.isub, 1) := by decide +kernel
theorem d_By_tagOf_12 : decode b_By_tagOf 12 = .ok (.goto 16, 3) := by decide +kernel
theorem d_By_tagOf_15 : decode b_By_tagOf 15 = .ok (.iload_n 0, 1) := by decide +kernel
theorem d_By_tagOf_16 : decode b_By_tagOf 16 = .ok (.bipush 107, 2) := by decide +kernel
theorem d_By_tagOf_18 : decode b_By_tagOf 18 = .ok (.if_icmp .ne 8, 3) := by decide +kernel
theorem d_By_tagOf_21 : decode b_By_tagOf 21 = .ok (.bipush 97, 2) := by decide +kernel
theorem d_By_tagOf_23 : decode b_By_tagOf 23 = .ok (.goto 5, 3) := by decide +kernel
theorem d_By_tagOf_26 : decode b_By_tagOf 26 = .ok (.bipush 48, 2) := by decide +kernel
theorem d_By_tagOf_28 : decode b_By_tagOf 28 = .ok (.ireturn, 1) := by decide +kernel
abbrev b_By_shapeOf : ByteArray := prog_4_method_53_code
def y_By_shapeOf : MethodName := ⟨R_By, "shapeOf", "(I)Ljava/lang/String;"⟩
abbrev k_By_shapeOf : Cond := .code y_By_shapeOf b_By_shapeOf 1 (some (.object "java/lang/String"))
theorem ki_By_shapeOf : k_By_shapeOf ∈ lw_tg := in_t 893 (by decide +kernel)
theorem ks_By_shapeOf : Cond.static y_By_shapeOf ∈ lw_tg := in_t 892 (by decide +kernel)
theorem kl_By_By_shapeOf : Cond.methodLink R_By 179 y_By_shapeOf ∈ lw_tg := in_t 891 (by decide +kernel)
theorem hd_By_shapeOf : y_By_shapeOf.cls = R_By ∧ y_By_shapeOf.cls ≠ "java/lang/invoke/MethodHandle" ∧ y_By_shapeOf.cls ≠ "java/lang/invoke/VarHandle" ∧ (parseMethodDescriptor y_By_shapeOf.desc).map (fun d => d.parameters.length) = some 1 := by decide +kernel
theorem d_By_shapeOf_0 : decode b_By_shapeOf 0 = .ok (.iload_n 0, 1) := by decide +kernel
theorem d_By_shapeOf_1 : decode b_By_shapeOf 1 = .ok (.lookupswitch 129 #[(97, 102), (99, 123), (101, 111), (102, 120), (107, 126), (108, 105), (110, 99), (112, 108), (113, 117), (120, 114), (380, 120)], 99) := by decide +kernel
theorem d_By_shapeOf_100 : decode b_By_shapeOf 100 = .ok (.ldc 187, 2) := by decide +kernel
theorem d_By_shapeOf_102 : decode b_By_shapeOf 102 = .ok (.areturn, 1) := by decide +kernel
theorem d_By_shapeOf_103 : decode b_By_shapeOf 103 = .ok (.ldc 189, 2) := by decide +kernel
theorem d_By_shapeOf_105 : decode b_By_shapeOf 105 = .ok (.areturn, 1) := by decide +kernel
theorem d_By_shapeOf_106 : decode b_By_shapeOf 106 = .ok (.ldc 191, 2) := by decide +kernel
theorem d_By_shapeOf_108 : decode b_By_shapeOf 108 = .ok (.areturn, 1) := by decide +kernel
theorem d_By_shapeOf_109 : decode b_By_shapeOf 109 = .ok (.ldc 193, 2) := by decide +kernel
theorem d_By_shapeOf_111 : decode b_By_shapeOf 111 = .ok (.areturn, 1) := by decide +kernel
theorem d_By_shapeOf_112 : decode b_By_shapeOf 112 = .ok (.ldc 195, 2) := by decide +kernel
theorem d_By_shapeOf_114 : decode b_By_shapeOf 114 = .ok (.areturn, 1) := by decide +kernel
theorem d_By_shapeOf_115 : decode b_By_shapeOf 115 = .ok (.ldc 197, 2) := by decide +kernel
theorem d_By_shapeOf_117 : decode b_By_shapeOf 117 = .ok (.areturn, 1) := by decide +kernel
theorem d_By_shapeOf_118 : decode b_By_shapeOf 118 = .ok (.ldc 199, 2) := by decide +kernel
theorem d_By_shapeOf_120 : decode b_By_shapeOf 120 = .ok (.areturn, 1) := by decide +kernel
theorem d_By_shapeOf_121 : decode b_By_shapeOf 121 = .ok (.ldc 201, 2) := by decide +kernel
theorem d_By_shapeOf_123 : decode b_By_shapeOf 123 = .ok (.areturn, 1) := by decide +kernel
theorem d_By_shapeOf_124 : decode b_By_shapeOf 124 = .ok (.ldc 203, 2) := by decide +kernel
theorem d_By_shapeOf_126 : decode b_By_shapeOf 126 = .ok (.areturn, 1) := by decide +kernel
theorem d_By_shapeOf_127 : decode b_By_shapeOf 127 = .ok (.ldc 205, 2) := by decide +kernel
theorem d_By_shapeOf_129 : decode b_By_shapeOf 129 = .ok (.areturn, 1) := by decide +kernel
theorem d_By_shapeOf_130 : decode b_By_shapeOf 130 = .ok (.iload_n 0, 1) := by decide +kernel
theorem d_By_shapeOf_131 : decode b_By_shapeOf 131 = .ok (.invokestatic 207, 3) := by decide +kernel
theorem d_By_shapeOf_134 : decode b_By_shapeOf 134 = .ok (.areturn, 1) := by decide +kernel
abbrev b_By_messageShape : ByteArray := prog_4_method_54_code
def y_By_messageShape : MethodName := ⟨R_By, "messageShape", "(I)Ljava/lang/String;"⟩
abbrev k_By_messageShape : Cond := .code y_By_messageShape b_By_messageShape 1 (some (.object "java/lang/String"))
theorem ki_By_messageShape : k_By_messageShape ∈ lw_tg := in_t 906 (by decide +kernel)
theorem ks_By_messageShape : Cond.static y_By_messageShape ∈ lw_tg := in_t 905 (by decide +kernel)
theorem kl_By_By_messageShape : Cond.methodLink R_By 207 y_By_messageShape ∈ lw_tg := in_t 904 (by decide +kernel)
theorem hd_By_messageShape : y_By_messageShape.cls = R_By ∧ y_By_messageShape.cls ≠ "java/lang/invoke/MethodHandle" ∧ y_By_messageShape.cls ≠ "java/lang/invoke/VarHandle" ∧ (parseMethodDescriptor y_By_messageShape.desc).map (fun d => d.parameters.length) = some 1 := by decide +kernel
theorem d_By_messageShape_0 : decode b_By_messageShape 0 = .ok (.iload_n 0, 1) := by decide +kernel
theorem d_By_messageShape_1 : decode b_By_messageShape 1 = .ok (.tableswitch 170 354 382 #[152, 155, 170, 170, 170, 170, 170, 170, 131, 134, 131, 134, 137, 140, 170, 170, 170, 170, 143, 146, 149, 170, 170, 158, 158, 161, 170, 164, 167], 131) := by decide +kernel
theorem d_By_messageShape_132 : decode b_By_messageShape 132 = .ok (.ldc 210, 2) := by decide +kernel
theorem d_By_messageShape_134 : decode b_By_messageShape 134 = .ok (.areturn, 1) := by decide +kernel
theorem d_By_messageShape_135 : decode b_By_messageShape 135 = .ok (.ldc 212, 2) := by decide +kernel
theorem d_By_messageShape_137 : decode b_By_messageShape 137 = .ok (.areturn, 1) := by decide +kernel
theorem d_By_messageShape_138 : decode b_By_messageShape 138 = .ok (.ldc 214, 2) := by decide +kernel
theorem d_By_messageShape_140 : decode b_By_messageShape 140 = .ok (.areturn, 1) := by decide +kernel
theorem d_By_messageShape_141 : decode b_By_messageShape 141 = .ok (.ldc 216, 2) := by decide +kernel
theorem d_By_messageShape_143 : decode b_By_messageShape 143 = .ok (.areturn, 1) := by decide +kernel
theorem d_By_messageShape_144 : decode b_By_messageShape 144 = .ok (.ldc 218, 2) := by decide +kernel
theorem d_By_messageShape_146 : decode b_By_messageShape 146 = .ok (.areturn, 1) := by decide +kernel
theorem d_By_messageShape_147 : decode b_By_messageShape 147 = .ok (.ldc 220, 2) := by decide +kernel
theorem d_By_messageShape_149 : decode b_By_messageShape 149 = .ok (.areturn, 1) := by decide +kernel
theorem d_By_messageShape_150 : decode b_By_messageShape 150 = .ok (.ldc 222, 2) := by decide +kernel
theorem d_By_messageShape_152 : decode b_By_messageShape 152 = .ok (.areturn, 1) := by decide +kernel
theorem d_By_messageShape_153 : decode b_By_messageShape 153 = .ok (.ldc 224, 2) := by decide +kernel
theorem d_By_messageShape_155 : decode b_By_messageShape 155 = .ok (.areturn, 1) := by decide +kernel
theorem d_By_messageShape_156 : decode b_By_messageShape 156 = .ok (.ldc 226, 2) := by decide +kernel
theorem d_By_messageShape_158 : decode b_By_messageShape 158 = .ok (.areturn, 1) := by decide +kernel
theorem d_By_messageShape_159 : decode b_By_messageShape 159 = .ok (.ldc 228, 2) := by decide +kernel
theorem d_By_messageShape_161 : decode b_By_messageShape 161 = .ok (.areturn, 1) := by decide +kernel
theorem d_By_messageShape_162 : decode b_By_messageShape 162 = .ok (.ldc 230, 2) := by decide +kernel
theorem d_By_messageShape_164 : decode b_By_messageShape 164 = .ok (.areturn, 1) := by decide +kernel
theorem d_By_messageShape_165 : decode b_By_messageShape 165 = .ok (.ldc 232, 2) := by decide +kernel
theorem d_By_messageShape_167 : decode b_By_messageShape 167 = .ok (.areturn, 1) := by decide +kernel
theorem d_By_messageShape_168 : decode b_By_messageShape 168 = .ok (.ldc 234, 2) := by decide +kernel
theorem d_By_messageShape_170 : decode b_By_messageShape 170 = .ok (.areturn, 1) := by decide +kernel
theorem d_By_messageShape_171 : decode b_By_messageShape 171 = .ok (.ldc 236, 2) := by decide +kernel
theorem d_By_messageShape_173 : decode b_By_messageShape 173 = .ok (.areturn, 1) := by decide +kernel
