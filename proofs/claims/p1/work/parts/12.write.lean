abbrev b_start : ByteArray := prog_14_method_60_code
def y_start : MethodName := ⟨R_M, "start", "()V"⟩
abbrev k_start : Cond := .code y_start b_start 1 none
theorem ki_start : k_start ∈ lw_tg := in_t 2561 (by decide +kernel)
theorem ks_start : Cond.instanceMethod y_start ∈ lw_tg := in_t 2560 (by decide +kernel)
theorem kl_start : Cond.methodLink R_M 861 y_start ∈ lw_tg := in_t 2558 (by decide +kernel)
theorem d_start_0 : decode b_start 0 = .ok (.aload_n 0, 1) := by decide +kernel
theorem d_start_1 : decode b_start 1 = .ok (.ldc 9, 2) := by decide +kernel
theorem d_start_3 : decode b_start 3 = .ok (.putfield 553, 3) := by decide +kernel
theorem d_start_6 : decode b_start 6 = .ok (.return_, 1) := by decide +kernel
abbrev b_one : ByteArray := prog_14_method_61_code
def y_one : MethodName := ⟨R_M, "one", "(I)V"⟩
abbrev k_one : Cond := .code y_one b_one 2 none
theorem ki_one : k_one ∈ lw_tg := in_t 2577 (by decide +kernel)
theorem ks_one : Cond.instanceMethod y_one ∈ lw_tg := in_t 2576 (by decide +kernel)
theorem kl_one : Cond.methodLink R_M 556 y_one ∈ lw_tg := in_t 2574 (by decide +kernel)
theorem d_one_0 : decode b_one 0 = .ok (.aload_n 0, 1) := by decide +kernel
theorem d_one_1 : decode b_one 1 = .ok (.dup, 1) := by decide +kernel
theorem d_one_2 : decode b_one 2 = .ok (.getfield 553, 3) := by decide +kernel
theorem d_one_5 : decode b_one 5 = .ok (.iconst 1, 1) := by decide +kernel
theorem d_one_6 : decode b_one 6 = .ok (.isub, 1) := by decide +kernel
theorem d_one_7 : decode b_one 7 = .ok (.putfield 553, 3) := by decide +kernel
theorem d_one_10 : decode b_one 10 = .ok (.aload_n 0, 1) := by decide +kernel
theorem d_one_11 : decode b_one 11 = .ok (.getfield 10, 3) := by decide +kernel
theorem d_one_14 : decode b_one 14 = .ok (.aload_n 0, 1) := by decide +kernel
theorem d_one_15 : decode b_one 15 = .ok (.getfield 553, 3) := by decide +kernel
theorem d_one_18 : decode b_one 18 = .ok (.iload_n 1, 1) := by decide +kernel
theorem d_one_19 : decode b_one 19 = .ok (.i2b, 1) := by decide +kernel
theorem d_one_20 : decode b_one 20 = .ok (.bastore, 1) := by decide +kernel
theorem d_one_21 : decode b_one 21 = .ok (.return_, 1) := by decide +kernel
abbrev b_head : ByteArray := prog_14_method_62_code
def y_head : MethodName := ⟨R_M, "head", "(II)V"⟩
abbrev k_head : Cond := .code y_head b_head 6 none
theorem ki_head : k_head ∈ lw_tg := in_t 2585 (by decide +kernel)
theorem ks_head : Cond.instanceMethod y_head ∈ lw_tg := in_t 2584 (by decide +kernel)
theorem kl_head : Cond.methodLink R_M 559 y_head ∈ lw_tg := in_t 2582 (by decide +kernel)
theorem d_head_0 : decode b_head 0 = .ok (.iload_n 2, 1) := by decide +kernel
theorem d_head_1 : decode b_head 1 = .ok (.aload_n 0, 1) := by decide +kernel
theorem d_head_2 : decode b_head 2 = .ok (.getfield 553, 3) := by decide +kernel
theorem d_head_5 : decode b_head 5 = .ok (.isub, 1) := by decide +kernel
theorem d_head_6 : decode b_head 6 = .ok (.istore_n 3, 1) := by decide +kernel
theorem d_head_7 : decode b_head 7 = .ok (.iload_n 3, 1) := by decide +kernel
theorem d_head_8 : decode b_head 8 = .ok (.bipush 127, 2) := by decide +kernel
theorem d_head_10 : decode b_head 10 = .ok (.if_icmp .le 46, 3) := by decide +kernel
theorem d_head_13 : decode b_head 13 = .ok (.iconst 0, 1) := by decide +kernel
theorem d_head_14 : decode b_head 14 = .ok (.istore 4, 2) := by decide +kernel
theorem d_head_16 : decode b_head 16 = .ok (.iload_n 3, 1) := by decide +kernel
theorem d_head_17 : decode b_head 17 = .ok (.istore 5, 2) := by decide +kernel
theorem d_head_19 : decode b_head 19 = .ok (.iload 5, 2) := by decide +kernel
theorem d_head_21 : decode b_head 21 = .ok (.ifCond .le 22, 3) := by decide +kernel
theorem d_head_24 : decode b_head 24 = .ok (.aload_n 0, 1) := by decide +kernel
theorem d_head_25 : decode b_head 25 = .ok (.iload 5, 2) := by decide +kernel
theorem d_head_27 : decode b_head 27 = .ok (.invokevirtual 556, 3) := by decide +kernel
theorem d_head_30 : decode b_head 30 = .ok (.iinc 4 1, 3) := by decide +kernel
theorem d_head_33 : decode b_head 33 = .ok (.iload 5, 2) := by decide +kernel
theorem d_head_35 : decode b_head 35 = .ok (.bipush 8, 2) := by decide +kernel
theorem d_head_37 : decode b_head 37 = .ok (.ishr, 1) := by decide +kernel
theorem d_head_38 : decode b_head 38 = .ok (.istore 5, 2) := by decide +kernel
theorem d_head_40 : decode b_head 40 = .ok (.goto (-21), 3) := by decide +kernel
theorem d_head_43 : decode b_head 43 = .ok (.aload_n 0, 1) := by decide +kernel
theorem d_head_44 : decode b_head 44 = .ok (.sipush 128, 3) := by decide +kernel
theorem d_head_47 : decode b_head 47 = .ok (.iload 4, 2) := by decide +kernel
theorem d_head_49 : decode b_head 49 = .ok (.iadd, 1) := by decide +kernel
theorem d_head_50 : decode b_head 50 = .ok (.invokevirtual 556, 3) := by decide +kernel
theorem d_head_53 : decode b_head 53 = .ok (.goto 8, 3) := by decide +kernel
theorem d_head_56 : decode b_head 56 = .ok (.aload_n 0, 1) := by decide +kernel
theorem d_head_57 : decode b_head 57 = .ok (.iload_n 3, 1) := by decide +kernel
theorem d_head_58 : decode b_head 58 = .ok (.invokevirtual 556, 3) := by decide +kernel
theorem d_head_61 : decode b_head 61 = .ok (.aload_n 0, 1) := by decide +kernel
theorem d_head_62 : decode b_head 62 = .ok (.iload_n 1, 1) := by decide +kernel
theorem d_head_63 : decode b_head 63 = .ok (.invokevirtual 556, 3) := by decide +kernel
theorem d_head_66 : decode b_head 66 = .ok (.return_, 1) := by decide +kernel
abbrev b_field : ByteArray := prog_14_method_63_code
def y_field : MethodName := ⟨R_M, "field", "(II)V"⟩
abbrev k_field : Cond := .code y_field b_field 3 none
theorem ki_field : k_field ∈ lw_tg := in_t 2581 (by decide +kernel)
theorem ks_field : Cond.instanceMethod y_field ∈ lw_tg := in_t 2580 (by decide +kernel)
theorem kl_field : Cond.methodLink R_M 567 y_field ∈ lw_tg := in_t 2578 (by decide +kernel)
theorem d_field_0 : decode b_field 0 = .ok (.aload_n 0, 1) := by decide +kernel
theorem d_field_1 : decode b_field 1 = .ok (.sipush 160, 3) := by decide +kernel
theorem d_field_4 : decode b_field 4 = .ok (.iload_n 1, 1) := by decide +kernel
theorem d_field_5 : decode b_field 5 = .ok (.iadd, 1) := by decide +kernel
theorem d_field_6 : decode b_field 6 = .ok (.iload_n 2, 1) := by decide +kernel
theorem d_field_7 : decode b_field 7 = .ok (.invokevirtual 559, 3) := by decide +kernel
theorem d_field_10 : decode b_field 10 = .ok (.return_, 1) := by decide +kernel
abbrev b_putBytes : ByteArray := prog_14_method_68_code
def y_putBytes : MethodName := ⟨R_M, "putBytes", "([BII)V"⟩
abbrev k_putBytes : Cond := .code y_putBytes b_putBytes 5 none
theorem ki_putBytes : k_putBytes ∈ lw_tg := in_t 2573 (by decide +kernel)
theorem ks_putBytes : Cond.instanceMethod y_putBytes ∈ lw_tg := in_t 2572 (by decide +kernel)
theorem kl_putBytes : Cond.methodLink R_M 574 y_putBytes ∈ lw_tg := in_t 2570 (by decide +kernel)
theorem d_putBytes_0 : decode b_putBytes 0 = .ok (.iload_n 3, 1) := by decide +kernel
theorem d_putBytes_1 : decode b_putBytes 1 = .ok (.iconst 1, 1) := by decide +kernel
theorem d_putBytes_2 : decode b_putBytes 2 = .ok (.isub, 1) := by decide +kernel
theorem d_putBytes_3 : decode b_putBytes 3 = .ok (.istore 4, 2) := by decide +kernel
theorem d_putBytes_5 : decode b_putBytes 5 = .ok (.iload 4, 2) := by decide +kernel
theorem d_putBytes_7 : decode b_putBytes 7 = .ok (.ifCond .lt 19, 3) := by decide +kernel
theorem d_putBytes_10 : decode b_putBytes 10 = .ok (.aload_n 0, 1) := by decide +kernel
theorem d_putBytes_11 : decode b_putBytes 11 = .ok (.aload_n 1, 1) := by decide +kernel
theorem d_putBytes_12 : decode b_putBytes 12 = .ok (.iload_n 2, 1) := by decide +kernel
theorem d_putBytes_13 : decode b_putBytes 13 = .ok (.iload 4, 2) := by decide +kernel
theorem d_putBytes_15 : decode b_putBytes 15 = .ok (.iadd, 1) := by decide +kernel
theorem d_putBytes_16 : decode b_putBytes 16 = .ok (.baload, 1) := by decide +kernel
theorem d_putBytes_17 : decode b_putBytes 17 = .ok (.invokevirtual 556, 3) := by decide +kernel
theorem d_putBytes_20 : decode b_putBytes 20 = .ok (.iinc 4 (-1), 3) := by decide +kernel
theorem d_putBytes_23 : decode b_putBytes 23 = .ok (.goto (-18), 3) := by decide +kernel
theorem d_putBytes_26 : decode b_putBytes 26 = .ok (.return_, 1) := by decide +kernel
abbrev b_putTwo : ByteArray := prog_14_method_73_code
def y_putTwo : MethodName := ⟨R_M, "putTwo", "(I)V"⟩
abbrev k_putTwo : Cond := .code y_putTwo b_putTwo 2 none
theorem ki_putTwo : k_putTwo ∈ lw_tg := in_t 2597 (by decide +kernel)
theorem ks_putTwo : Cond.instanceMethod y_putTwo ∈ lw_tg := in_t 2596 (by decide +kernel)
theorem kl_putTwo : Cond.methodLink R_M 581 y_putTwo ∈ lw_tg := in_t 2594 (by decide +kernel)
theorem d_putTwo_0 : decode b_putTwo 0 = .ok (.aload_n 0, 1) := by decide +kernel
theorem d_putTwo_1 : decode b_putTwo 1 = .ok (.bipush 48, 2) := by decide +kernel
theorem d_putTwo_3 : decode b_putTwo 3 = .ok (.iload_n 1, 1) := by decide +kernel
theorem d_putTwo_4 : decode b_putTwo 4 = .ok (.bipush 10, 2) := by decide +kernel
theorem d_putTwo_6 : decode b_putTwo 6 = .ok (.irem, 1) := by decide +kernel
theorem d_putTwo_7 : decode b_putTwo 7 = .ok (.iadd, 1) := by decide +kernel
theorem d_putTwo_8 : decode b_putTwo 8 = .ok (.invokevirtual 556, 3) := by decide +kernel
theorem d_putTwo_11 : decode b_putTwo 11 = .ok (.aload_n 0, 1) := by decide +kernel
theorem d_putTwo_12 : decode b_putTwo 12 = .ok (.bipush 48, 2) := by decide +kernel
theorem d_putTwo_14 : decode b_putTwo 14 = .ok (.iload_n 1, 1) := by decide +kernel
theorem d_putTwo_15 : decode b_putTwo 15 = .ok (.bipush 10, 2) := by decide +kernel
theorem d_putTwo_17 : decode b_putTwo 17 = .ok (.idiv, 1) := by decide +kernel
theorem d_putTwo_18 : decode b_putTwo 18 = .ok (.iadd, 1) := by decide +kernel
theorem d_putTwo_19 : decode b_putTwo 19 = .ok (.invokevirtual 556, 3) := by decide +kernel
theorem d_putTwo_22 : decode b_putTwo 22 = .ok (.return_, 1) := by decide +kernel
abbrev b_toOut : ByteArray := prog_14_method_80_code
def y_toOut : MethodName := ⟨R_M, "toOut", "(II)V"⟩
abbrev k_toOut : Cond := .code y_toOut b_toOut 4 none
theorem ki_toOut : k_toOut ∈ lw_tg := in_t 2660 (by decide +kernel)
theorem ks_toOut : Cond.instanceMethod y_toOut ∈ lw_tg := in_t 2659 (by decide +kernel)
theorem kl_toOut : Cond.methodLink R_M 598 y_toOut ∈ lw_tg := in_t 2657 (by decide +kernel)
theorem d_toOut_0 : decode b_toOut 0 = .ok (.aload_n 0, 1) := by decide +kernel
theorem d_toOut_1 : decode b_toOut 1 = .ok (.iload_n 2, 1) := by decide +kernel
theorem d_toOut_2 : decode b_toOut 2 = .ok (.iload_n 1, 1) := by decide +kernel
theorem d_toOut_3 : decode b_toOut 3 = .ok (.isub, 1) := by decide +kernel
theorem d_toOut_4 : decode b_toOut 4 = .ok (.putfield 348, 3) := by decide +kernel
theorem d_toOut_7 : decode b_toOut 7 = .ok (.iconst 0, 1) := by decide +kernel
theorem d_toOut_8 : decode b_toOut 8 = .ok (.istore_n 3, 1) := by decide +kernel
theorem d_toOut_9 : decode b_toOut 9 = .ok (.iload_n 3, 1) := by decide +kernel
theorem d_toOut_10 : decode b_toOut 10 = .ok (.aload_n 0, 1) := by decide +kernel
theorem d_toOut_11 : decode b_toOut 11 = .ok (.getfield 348, 3) := by decide +kernel
theorem d_toOut_14 : decode b_toOut 14 = .ok (.if_icmp .ge 23, 3) := by decide +kernel
theorem d_toOut_17 : decode b_toOut 17 = .ok (.aload_n 0, 1) := by decide +kernel
theorem d_toOut_18 : decode b_toOut 18 = .ok (.getfield 14, 3) := by decide +kernel
theorem d_toOut_21 : decode b_toOut 21 = .ok (.iload_n 3, 1) := by decide +kernel
theorem d_toOut_22 : decode b_toOut 22 = .ok (.aload_n 0, 1) := by decide +kernel
theorem d_toOut_23 : decode b_toOut 23 = .ok (.getfield 10, 3) := by decide +kernel
theorem d_toOut_26 : decode b_toOut 26 = .ok (.iload_n 1, 1) := by decide +kernel
theorem d_toOut_27 : decode b_toOut 27 = .ok (.iload_n 3, 1) := by decide +kernel
theorem d_toOut_28 : decode b_toOut 28 = .ok (.iadd, 1) := by decide +kernel
theorem d_toOut_29 : decode b_toOut 29 = .ok (.baload, 1) := by decide +kernel
theorem d_toOut_30 : decode b_toOut 30 = .ok (.bastore, 1) := by decide +kernel
theorem d_toOut_31 : decode b_toOut 31 = .ok (.iinc 3 1, 3) := by decide +kernel
theorem d_toOut_34 : decode b_toOut 34 = .ok (.goto (-25), 3) := by decide +kernel
theorem d_toOut_37 : decode b_toOut 37 = .ok (.return_, 1) := by decide +kernel
abbrev b_written : ByteArray := prog_14_method_81_code
def y_written : MethodName := ⟨R_M, "written", "()V"⟩
abbrev k_written : Cond := .code y_written b_written 1 none
theorem ki_written : k_written ∈ lw_tg := in_t 2656 (by decide +kernel)
theorem ks_written : Cond.instanceMethod y_written ∈ lw_tg := in_t 2655 (by decide +kernel)
theorem kl_written : Cond.methodLink R_M 905 y_written ∈ lw_tg := in_t 2653 (by decide +kernel)
theorem d_written_0 : decode b_written 0 = .ok (.aload_n 0, 1) := by decide +kernel
theorem d_written_1 : decode b_written 1 = .ok (.aload_n 0, 1) := by decide +kernel
theorem d_written_2 : decode b_written 2 = .ok (.getfield 553, 3) := by decide +kernel
theorem d_written_5 : decode b_written 5 = .ok (.ldc 9, 2) := by decide +kernel
theorem d_written_7 : decode b_written 7 = .ok (.invokevirtual 598, 3) := by decide +kernel
theorem d_written_10 : decode b_written 10 = .ok (.return_, 1) := by decide +kernel
theorem cn_9 : Cond.constant R_M 9 (60000) ∈ lw_tg := in_t 1751 (by decide +kernel)
theorem kx_start : Cond.selects R_M y_start y_start ∈ lw_tg := List.mem_filter.mpr ⟨List.mem_append_left _ (List.mem_of_getElem? (i := 133) (by decide +kernel)), rfl⟩
theorem hd_start : y_start.cls = R_M ∧ y_start.cls ≠ "java/lang/invoke/MethodHandle" ∧ y_start.cls ≠ "java/lang/invoke/VarHandle" ∧ (parseMethodDescriptor y_start.desc).map (fun d => d.parameters.length) = some 0 := by decide +kernel
theorem kx_one : Cond.selects R_M y_one y_one ∈ lw_tg := List.mem_filter.mpr ⟨List.mem_append_left _ (List.mem_of_getElem? (i := 137) (by decide +kernel)), rfl⟩
theorem hd_one : y_one.cls = R_M ∧ y_one.cls ≠ "java/lang/invoke/MethodHandle" ∧ y_one.cls ≠ "java/lang/invoke/VarHandle" ∧ (parseMethodDescriptor y_one.desc).map (fun d => d.parameters.length) = some 1 := by decide +kernel
theorem kx_head : Cond.selects R_M y_head y_head ∈ lw_tg := List.mem_filter.mpr ⟨List.mem_append_left _ (List.mem_of_getElem? (i := 139) (by decide +kernel)), rfl⟩
theorem hd_head : y_head.cls = R_M ∧ y_head.cls ≠ "java/lang/invoke/MethodHandle" ∧ y_head.cls ≠ "java/lang/invoke/VarHandle" ∧ (parseMethodDescriptor y_head.desc).map (fun d => d.parameters.length) = some 2 := by decide +kernel
theorem kx_field : Cond.selects R_M y_field y_field ∈ lw_tg := List.mem_filter.mpr ⟨List.mem_append_left _ (List.mem_of_getElem? (i := 138) (by decide +kernel)), rfl⟩
theorem hd_field : y_field.cls = R_M ∧ y_field.cls ≠ "java/lang/invoke/MethodHandle" ∧ y_field.cls ≠ "java/lang/invoke/VarHandle" ∧ (parseMethodDescriptor y_field.desc).map (fun d => d.parameters.length) = some 2 := by decide +kernel
theorem kx_putBytes : Cond.selects R_M y_putBytes y_putBytes ∈ lw_tg := List.mem_filter.mpr ⟨List.mem_append_left _ (List.mem_of_getElem? (i := 136) (by decide +kernel)), rfl⟩
theorem hd_putBytes : y_putBytes.cls = R_M ∧ y_putBytes.cls ≠ "java/lang/invoke/MethodHandle" ∧ y_putBytes.cls ≠ "java/lang/invoke/VarHandle" ∧ (parseMethodDescriptor y_putBytes.desc).map (fun d => d.parameters.length) = some 3 := by decide +kernel
theorem kx_putTwo : Cond.selects R_M y_putTwo y_putTwo ∈ lw_tg := List.mem_filter.mpr ⟨List.mem_append_left _ (List.mem_of_getElem? (i := 142) (by decide +kernel)), rfl⟩
theorem hd_putTwo : y_putTwo.cls = R_M ∧ y_putTwo.cls ≠ "java/lang/invoke/MethodHandle" ∧ y_putTwo.cls ≠ "java/lang/invoke/VarHandle" ∧ (parseMethodDescriptor y_putTwo.desc).map (fun d => d.parameters.length) = some 1 := by decide +kernel
theorem kx_toOut : Cond.selects R_M y_toOut y_toOut ∈ lw_tg := List.mem_filter.mpr ⟨List.mem_append_left _ (List.mem_of_getElem? (i := 157) (by decide +kernel)), rfl⟩
theorem hd_toOut : y_toOut.cls = R_M ∧ y_toOut.cls ≠ "java/lang/invoke/MethodHandle" ∧ y_toOut.cls ≠ "java/lang/invoke/VarHandle" ∧ (parseMethodDescriptor y_toOut.desc).map (fun d => d.parameters.length) = some 2 := by decide +kernel
theorem kx_written : Cond.selects R_M y_written y_written ∈ lw_tg := List.mem_filter.mpr ⟨List.mem_append_left _ (List.mem_of_getElem? (i := 156) (by decide +kernel)), rfl⟩
theorem hd_written : y_written.cls = R_M ∧ y_written.cls ≠ "java/lang/invoke/MethodHandle" ∧ y_written.cls ≠ "java/lang/invoke/VarHandle" ∧ (parseMethodDescriptor y_written.desc).map (fun d => d.parameters.length) = some 0 := by decide +kernel
set_option maxHeartbeats 4000000 in
set_option maxRecDepth 100000 in
theorem c_start (l : Launch) (D : mD) (E : mE) (h : Nat) (q : Nat → Nat) (sz : Nat) (I : Nat → Int32) (J : Nat → Int64) (B : Nat → Nat → Int32) (G : Nat → Nat → Int64)  : Met l y_start (k_start :: lw_tg) (mR 0 0) (va_Pc [.ref h] (mPre D E h q (I, J, B, G) sz)) (va_Qv (fun (u : mS) => (∀ j, j ≠ 42 → u.1 j = I j) ∧ u.2.1 = J ∧ (∀ j, u.2.2.1 j = B j) ∧ u.2.2.2 = G ∧ u.1 42 = nI (60000)) (mPost D E h q (mA E h q sz)) (mA E h q sz)) 0 0 (mA E h q sz) := by
  refine m_enter (by decide) rfl (Nat.le_of_ble_eq_true rfl) (fun p e s m below meth c ls AV QQ H locs hQQ X Y hZ hA hr hlk hml hl => ?_)
  have Y : mH D E (mA E h q sz) s.heap h q I J B G H locs := Y
  have hl : lv_has ls 1 [(0, .ref h)] := hl
  refine lv_aload_n X.1 X.2.1 d_start_0 rfl (lv_at hl 0 rfl) ?_
  refine lv_ldc (v := (60000)) X.1 X.2.1 X.2.2.2.1 (X.2.2.1 _ cn_9) d_start_1 ?_
  refine t_eq (y := nI 60000) (by decide) ?_
  refine m_puti X Y 42 (by decide) lk_w0 rfl rfl (t_M_ok 42 (by decide)) rfl rfl (sf_w0 _ _ _ _) (Nat.le_of_ble_eq_true rfl) d_start_3 (fun H locs Y => ?_)
  exact m_retv hQQ X Y hr hlk ⟨(fun j h42 => ((if_neg h42).trans rfl)), rfl, (fun j  => rfl), rfl, (show (upd I 42 (nI 60000)) 42 = nI (60000) from (show (upd I 42 (nI 60000)) 42 = nI (60000) from pk_us).trans (congrArg nI (show (60000 : Nat) = 60000 by omega)))⟩ d_start_6
set_option maxHeartbeats 4000000 in
set_option maxRecDepth 100000 in
theorem c_one (l : Launch) (D : mD) (E : mE) (h : Nat) (q : Nat → Nat) (sz : Nat) (I : Nat → Int32) (J : Nat → Int64) (B : Nat → Nat → Int32) (G : Nat → Nat → Int64) (a1 : Int32) (k : Nat) (hk : I 42 = nI (k + 1)) (hk2 : k < 60000) : Met l y_one (k_one :: lw_tg) (mR 0 0) (va_Pc [.ref h, .int a1] (mPre D E h q (I, J, B, G) sz)) (va_Qv (fun (u : mS) => (∀ j, j ≠ 42 → u.1 j = I j) ∧ u.2.1 = J ∧ (∀ j, j ≠ 0 → u.2.2.1 j = B j) ∧ u.2.2.2 = G ∧ u.1 42 = nI (k)) (mPost D E h q (mA E h q sz)) (mA E h q sz)) 0 0 (mA E h q sz) := by
  refine m_enter (by decide) rfl (Nat.le_of_ble_eq_true rfl) (fun p e s m below meth c ls AV QQ H locs hQQ X Y hZ hA hr hlk hml hl => ?_)
  have Y : mH D E (mA E h q sz) s.heap h q I J B G H locs := Y
  have hl : lv_has ls 2 [(0, .ref h), (1, .int a1)] := hl
  refine lv_aload_n X.1 X.2.1 d_one_0 rfl (lv_at hl 0 rfl) ?_
  refine lv_dup X.1 X.2.1 d_one_1 rfl ?_
  refine m_get X Y 42 (by decide) lk_w0 (gf_w0 _ _ _) rfl d_one_2 ?_
  refine t_eq (show I 42 = nI (k + 1) from hk) ?_
  refine lv_iconst (v := (nI 1)) X.1 X.2.1 d_one_5 (by decide) ?_
  refine lv_isub X.1 X.2.1 d_one_6 ?_
  refine t_eq (y := nI (k + 1 - (1))) (pk_sub (by omega)) ?_
  refine m_puti X Y 42 (by decide) lk_w0 rfl rfl (t_M_ok 42 (by decide)) rfl rfl (sf_w0 _ _ _ _) (Nat.le_of_ble_eq_true rfl) d_one_7 (fun H locs Y => ?_)
  refine lv_aload_n X.1 X.2.1 d_one_10 rfl (lv_at hl 0 rfl) ?_
  refine m_get X Y 0 (by decide) lk_mem (gf_mem _ _ _) rfl d_one_11 ?_
  refine lv_aload_n X.1 X.2.1 d_one_14 rfl (lv_at hl 0 rfl) ?_
  refine m_get X Y 42 (by decide) lk_w0 (gf_w0 _ _ _) rfl d_one_15 ?_
  refine t_eq (show (upd I 42 (nI (k + 1 - (1)))) 42 = nI (k + 1 - (1)) from pk_us) ?_
  refine lv_iload_n X.1 X.2.1 d_one_18 rfl (lv_at hl 1 rfl) ?_
  obtain ⟨v1, ev1⟩ : ∃ z : Int32, (a1 : Int32).toInt8.toInt32 = z := ⟨_, rfl⟩
  refine lv_i2b (v := v1) X.1 X.2.1 d_one_19 ev1 ?_
  refine m_bast X Y (aw_mem _ _ _ _ _ _ _) (vp_in_nI (by omega) (by decide)) (sw_mem _ _ _ _ _ _ _ _) d_one_20 (fun H locs Y => ?_)
  generalize (upd (B 0) ((nI (k + 1 - (1)))).toNatClampNeg (vp_nar .byte v1)) = f2 at Y
  exact m_retv hQQ X Y hr hlk ⟨(fun j h42 => ((if_neg h42).trans rfl)), rfl, (fun j h0 => ((if_neg h0).trans rfl)), rfl, (show (upd I 42 (nI (k + 1 - (1)))) 42 = nI (k) from (show (upd I 42 (nI (k + 1 - (1)))) 42 = nI (k + 1 - (1)) from pk_us).trans (congrArg nI (show (k + 1 - (1) : Nat) = k by omega)))⟩ d_one_21
set_option maxHeartbeats 4000000 in
set_option maxRecDepth 100000 in
theorem c_head (l : Launch) (D : mD) (E : mE) (h : Nat) (q : Nat → Nat) (sz : Nat) (I : Nat → Int32) (J : Nat → Int64) (B : Nat → Nat → Int32) (G : Nat → Nat → Int64) (a1 : Int32) (S V : Nat) (hV : I 42 = nI V) (hVS : V ≤ S) (hS6 : S ≤ 60000) (hV5 : 5 ≤ V) : Met l y_head (k_head :: lw_tg) (mR 1 21) (va_Pc [.ref h, .int a1, .int (nI S)] (mPre D E h q (I, J, B, G) sz)) (va_Qv (fun (u : mS) => (∀ j, j ≠ 42 → u.1 j = I j) ∧ u.2.1 = J ∧ (∀ j, j ≠ 0 → u.2.2.1 j = B j) ∧ u.2.2.2 = G ∧ (∃ V2, V ≤ V2 + 5 ∧ V2 + 2 ≤ V ∧ u.1 42 = nI V2)) (mPost D E h q (mA E h q sz)) (mA E h q sz)) 0 0 (mA E h q sz) := by
  refine m_enter (by decide) rfl (Nat.le_of_ble_eq_true rfl) (fun p e s m below meth c ls AV QQ H locs hQQ X Y hZ hA hr hlk hml hl => ?_)
  have Y : mH D E (mA E h q sz) s.heap h q I J B G H locs := Y
  have hl : lv_has ls 6 [(0, .ref h), (1, .int a1), (2, .int (nI S))] := hl
  refine lv_iload_n X.1 X.2.1 d_head_0 rfl (lv_at hl 2 rfl) ?_
  refine lv_aload_n X.1 X.2.1 d_head_1 rfl (lv_at hl 0 rfl) ?_
  refine m_get X Y 42 (by decide) lk_w0 (gf_w0 _ _ _) rfl d_head_2 ?_
  refine t_eq (show I 42 = nI (V) from hV) ?_
  refine lv_isub X.1 X.2.1 d_head_5 ?_
  refine t_eq (y := nI (S - (V))) (pk_sub (by omega)) ?_
  refine lv_istore_n (lv' := [(3, .int (nI (S - (V)))), (0, .ref h), (1, .int a1), (2, .int (nI S))]) X.1 X.2.1 d_head_6 rfl hl (by decide) rfl (fun ls hl => ?_)
  refine lv_iload_n X.1 X.2.1 d_head_7 rfl (lv_at hl 0 rfl) ?_
  refine lv_bipush (v := (nI 127)) X.1 X.2.1 d_head_8 (by decide) ?_
  refine lv_icmp_le (tgt := 56) X.1 X.2.1 d_head_10 (by decide) (fun c1 => ?_) (fun c1 => ?_)
  · skip
    rw [nI_leI (by omega) (by omega)] at c1
    refine lv_aload_n X.1 X.2.1 d_head_56 rfl (lv_at hl 1 rfl) ?_
    refine lv_iload_n X.1 X.2.1 d_head_57 rfl (lv_at hl 0 rfl) ?_
    refine m_callv (As := [.int (nI (S - (V)))]) (rest := []) (n := 1) X Y hZ hA hml hl.1 (c_one l D E h q H.size I J B G (nI (S - (V))) (V - 1) ((show I 42 = nI (V) from hV).trans (congrArg nI (show (V : Nat) = V - 1 + 1 by omega))) (by omega)) kl_one ks_one kx_one ki_one ini_M hd_one ⟨by decide, by decide⟩ rfl (Nat.le_of_ble_eq_true rfl) d_head_58 ⟨Nat.le_refl _, Nat.le_refl _⟩ (fun u H locs hp Y => ?_)
    obtain ⟨I2, J3, B4, G5⟩ := u
    obtain ⟨hI6, eJ8, hB7, eG9, hk11⟩ := hp
    dsimp only at hI6 eJ8 hB7 eG9 hk11 Y
    rw [eJ8, eG9] at Y
    have hI12 : (∀ j, j ≠ 42 → I2 j = I j) := fun j h42 => (hI6 j h42).trans ((fun j h42 => rfl) j h42)
    have hB13 : (∀ j, j ≠ 0 → B4 j = B j) := fun j h0 => (hB7 j h0).trans ((fun j h0 => rfl) j h0)
    refine lv_aload_n X.1 X.2.1 d_head_61 rfl (lv_at hl 1 rfl) ?_
    refine lv_iload_n X.1 X.2.1 d_head_62 rfl (lv_at hl 2 rfl) ?_
    refine m_callv (As := [.int a1]) (rest := []) (n := 1) X Y hZ hA hml hl.1 (c_one l D E h q H.size I2 J B4 G a1 ((V - 1) - 1) ((show I2 42 = nI ((V - 1)) from hk11).trans (congrArg nI (show ((V - 1) : Nat) = (V - 1) - 1 + 1 by omega))) (by omega)) kl_one ks_one kx_one ki_one ini_M hd_one ⟨by decide, by decide⟩ rfl (Nat.le_of_ble_eq_true rfl) d_head_63 ⟨Nat.le_refl _, Nat.le_refl _⟩ (fun u H locs hp Y => ?_)
    obtain ⟨I14, J15, B16, G17⟩ := u
    obtain ⟨hI18, eJ20, hB19, eG21, hk23⟩ := hp
    dsimp only at hI18 eJ20 hB19 eG21 hk23 Y
    rw [eJ20, eG21] at Y
    have hI24 : (∀ j, j ≠ 42 → I14 j = I j) := fun j h42 => (hI18 j h42).trans ((fun j h42 => (hI12 j h42)) j h42)
    have hB25 : (∀ j, j ≠ 0 → B16 j = B j) := fun j h0 => (hB19 j h0).trans ((fun j h0 => (hB13 j h0)) j h0)
    exact m_retv hQQ X Y hr hlk ⟨(fun j h42 => (hI24 j h42)), rfl, (fun j h0 => (hB25 j h0)), rfl, ⟨((V - 1) - 1), by omega, by omega, (show I14 42 = nI (((V - 1) - 1)) from hk23)⟩⟩ d_head_66
  · skip
    rw [nI_leI (by omega) (by omega)] at c1
    refine lv_iconst (v := (nI 0)) X.1 X.2.1 d_head_13 (by decide) ?_
    refine lv_istore (lv' := [(4, .int (nI 0)), (3, .int (nI (S - (V)))), (0, .ref h), (1, .int a1), (2, .int (nI S))]) X.1 X.2.1 d_head_14 hl (by decide) rfl (fun ls hl => ?_)
    refine lv_iload_n X.1 X.2.1 d_head_16 rfl (lv_at hl 1 rfl) ?_
    refine lv_istore (lv' := [(5, .int (nI (S - (V)))), (4, .int (nI 0)), (3, .int (nI (S - (V)))), (0, .ref h), (1, .int a1), (2, .int (nI S))]) X.1 X.2.1 d_head_17 hl (by decide) rfl (fun ls hl => ?_)
    refine lv_iload X.1 X.2.1 d_head_19 (lv_at hl 0 rfl) ?_
    refine lv_if_le (tgt := 43) X.1 X.2.1 d_head_21 (by decide) (fun c26 => absurd c26 ?_) (fun c26 => ?_)
    · (rw [← nI_0, nI_leI (by omega) (by omega)] <;> omega)
    rw [← nI_0] at c26
    rw [nI_leI (by omega) (by omega)] at c26
    refine lv_aload_n X.1 X.2.1 d_head_24 rfl (lv_at hl 3 rfl) ?_
    refine lv_iload X.1 X.2.1 d_head_25 (lv_at hl 0 rfl) ?_
    refine m_callv (As := [.int (nI (S - (V)))]) (rest := []) (n := 1) X Y hZ hA hml hl.1 (c_one l D E h q H.size I J B G (nI (S - (V))) (V - 1) ((show I 42 = nI (V) from hV).trans (congrArg nI (show (V : Nat) = V - 1 + 1 by omega))) (by omega)) kl_one ks_one kx_one ki_one ini_M hd_one ⟨by decide, by decide⟩ rfl (Nat.le_of_ble_eq_true rfl) d_head_27 ⟨Nat.le_refl _, Nat.le_refl _⟩ (fun u H locs hp Y => ?_)
    obtain ⟨I27, J28, B29, G30⟩ := u
    obtain ⟨hI31, eJ33, hB32, eG34, hk36⟩ := hp
    dsimp only at hI31 eJ33 hB32 eG34 hk36 Y
    rw [eJ33, eG34] at Y
    have hI37 : (∀ j, j ≠ 42 → I27 j = I j) := fun j h42 => (hI31 j h42).trans ((fun j h42 => rfl) j h42)
    have hB38 : (∀ j, j ≠ 0 → B29 j = B j) := fun j h0 => (hB32 j h0).trans ((fun j h0 => rfl) j h0)
    refine lv_iinc (v := (nI (0 + 1))) (lv' := [(4, .int (nI (0 + 1))), (5, .int (nI (S - (V)))), (3, .int (nI (S - (V)))), (0, .ref h), (1, .int a1), (2, .int (nI S))]) X.1 X.2.1 d_head_30 hl (k := 1) rfl (nI_add _ 1) (by decide) rfl (fun ls hl => ?_)
    refine lv_iload X.1 X.2.1 d_head_33 (lv_at hl 1 rfl) ?_
    refine lv_bipush (v := (nI 8)) X.1 X.2.1 d_head_35 (by decide) ?_
    refine lv_ishr X.1 X.2.1 d_head_37 ?_
    refine t_eq (y := nI ((S - (V)) / 2 ^ 8)) (pk_shrN (by omega) _ 8 (by decide)) ?_
    refine lv_istore (lv' := [(5, .int (nI ((S - (V)) / 2 ^ 8))), (4, .int (nI (0 + 1))), (3, .int (nI (S - (V)))), (0, .ref h), (1, .int a1), (2, .int (nI S))]) X.1 X.2.1 d_head_38 hl (by decide) rfl (fun ls hl => ?_)
    refine lv_goto (tgt := 19) X.1 X.2.1 d_head_40 (by decide) ?_
    refine lv_iload X.1 X.2.1 d_head_19 (lv_at hl 0 rfl) ?_
    refine lv_if_le (tgt := 43) X.1 X.2.1 d_head_21 (by decide) (fun c39 => ?_) (fun c39 => ?_)
    · skip
      rw [← nI_0] at c39
      rw [nI_leI (by omega) (by omega)] at c39
      refine lv_aload_n X.1 X.2.1 d_head_43 rfl (lv_at hl 3 rfl) ?_
      refine lv_sipush (v := (nI 128)) X.1 X.2.1 d_head_44 (by decide) ?_
      refine lv_iload X.1 X.2.1 d_head_47 (lv_at hl 1 rfl) ?_
      refine lv_iadd X.1 X.2.1 d_head_49 ?_
      refine t_eq (y := nI 129) (by decide) ?_
      refine m_callv (As := [.int (nI 129)]) (rest := []) (n := 1) X Y hZ hA hml hl.1 (c_one l D E h q H.size I27 J B29 G (nI 129) ((V - 1) - 1) ((show I27 42 = nI ((V - 1)) from hk36).trans (congrArg nI (show ((V - 1) : Nat) = (V - 1) - 1 + 1 by omega))) (by omega)) kl_one ks_one kx_one ki_one ini_M hd_one ⟨by decide, by decide⟩ rfl (Nat.le_of_ble_eq_true rfl) d_head_50 ⟨Nat.le_refl _, Nat.le_refl _⟩ (fun u H locs hp Y => ?_)
      obtain ⟨I40, J41, B42, G43⟩ := u
      obtain ⟨hI44, eJ46, hB45, eG47, hk49⟩ := hp
      dsimp only at hI44 eJ46 hB45 eG47 hk49 Y
      rw [eJ46, eG47] at Y
      have hI50 : (∀ j, j ≠ 42 → I40 j = I j) := fun j h42 => (hI44 j h42).trans ((fun j h42 => (hI37 j h42)) j h42)
      have hB51 : (∀ j, j ≠ 0 → B42 j = B j) := fun j h0 => (hB45 j h0).trans ((fun j h0 => (hB38 j h0)) j h0)
      refine lv_goto (tgt := 61) X.1 X.2.1 d_head_53 (by decide) ?_
      refine lv_aload_n X.1 X.2.1 d_head_61 rfl (lv_at hl 3 rfl) ?_
      refine lv_iload_n X.1 X.2.1 d_head_62 rfl (lv_at hl 4 rfl) ?_
      refine m_callv (As := [.int a1]) (rest := []) (n := 1) X Y hZ hA hml hl.1 (c_one l D E h q H.size I40 J B42 G a1 (((V - 1) - 1) - 1) ((show I40 42 = nI (((V - 1) - 1)) from hk49).trans (congrArg nI (show (((V - 1) - 1) : Nat) = ((V - 1) - 1) - 1 + 1 by omega))) (by omega)) kl_one ks_one kx_one ki_one ini_M hd_one ⟨by decide, by decide⟩ rfl (Nat.le_of_ble_eq_true rfl) d_head_63 ⟨Nat.le_refl _, Nat.le_refl _⟩ (fun u H locs hp Y => ?_)
      obtain ⟨I52, J53, B54, G55⟩ := u
      obtain ⟨hI56, eJ58, hB57, eG59, hk61⟩ := hp
      dsimp only at hI56 eJ58 hB57 eG59 hk61 Y
      rw [eJ58, eG59] at Y
      have hI62 : (∀ j, j ≠ 42 → I52 j = I j) := fun j h42 => (hI56 j h42).trans ((fun j h42 => (hI50 j h42)) j h42)
      have hB63 : (∀ j, j ≠ 0 → B54 j = B j) := fun j h0 => (hB57 j h0).trans ((fun j h0 => (hB51 j h0)) j h0)
      exact m_retv hQQ X Y hr hlk ⟨(fun j h42 => (hI62 j h42)), rfl, (fun j h0 => (hB63 j h0)), rfl, ⟨(((V - 1) - 1) - 1), by omega, by omega, (show I52 42 = nI ((((V - 1) - 1) - 1)) from hk61)⟩⟩ d_head_66
    · skip
      rw [← nI_0] at c39
      rw [nI_leI (by omega) (by omega)] at c39
      refine lv_aload_n X.1 X.2.1 d_head_24 rfl (lv_at hl 3 rfl) ?_
      refine lv_iload X.1 X.2.1 d_head_25 (lv_at hl 0 rfl) ?_
      refine m_callv (As := [.int (nI ((S - (V)) / 2 ^ 8))]) (rest := []) (n := 1) X Y hZ hA hml hl.1 (c_one l D E h q H.size I27 J B29 G (nI ((S - (V)) / 2 ^ 8)) ((V - 1) - 1) ((show I27 42 = nI ((V - 1)) from hk36).trans (congrArg nI (show ((V - 1) : Nat) = (V - 1) - 1 + 1 by omega))) (by omega)) kl_one ks_one kx_one ki_one ini_M hd_one ⟨by decide, by decide⟩ rfl (Nat.le_of_ble_eq_true rfl) d_head_27 ⟨Nat.le_refl _, Nat.le_refl _⟩ (fun u H locs hp Y => ?_)
      obtain ⟨I64, J65, B66, G67⟩ := u
      obtain ⟨hI68, eJ70, hB69, eG71, hk73⟩ := hp
      dsimp only at hI68 eJ70 hB69 eG71 hk73 Y
      rw [eJ70, eG71] at Y
      have hI74 : (∀ j, j ≠ 42 → I64 j = I j) := fun j h42 => (hI68 j h42).trans ((fun j h42 => (hI37 j h42)) j h42)
      have hB75 : (∀ j, j ≠ 0 → B66 j = B j) := fun j h0 => (hB69 j h0).trans ((fun j h0 => (hB38 j h0)) j h0)
      refine lv_iinc (v := (nI (0 + 1 + 1))) (lv' := [(4, .int (nI (0 + 1 + 1))), (5, .int (nI ((S - (V)) / 2 ^ 8))), (3, .int (nI (S - (V)))), (0, .ref h), (1, .int a1), (2, .int (nI S))]) X.1 X.2.1 d_head_30 hl (k := 1) rfl (nI_add _ 1) (by decide) rfl (fun ls hl => ?_)
      refine lv_iload X.1 X.2.1 d_head_33 (lv_at hl 1 rfl) ?_
      refine lv_bipush (v := (nI 8)) X.1 X.2.1 d_head_35 (by decide) ?_
      refine lv_ishr X.1 X.2.1 d_head_37 ?_
      refine t_eq (y := nI (((S - (V)) / 2 ^ 8) / 2 ^ 8)) (pk_shrN (by omega) _ 8 (by decide)) ?_
      refine lv_istore (lv' := [(5, .int (nI (((S - (V)) / 2 ^ 8) / 2 ^ 8))), (4, .int (nI (0 + 1 + 1))), (3, .int (nI (S - (V)))), (0, .ref h), (1, .int a1), (2, .int (nI S))]) X.1 X.2.1 d_head_38 hl (by decide) rfl (fun ls hl => ?_)
      refine lv_goto (tgt := 19) X.1 X.2.1 d_head_40 (by decide) ?_
      refine lv_iload X.1 X.2.1 d_head_19 (lv_at hl 0 rfl) ?_
      refine lv_if_le (tgt := 43) X.1 X.2.1 d_head_21 (by decide) (fun c76 => ?_) (fun c76 => absurd ?_ c76)
      rotate_left
      · (rw [← nI_0, nI_leI (by omega) (by omega)] <;> omega)
      rw [← nI_0] at c76
      rw [nI_leI (by omega) (by omega)] at c76
      refine lv_aload_n X.1 X.2.1 d_head_43 rfl (lv_at hl 3 rfl) ?_
      refine lv_sipush (v := (nI 128)) X.1 X.2.1 d_head_44 (by decide) ?_
      refine lv_iload X.1 X.2.1 d_head_47 (lv_at hl 1 rfl) ?_
      refine lv_iadd X.1 X.2.1 d_head_49 ?_
      refine t_eq (y := nI 130) (by decide) ?_
      refine m_callv (As := [.int (nI 130)]) (rest := []) (n := 1) X Y hZ hA hml hl.1 (c_one l D E h q H.size I64 J B66 G (nI 130) (((V - 1) - 1) - 1) ((show I64 42 = nI (((V - 1) - 1)) from hk73).trans (congrArg nI (show (((V - 1) - 1) : Nat) = ((V - 1) - 1) - 1 + 1 by omega))) (by omega)) kl_one ks_one kx_one ki_one ini_M hd_one ⟨by decide, by decide⟩ rfl (Nat.le_of_ble_eq_true rfl) d_head_50 ⟨Nat.le_refl _, Nat.le_refl _⟩ (fun u H locs hp Y => ?_)
      obtain ⟨I77, J78, B79, G80⟩ := u
      obtain ⟨hI81, eJ83, hB82, eG84, hk86⟩ := hp
      dsimp only at hI81 eJ83 hB82 eG84 hk86 Y
      rw [eJ83, eG84] at Y
      have hI87 : (∀ j, j ≠ 42 → I77 j = I j) := fun j h42 => (hI81 j h42).trans ((fun j h42 => (hI74 j h42)) j h42)
      have hB88 : (∀ j, j ≠ 0 → B79 j = B j) := fun j h0 => (hB82 j h0).trans ((fun j h0 => (hB75 j h0)) j h0)
      refine lv_goto (tgt := 61) X.1 X.2.1 d_head_53 (by decide) ?_
      refine lv_aload_n X.1 X.2.1 d_head_61 rfl (lv_at hl 3 rfl) ?_
      refine lv_iload_n X.1 X.2.1 d_head_62 rfl (lv_at hl 4 rfl) ?_
      refine m_callv (As := [.int a1]) (rest := []) (n := 1) X Y hZ hA hml hl.1 (c_one l D E h q H.size I77 J B79 G a1 ((((V - 1) - 1) - 1) - 1) ((show I77 42 = nI ((((V - 1) - 1) - 1)) from hk86).trans (congrArg nI (show ((((V - 1) - 1) - 1) : Nat) = (((V - 1) - 1) - 1) - 1 + 1 by omega))) (by omega)) kl_one ks_one kx_one ki_one ini_M hd_one ⟨by decide, by decide⟩ rfl (Nat.le_of_ble_eq_true rfl) d_head_63 ⟨Nat.le_refl _, Nat.le_refl _⟩ (fun u H locs hp Y => ?_)
      obtain ⟨I89, J90, B91, G92⟩ := u
      obtain ⟨hI93, eJ95, hB94, eG96, hk98⟩ := hp
      dsimp only at hI93 eJ95 hB94 eG96 hk98 Y
      rw [eJ95, eG96] at Y
      have hI99 : (∀ j, j ≠ 42 → I89 j = I j) := fun j h42 => (hI93 j h42).trans ((fun j h42 => (hI87 j h42)) j h42)
      have hB100 : (∀ j, j ≠ 0 → B91 j = B j) := fun j h0 => (hB94 j h0).trans ((fun j h0 => (hB88 j h0)) j h0)
      exact m_retv hQQ X Y hr hlk ⟨(fun j h42 => (hI99 j h42)), rfl, (fun j h0 => (hB100 j h0)), rfl, ⟨((((V - 1) - 1) - 1) - 1), by omega, by omega, (show I89 42 = nI (((((V - 1) - 1) - 1) - 1)) from hk98)⟩⟩ d_head_66
set_option maxHeartbeats 4000000 in
set_option maxRecDepth 100000 in
theorem c_field (l : Launch) (D : mD) (E : mE) (h : Nat) (q : Nat → Nat) (sz : Nat) (I : Nat → Int32) (J : Nat → Int64) (B : Nat → Nat → Int32) (G : Nat → Nat → Int64) (a1 : Int32) (S V : Nat) (hV : I 42 = nI V) (hVS : V ≤ S) (hS6 : S ≤ 60000) (hV5 : 5 ≤ V) : Met l y_field (k_field :: lw_tg) (mR 2 46) (va_Pc [.ref h, .int a1, .int (nI S)] (mPre D E h q (I, J, B, G) sz)) (va_Qv (fun (u : mS) => (∀ j, j ≠ 42 → u.1 j = I j) ∧ u.2.1 = J ∧ (∀ j, j ≠ 0 → u.2.2.1 j = B j) ∧ u.2.2.2 = G ∧ (∃ V2, V ≤ V2 + 5 ∧ V2 + 2 ≤ V ∧ u.1 42 = nI V2)) (mPost D E h q (mA E h q sz)) (mA E h q sz)) 0 0 (mA E h q sz) := by
  refine m_enter (by decide) rfl (Nat.le_of_ble_eq_true rfl) (fun p e s m below meth c ls AV QQ H locs hQQ X Y hZ hA hr hlk hml hl => ?_)
  have Y : mH D E (mA E h q sz) s.heap h q I J B G H locs := Y
  have hl : lv_has ls 3 [(0, .ref h), (1, .int a1), (2, .int (nI S))] := hl
  refine lv_aload_n X.1 X.2.1 d_field_0 rfl (lv_at hl 0 rfl) ?_
  refine lv_sipush (v := (nI 160)) X.1 X.2.1 d_field_1 (by decide) ?_
  refine lv_iload_n X.1 X.2.1 d_field_4 rfl (lv_at hl 1 rfl) ?_
  refine lv_iadd X.1 X.2.1 d_field_5 ?_
  refine t_any (fun v1 => ?_)
  refine lv_iload_n X.1 X.2.1 d_field_6 rfl (lv_at hl 2 rfl) ?_
  refine m_callv (As := [.int v1, .int (nI S)]) (rest := []) (n := 2) X Y hZ hA hml hl.1 (c_head l D E h q H.size I J B G v1 (S) (V) (show I 42 = nI (V) from hV) (by omega) (by omega) (by omega)) kl_head ks_head kx_head ki_head ini_M hd_head ⟨by decide, by decide⟩ rfl (Nat.le_of_ble_eq_true rfl) d_field_7 ⟨Nat.le_refl _, Nat.le_refl _⟩ (fun u H locs hp Y => ?_)
  obtain ⟨I2, J3, B4, G5⟩ := u
  obtain ⟨hI6, eJ8, hB7, eG9, hx11⟩ := hp
  dsimp only at hI6 eJ8 hB7 eG9 hx11 Y
  rw [eJ8, eG9] at Y
  have hI12 : (∀ j, j ≠ 42 → I2 j = I j) := fun j h42 => (hI6 j h42).trans ((fun j h42 => rfl) j h42)
  have hB13 : (∀ j, j ≠ 0 → B4 j = B j) := fun j h0 => (hB7 j h0).trans ((fun j h0 => rfl) j h0)
  obtain ⟨V14, hV14a, hV14b, hV14c⟩ := hx11
  exact m_retv hQQ X Y hr hlk ⟨(fun j h42 => (hI12 j h42)), rfl, (fun j h0 => (hB13 j h0)), rfl, ⟨V14, by omega, by omega, (show I2 42 = nI (V14) from hV14c)⟩⟩ d_field_10
set_option maxHeartbeats 4000000 in
set_option maxRecDepth 100000 in
theorem c_putTwo (l : Launch) (D : mD) (E : mE) (h : Nat) (q : Nat → Nat) (sz : Nat) (I : Nat → Int32) (J : Nat → Int64) (B : Nat → Nat → Int32) (G : Nat → Nat → Int64) (n V : Nat) (hn : n < 2000000000) (hV : I 42 = nI V) (hV2 : 2 ≤ V) (hV6 : V ≤ 60000) : Met l y_putTwo (k_putTwo :: lw_tg) (mR 1 21) (va_Pc [.ref h, .int (nI n)] (mPre D E h q (I, J, B, G) sz)) (va_Qv (fun (u : mS) => (∀ j, j ≠ 42 → u.1 j = I j) ∧ u.2.1 = J ∧ (∀ j, j ≠ 0 → u.2.2.1 j = B j) ∧ u.2.2.2 = G ∧ u.1 42 = nI (V - 2)) (mPost D E h q (mA E h q sz)) (mA E h q sz)) 0 0 (mA E h q sz) := by
  refine m_enter (by decide) rfl (Nat.le_of_ble_eq_true rfl) (fun p e s m below meth c ls AV QQ H locs hQQ X Y hZ hA hr hlk hml hl => ?_)
  have Y : mH D E (mA E h q sz) s.heap h q I J B G H locs := Y
  have hl : lv_has ls 2 [(0, .ref h), (1, .int (nI n))] := hl
  refine lv_aload_n X.1 X.2.1 d_putTwo_0 rfl (lv_at hl 0 rfl) ?_
  refine lv_bipush (v := (nI 48)) X.1 X.2.1 d_putTwo_1 (by decide) ?_
  refine lv_iload_n X.1 X.2.1 d_putTwo_3 rfl (lv_at hl 1 rfl) ?_
  refine lv_bipush (v := (nI 10)) X.1 X.2.1 d_putTwo_4 (by decide) ?_
  refine lv_irem X.1 X.2.1 d_putTwo_6 (nI_ne0 (by omega) (by omega)) ?_
  refine t_eq (y := nI ((n) % (10))) (pk_rem (by omega) (by omega) (by omega)) ?_
  refine lv_iadd X.1 X.2.1 d_putTwo_7 ?_
  refine t_eq (y := nI (48 + (n) % (10))) (nI_add _ _) ?_
  refine m_callv (As := [.int (nI (48 + (n) % (10)))]) (rest := []) (n := 1) X Y hZ hA hml hl.1 (c_one l D E h q H.size I J B G (nI (48 + (n) % (10))) (V - 1) ((show I 42 = nI (V) from hV).trans (congrArg nI (show (V : Nat) = V - 1 + 1 by omega))) (by omega)) kl_one ks_one kx_one ki_one ini_M hd_one ⟨by decide, by decide⟩ rfl (Nat.le_of_ble_eq_true rfl) d_putTwo_8 ⟨Nat.le_refl _, Nat.le_refl _⟩ (fun u H locs hp Y => ?_)
  obtain ⟨I1, J2, B3, G4⟩ := u
  obtain ⟨hI5, eJ7, hB6, eG8, hk10⟩ := hp
  dsimp only at hI5 eJ7 hB6 eG8 hk10 Y
  rw [eJ7, eG8] at Y
  have hI11 : (∀ j, j ≠ 42 → I1 j = I j) := fun j h42 => (hI5 j h42).trans ((fun j h42 => rfl) j h42)
  have hB12 : (∀ j, j ≠ 0 → B3 j = B j) := fun j h0 => (hB6 j h0).trans ((fun j h0 => rfl) j h0)
  refine lv_aload_n X.1 X.2.1 d_putTwo_11 rfl (lv_at hl 0 rfl) ?_
  refine lv_bipush (v := (nI 48)) X.1 X.2.1 d_putTwo_12 (by decide) ?_
  refine lv_iload_n X.1 X.2.1 d_putTwo_14 rfl (lv_at hl 1 rfl) ?_
  refine lv_bipush (v := (nI 10)) X.1 X.2.1 d_putTwo_15 (by decide) ?_
  refine lv_idiv X.1 X.2.1 d_putTwo_17 (nI_ne0 (by omega) (by omega)) ?_
  refine t_eq (y := nI ((n) / (10))) (pk_div (by omega) (by omega) (by omega)) ?_
  refine lv_iadd X.1 X.2.1 d_putTwo_18 ?_
  refine t_eq (y := nI (48 + (n) / (10))) (nI_add _ _) ?_
  refine m_callv (As := [.int (nI (48 + (n) / (10)))]) (rest := []) (n := 1) X Y hZ hA hml hl.1 (c_one l D E h q H.size I1 J B3 G (nI (48 + (n) / (10))) ((V - 1) - 1) ((show I1 42 = nI ((V - 1)) from hk10).trans (congrArg nI (show ((V - 1) : Nat) = (V - 1) - 1 + 1 by omega))) (by omega)) kl_one ks_one kx_one ki_one ini_M hd_one ⟨by decide, by decide⟩ rfl (Nat.le_of_ble_eq_true rfl) d_putTwo_19 ⟨Nat.le_refl _, Nat.le_refl _⟩ (fun u H locs hp Y => ?_)
  obtain ⟨I13, J14, B15, G16⟩ := u
  obtain ⟨hI17, eJ19, hB18, eG20, hk22⟩ := hp
  dsimp only at hI17 eJ19 hB18 eG20 hk22 Y
  rw [eJ19, eG20] at Y
  have hI23 : (∀ j, j ≠ 42 → I13 j = I j) := fun j h42 => (hI17 j h42).trans ((fun j h42 => (hI11 j h42)) j h42)
  have hB24 : (∀ j, j ≠ 0 → B15 j = B j) := fun j h0 => (hB18 j h0).trans ((fun j h0 => (hB12 j h0)) j h0)
  exact m_retv hQQ X Y hr hlk ⟨(fun j h42 => (hI23 j h42)), rfl, (fun j h0 => (hB24 j h0)), rfl, (show I13 42 = nI (V - 2) from (show I13 42 = nI (((V - 1) - 1)) from hk22).trans (congrArg nI (show (((V - 1) - 1) : Nat) = V - 2 by omega)))⟩ d_putTwo_22
set_option maxHeartbeats 4000000 in
set_option maxRecDepth 100000 in
theorem c_toOut (l : Launch) (D : mD) (E : mE) (h : Nat) (q : Nat → Nat) (sz : Nat) (I : Nat → Int32) (J : Nat → Int64) (B : Nat → Nat → Int32) (G : Nat → Nat → Int64) (a b : Nat) (hab : a ≤ b) (hb : b ≤ 60000) (hba : b - a ≤ 20000) : Met l y_toOut (k_toOut :: lw_tg) (mR 0 0) (va_Pc [.ref h, .int (nI a), .int (nI b)] (mPre D E h q (I, J, B, G) sz)) (va_Qv (fun (u : mS) => (∀ j, j ≠ 3 → u.1 j = I j) ∧ u.2.1 = J ∧ (∀ j, j ≠ 1 → u.2.2.1 j = B j) ∧ u.2.2.2 = G ∧ u.1 3 = nI (b - a)) (mPost D E h q (mA E h q sz)) (mA E h q sz)) 0 0 (mA E h q sz) := by
  refine m_enter (by decide) rfl (Nat.le_of_ble_eq_true rfl) (fun p e s m below meth c ls AV QQ H locs hQQ X Y hZ hA hr hlk hml hl => ?_)
  have Y : mH D E (mA E h q sz) s.heap h q I J B G H locs := Y
  have hl : lv_has ls 4 [(0, .ref h), (1, .int (nI a)), (2, .int (nI b))] := hl
  refine lv_aload_n X.1 X.2.1 d_toOut_0 rfl (lv_at hl 0 rfl) ?_
  refine lv_iload_n X.1 X.2.1 d_toOut_1 rfl (lv_at hl 2 rfl) ?_
  refine lv_iload_n X.1 X.2.1 d_toOut_2 rfl (lv_at hl 1 rfl) ?_
  refine lv_isub X.1 X.2.1 d_toOut_3 ?_
  refine t_eq (y := nI (b - (a))) (pk_sub (by omega)) ?_
  refine m_puti X Y 3 (by decide) lk_outMany rfl rfl (t_M_ok 3 (by decide)) rfl rfl (sf_outMany _ _ _ _) (Nat.le_of_ble_eq_true rfl) d_toOut_4 (fun H locs Y => ?_)
  refine lv_iconst (v := (nI 0)) X.1 X.2.1 d_toOut_7 (by decide) ?_
  refine lv_istore_n (lv' := [(3, .int (nI 0)), (0, .ref h), (1, .int (nI a)), (2, .int (nI b))]) X.1 X.2.1 d_toOut_8 rfl hl (by decide) rfl (fun ls hl => ?_)
  have lp4 : ∀ (n1 i2 : Nat) (B5 : Nat → Nat → Int32) (H : Heap) (locs : List Loc) (ls : Array Slot), i2 + n1 = b - a → 0 ≤ i2 → (∀ j, j ≠ 1 → B5 j = B j) → mH D E (mA E h q sz) s.heap h q (upd I 3 (nI (b - (a)))) J B5 G H locs → lv_has ls 4 [(3, .int (nI i2)), (0, .ref h), (1, .int (nI a)), (2, .int (nI b))] → W p l e (mR 0 0) s m AV below meth c H locs 0 0 QQ (F0 m 9 ls []) := by
    intro n1
    induction n1 with
    | zero =>
      intro i2 B5 H locs ls hii2 hsi2 hB6  Y hl
      refine lv_iload_n X.1 X.2.1 d_toOut_9 rfl (lv_at hl 0 rfl) ?_
      refine lv_aload_n X.1 X.2.1 d_toOut_10 rfl (lv_at hl 1 rfl) ?_
      refine m_get X Y 3 (by decide) lk_outMany (gf_outMany _ _ _) rfl d_toOut_11 ?_
      refine t_eq (show (upd I 3 (nI (b - (a)))) 3 = nI (b - (a)) from pk_us) ?_
      refine lv_icmp_ge (tgt := 37) X.1 X.2.1 d_toOut_14 (by decide) (fun c7 => ?_) (fun c7 => absurd ?_ c7)
      rotate_left
      · (rw [nI_leI (by omega) (by omega)] <;> omega)
      rw [nI_leI (by omega) (by omega)] at c7
      exact m_retv hQQ X Y hr hlk ⟨(fun j h3 => ((if_neg h3).trans rfl)), rfl, (fun j h1 => (hB6 j h1)), rfl, (show (upd I 3 (nI (b - (a)))) 3 = nI (b - a) from (show (upd I 3 (nI (b - (a)))) 3 = nI (b - (a)) from pk_us).trans (congrArg nI (show (b - (a) : Nat) = b - a by omega)))⟩ d_toOut_37
    | succ n1 ih3 =>
      intro i2 B5 H locs ls hii2 hsi2 hB6  Y hl
      refine lv_iload_n X.1 X.2.1 d_toOut_9 rfl (lv_at hl 0 rfl) ?_
      refine lv_aload_n X.1 X.2.1 d_toOut_10 rfl (lv_at hl 1 rfl) ?_
      refine m_get X Y 3 (by decide) lk_outMany (gf_outMany _ _ _) rfl d_toOut_11 ?_
      refine t_eq (show (upd I 3 (nI (b - (a)))) 3 = nI (b - (a)) from pk_us) ?_
      refine lv_icmp_ge (tgt := 37) X.1 X.2.1 d_toOut_14 (by decide) (fun c8 => absurd c8 ?_) (fun c8 => ?_)
      · (rw [nI_leI (by omega) (by omega)] <;> omega)
      rw [nI_leI (by omega) (by omega)] at c8
      refine lv_aload_n X.1 X.2.1 d_toOut_17 rfl (lv_at hl 1 rfl) ?_
      refine m_get X Y 1 (by decide) lk_outs (gf_outs _ _ _) rfl d_toOut_18 ?_
      refine lv_iload_n X.1 X.2.1 d_toOut_21 rfl (lv_at hl 0 rfl) ?_
      refine lv_aload_n X.1 X.2.1 d_toOut_22 rfl (lv_at hl 1 rfl) ?_
      refine m_get X Y 0 (by decide) lk_mem (gf_mem _ _ _) rfl d_toOut_23 ?_
      refine lv_iload_n X.1 X.2.1 d_toOut_26 rfl (lv_at hl 2 rfl) ?_
      refine lv_iload_n X.1 X.2.1 d_toOut_27 rfl (lv_at hl 0 rfl) ?_
      refine lv_iadd X.1 X.2.1 d_toOut_28 ?_
      refine t_eq (y := nI (a + i2)) (nI_add _ _) ?_
      refine m_bald X Y (aw_mem _ _ _ _ _ _ _) (vp_in_nI (by omega) (by decide)) d_toOut_29 ?_
      refine t_any (fun v9 => ?_)
      refine m_bast X Y (aw_outs _ _ _ _ _ _ _) (vp_in_nI (by omega) (by decide)) (sw_outs _ _ _ _ _ _ _ _) d_toOut_30 (fun H locs Y => ?_)
      generalize (upd (B5 1) ((nI i2)).toNatClampNeg (vp_nar .byte v9)) = f10 at Y
      refine lv_iinc (v := (nI (i2 + 1))) (lv' := [(3, .int (nI (i2 + 1))), (0, .ref h), (1, .int (nI a)), (2, .int (nI b))]) X.1 X.2.1 d_toOut_31 hl (k := 0) rfl (nI_add _ 1) (by decide) rfl (fun ls hl => ?_)
      refine lv_goto (tgt := 9) X.1 X.2.1 d_toOut_34 (by decide) ?_
      exact ih3 (i2 + 1) (upB B5 1 f10) _ _ _ (by omega) (by omega) (fun j h1 => ((if_neg h1).trans (hB6 j h1)))  Y (lv_sub hl [0, 1, 2, 3] rfl)
  exact lp4 (b - a) 0 B _ _ _ (by omega) (by omega) (fun j h1 => rfl)  Y (lv_sub hl [0, 1, 2, 3] rfl)
set_option maxHeartbeats 4000000 in
set_option maxRecDepth 100000 in
theorem c_written (l : Launch) (D : mD) (E : mE) (h : Nat) (q : Nat → Nat) (sz : Nat) (I : Nat → Int32) (J : Nat → Int64) (B : Nat → Nat → Int32) (G : Nat → Nat → Int64) (V : Nat) (hV : I 42 = nI V) (hV2 : V ≤ 60000) (hV3 : 40000 ≤ V) : Met l y_written (k_written :: lw_tg) (mR 1 23) (va_Pc [.ref h] (mPre D E h q (I, J, B, G) sz)) (va_Qv (fun (u : mS) => (∀ j, j ≠ 3 → u.1 j = I j) ∧ u.2.1 = J ∧ (∀ j, j ≠ 1 → u.2.2.1 j = B j) ∧ u.2.2.2 = G ∧ u.1 3 = nI (60000 - V)) (mPost D E h q (mA E h q sz)) (mA E h q sz)) 0 0 (mA E h q sz) := by
  refine m_enter (by decide) rfl (Nat.le_of_ble_eq_true rfl) (fun p e s m below meth c ls AV QQ H locs hQQ X Y hZ hA hr hlk hml hl => ?_)
  have Y : mH D E (mA E h q sz) s.heap h q I J B G H locs := Y
  have hl : lv_has ls 1 [(0, .ref h)] := hl
  refine lv_aload_n X.1 X.2.1 d_written_0 rfl (lv_at hl 0 rfl) ?_
  refine lv_aload_n X.1 X.2.1 d_written_1 rfl (lv_at hl 0 rfl) ?_
  refine m_get X Y 42 (by decide) lk_w0 (gf_w0 _ _ _) rfl d_written_2 ?_
  refine t_eq (show I 42 = nI (V) from hV) ?_
  refine lv_ldc (v := (60000)) X.1 X.2.1 X.2.2.2.1 (X.2.2.1 _ cn_9) d_written_5 ?_
  refine t_eq (y := nI 60000) (by decide) ?_
  refine m_callv (As := [.int (nI (V)), .int (nI 60000)]) (rest := []) (n := 2) X Y hZ hA hml hl.1 (c_toOut l D E h q H.size I J B G (V) (60000) (by omega) (by omega) (by omega)) kl_toOut ks_toOut kx_toOut ki_toOut ini_M hd_toOut ⟨by decide, by decide⟩ rfl (Nat.le_of_ble_eq_true rfl) d_written_7 ⟨Nat.le_refl _, Nat.le_refl _⟩ (fun u H locs hp Y => ?_)
  obtain ⟨I1, J2, B3, G4⟩ := u
  obtain ⟨hI5, eJ7, hB6, eG8, hk10⟩ := hp
  dsimp only at hI5 eJ7 hB6 eG8 hk10 Y
  rw [eJ7, eG8] at Y
  have hI11 : (∀ j, j ≠ 3 → I1 j = I j) := fun j h3 => (hI5 j h3).trans ((fun j h3 => rfl) j h3)
  have hB12 : (∀ j, j ≠ 1 → B3 j = B j) := fun j h1 => (hB6 j h1).trans ((fun j h1 => rfl) j h1)
  exact m_retv hQQ X Y hr hlk ⟨(fun j h3 => (hI11 j h3)), rfl, (fun j h1 => (hB12 j h1)), rfl, (show I1 3 = nI (60000 - V) from (show I1 3 = nI ((60000 - (V))) from hk10).trans (congrArg nI (show ((60000 - (V)) : Nat) = 60000 - V by omega)))⟩ d_written_10
