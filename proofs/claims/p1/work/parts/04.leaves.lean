abbrev b_left : ByteArray := prog_14_method_9_code
def y_left : MethodName := ⟨R_M, "left", "(II)I"⟩
abbrev k_left : Cond := .code y_left b_left 2 (some .int)
theorem ki_left : k_left ∈ lw_tg := in_t 1820 (by decide +kernel)
theorem ks_left : Cond.static y_left ∈ lw_tg := in_t 1819 (by decide +kernel)
theorem kl_left : Cond.methodLink R_M 360 y_left ∈ lw_tg := in_t 1818 (by decide +kernel)
theorem d_left_0 : decode b_left 0 = .ok (.iload_n 0, 1) := by decide +kernel
theorem d_left_1 : decode b_left 1 = .ok (.iload_n 1, 1) := by decide +kernel
theorem d_left_2 : decode b_left 2 = .ok (.ishl, 1) := by decide +kernel
theorem d_left_3 : decode b_left 3 = .ok (.iload_n 0, 1) := by decide +kernel
theorem d_left_4 : decode b_left 4 = .ok (.bipush 32, 2) := by decide +kernel
theorem d_left_6 : decode b_left 6 = .ok (.iload_n 1, 1) := by decide +kernel
theorem d_left_7 : decode b_left 7 = .ok (.isub, 1) := by decide +kernel
theorem d_left_8 : decode b_left 8 = .ok (.iushr, 1) := by decide +kernel
theorem d_left_9 : decode b_left 9 = .ok (.ior, 1) := by decide +kernel
theorem d_left_10 : decode b_left 10 = .ok (.ireturn, 1) := by decide +kernel
abbrev b_twice : ByteArray := prog_14_method_15_code
def y_twice : MethodName := ⟨R_M, "twice", "(I)I"⟩
abbrev k_twice : Cond := .code y_twice b_twice 1 (some .int)
theorem ki_twice : k_twice ∈ lw_tg := in_t 1859 (by decide +kernel)
theorem ks_twice : Cond.static y_twice ∈ lw_tg := in_t 1858 (by decide +kernel)
theorem kl_twice : Cond.methodLink R_M 381 y_twice ∈ lw_tg := in_t 1857 (by decide +kernel)
theorem d_twice_0 : decode b_twice 0 = .ok (.iload_n 0, 1) := by decide +kernel
theorem d_twice_1 : decode b_twice 1 = .ok (.iconst 1, 1) := by decide +kernel
theorem d_twice_2 : decode b_twice 2 = .ok (.ishl, 1) := by decide +kernel
theorem d_twice_3 : decode b_twice 3 = .ok (.iload_n 0, 1) := by decide +kernel
theorem d_twice_4 : decode b_twice 4 = .ok (.bipush 127, 2) := by decide +kernel
theorem d_twice_6 : decode b_twice 6 = .ok (.if_icmp .le 8, 3) := by decide +kernel
theorem d_twice_9 : decode b_twice 9 = .ok (.bipush 27, 2) := by decide +kernel
theorem d_twice_11 : decode b_twice 11 = .ok (.goto 4, 3) := by decide +kernel
theorem d_twice_14 : decode b_twice 14 = .ok (.iconst 0, 1) := by decide +kernel
theorem d_twice_15 : decode b_twice 15 = .ok (.ixor, 1) := by decide +kernel
theorem d_twice_16 : decode b_twice 16 = .ok (.sipush 255, 3) := by decide +kernel
theorem d_twice_19 : decode b_twice 19 = .ok (.iand, 1) := by decide +kernel
theorem d_twice_20 : decode b_twice 20 = .ok (.ireturn, 1) := by decide +kernel
abbrev b_product : ByteArray := prog_14_method_16_code
def y_product : MethodName := ⟨R_M, "product", "(II)I"⟩
abbrev k_product : Cond := .code y_product b_product 5 (some .int)
theorem ki_product : k_product ∈ lw_tg := in_t 1856 (by decide +kernel)
theorem ks_product : Cond.static y_product ∈ lw_tg := in_t 1855 (by decide +kernel)
theorem kl_product : Cond.methodLink R_M 389 y_product ∈ lw_tg := in_t 1854 (by decide +kernel)
theorem d_product_0 : decode b_product 0 = .ok (.iconst 0, 1) := by decide +kernel
theorem d_product_1 : decode b_product 1 = .ok (.istore_n 2, 1) := by decide +kernel
theorem d_product_2 : decode b_product 2 = .ok (.iload_n 0, 1) := by decide +kernel
theorem d_product_3 : decode b_product 3 = .ok (.istore_n 3, 1) := by decide +kernel
theorem d_product_4 : decode b_product 4 = .ok (.iload_n 1, 1) := by decide +kernel
theorem d_product_5 : decode b_product 5 = .ok (.istore 4, 2) := by decide +kernel
theorem d_product_7 : decode b_product 7 = .ok (.iload 4, 2) := by decide +kernel
theorem d_product_9 : decode b_product 9 = .ok (.ifCond .le 29, 3) := by decide +kernel
theorem d_product_12 : decode b_product 12 = .ok (.iload 4, 2) := by decide +kernel
theorem d_product_14 : decode b_product 14 = .ok (.iconst 1, 1) := by decide +kernel
theorem d_product_15 : decode b_product 15 = .ok (.iand, 1) := by decide +kernel
theorem d_product_16 : decode b_product 16 = .ok (.iconst 1, 1) := by decide +kernel
theorem d_product_17 : decode b_product 17 = .ok (.if_icmp .ne 7, 3) := by decide +kernel
theorem d_product_20 : decode b_product 20 = .ok (.iload_n 2, 1) := by decide +kernel
theorem d_product_21 : decode b_product 21 = .ok (.iload_n 3, 1) := by decide +kernel
theorem d_product_22 : decode b_product 22 = .ok (.ixor, 1) := by decide +kernel
theorem d_product_23 : decode b_product 23 = .ok (.istore_n 2, 1) := by decide +kernel
theorem d_product_24 : decode b_product 24 = .ok (.iload_n 3, 1) := by decide +kernel
theorem d_product_25 : decode b_product 25 = .ok (.invokestatic 381, 3) := by decide +kernel
theorem d_product_28 : decode b_product 28 = .ok (.istore_n 3, 1) := by decide +kernel
theorem d_product_29 : decode b_product 29 = .ok (.iload 4, 2) := by decide +kernel
theorem d_product_31 : decode b_product 31 = .ok (.iconst 1, 1) := by decide +kernel
theorem d_product_32 : decode b_product 32 = .ok (.ishr, 1) := by decide +kernel
theorem d_product_33 : decode b_product 33 = .ok (.istore 4, 2) := by decide +kernel
theorem d_product_35 : decode b_product 35 = .ok (.goto (-28), 3) := by decide +kernel
theorem d_product_38 : decode b_product 38 = .ok (.iload_n 2, 1) := by decide +kernel
theorem d_product_39 : decode b_product 39 = .ok (.ireturn, 1) := by decide +kernel
abbrev b_begin : ByteArray := prog_14_method_8_code
def y_begin : MethodName := ⟨R_M, "begin", "()V"⟩
abbrev k_begin : Cond := .code y_begin b_begin 1 none
theorem ki_begin : k_begin ∈ lw_tg := in_t 1808 (by decide +kernel)
theorem ks_begin : Cond.instanceMethod y_begin ∈ lw_tg := in_t 1807 (by decide +kernel)
theorem kl_begin : Cond.methodLink R_M 374 y_begin ∈ lw_tg := in_t 1805 (by decide +kernel)
theorem d_begin_0 : decode b_begin 0 = .ok (.aload_n 0, 1) := by decide +kernel
theorem d_begin_1 : decode b_begin 1 = .ok (.getfield 22, 3) := by decide +kernel
theorem d_begin_4 : decode b_begin 4 = .ok (.iconst 0, 1) := by decide +kernel
theorem d_begin_5 : decode b_begin 5 = .ok (.ldc_w 352, 3) := by decide +kernel
theorem d_begin_8 : decode b_begin 8 = .ok (.iastore, 1) := by decide +kernel
theorem d_begin_9 : decode b_begin 9 = .ok (.aload_n 0, 1) := by decide +kernel
theorem d_begin_10 : decode b_begin 10 = .ok (.getfield 22, 3) := by decide +kernel
theorem d_begin_13 : decode b_begin 13 = .ok (.iconst 1, 1) := by decide +kernel
theorem d_begin_14 : decode b_begin 14 = .ok (.ldc_w 353, 3) := by decide +kernel
theorem d_begin_17 : decode b_begin 17 = .ok (.iastore, 1) := by decide +kernel
theorem d_begin_18 : decode b_begin 18 = .ok (.aload_n 0, 1) := by decide +kernel
theorem d_begin_19 : decode b_begin 19 = .ok (.getfield 22, 3) := by decide +kernel
theorem d_begin_22 : decode b_begin 22 = .ok (.iconst 2, 1) := by decide +kernel
theorem d_begin_23 : decode b_begin 23 = .ok (.ldc_w 354, 3) := by decide +kernel
theorem d_begin_26 : decode b_begin 26 = .ok (.iastore, 1) := by decide +kernel
theorem d_begin_27 : decode b_begin 27 = .ok (.aload_n 0, 1) := by decide +kernel
theorem d_begin_28 : decode b_begin 28 = .ok (.getfield 22, 3) := by decide +kernel
theorem d_begin_31 : decode b_begin 31 = .ok (.iconst 3, 1) := by decide +kernel
theorem d_begin_32 : decode b_begin 32 = .ok (.ldc_w 355, 3) := by decide +kernel
theorem d_begin_35 : decode b_begin 35 = .ok (.iastore, 1) := by decide +kernel
theorem d_begin_36 : decode b_begin 36 = .ok (.aload_n 0, 1) := by decide +kernel
theorem d_begin_37 : decode b_begin 37 = .ok (.getfield 22, 3) := by decide +kernel
theorem d_begin_40 : decode b_begin 40 = .ok (.iconst 4, 1) := by decide +kernel
theorem d_begin_41 : decode b_begin 41 = .ok (.ldc_w 356, 3) := by decide +kernel
theorem d_begin_44 : decode b_begin 44 = .ok (.iastore, 1) := by decide +kernel
theorem d_begin_45 : decode b_begin 45 = .ok (.aload_n 0, 1) := by decide +kernel
theorem d_begin_46 : decode b_begin 46 = .ok (.iconst 0, 1) := by decide +kernel
theorem d_begin_47 : decode b_begin 47 = .ok (.putfield 357, 3) := by decide +kernel
theorem d_begin_50 : decode b_begin 50 = .ok (.return_, 1) := by decide +kernel
theorem cn_352 : Cond.constant R_M 352 (1732584193) ∈ lw_tg := in_t 1809 (by decide +kernel)
theorem cn_353 : Cond.constant R_M 353 (-271733879) ∈ lw_tg := in_t 1810 (by decide +kernel)
theorem cn_354 : Cond.constant R_M 354 (-1732584194) ∈ lw_tg := in_t 1811 (by decide +kernel)
theorem cn_355 : Cond.constant R_M 355 (271733878) ∈ lw_tg := in_t 1812 (by decide +kernel)
theorem cn_356 : Cond.constant R_M 356 (-1009589776) ∈ lw_tg := in_t 1813 (by decide +kernel)
set_option maxHeartbeats 4000000 in
set_option maxRecDepth 100000 in
theorem c_left (l : Launch) (a0 a1 : Int32) : Met l y_left (k_left :: lw_tg) (mR 0 0) (va_Pc [.int a0, .int a1] pPre) (va_Qi (fun (r : Int32) (_ : Unit) => True) (fun _ _ => True) (fun _ => False)) 0 0 (fun _ => False) := by
  refine p_enter (by decide) rfl (Nat.le_of_ble_eq_true rfl) (fun p e s m below meth c ls AV QQ H locs hQQ hS X hr hlk hml hl => ?_)
  have hl : lv_has ls 2 [(0, .int a0), (1, .int a1)] := hl
  refine lv_iload_n X.1 X.2.1 d_left_0 rfl (lv_at hl 0 rfl) ?_
  refine lv_iload_n X.1 X.2.1 d_left_1 rfl (lv_at hl 1 rfl) ?_
  refine lv_ishl X.1 X.2.1 d_left_2 ?_
  refine t_any (fun v1 => ?_)
  refine lv_iload_n X.1 X.2.1 d_left_3 rfl (lv_at hl 0 rfl) ?_
  refine lv_bipush (v := (nI 32)) X.1 X.2.1 d_left_4 (by decide) ?_
  refine lv_iload_n X.1 X.2.1 d_left_6 rfl (lv_at hl 1 rfl) ?_
  refine lv_isub X.1 X.2.1 d_left_7 ?_
  refine t_any (fun v2 => ?_)
  obtain ⟨v3, ev3⟩ : ∃ z : Int32, ((a0 : Int32).toUInt32 >>> ((v2 : Int32).toUInt32 &&& Int32.toUInt32 31)).toInt32 = z := ⟨_, rfl⟩
  refine lv_iushr (v := v3) X.1 X.2.1 d_left_8 ev3 ?_
  refine lv_ior X.1 X.2.1 d_left_9 ?_
  refine t_any (fun v4 => ?_)
  exact p_reti hQQ hS X hr hlk trivial d_left_10
set_option maxHeartbeats 4000000 in
set_option maxRecDepth 100000 in
theorem c_twice (l : Launch) (a0 : Int32) : Met l y_twice (k_twice :: lw_tg) (mR 0 0) (va_Pc [.int a0] pPre) (va_Qi (fun (r : Int32) (_ : Unit) => ∃ n, n < 256 ∧ r = nI n) (fun _ _ => True) (fun _ => False)) 0 0 (fun _ => False) := by
  refine p_enter (by decide) rfl (Nat.le_of_ble_eq_true rfl) (fun p e s m below meth c ls AV QQ H locs hQQ hS X hr hlk hml hl => ?_)
  have hl : lv_has ls 1 [(0, .int a0)] := hl
  refine lv_iload_n X.1 X.2.1 d_twice_0 rfl (lv_at hl 0 rfl) ?_
  refine lv_iconst (v := (nI 1)) X.1 X.2.1 d_twice_1 (by decide) ?_
  refine lv_ishl X.1 X.2.1 d_twice_2 ?_
  refine t_any (fun v1 => ?_)
  have jn3 : ∀ w2 : Int32, W p l e (mR 0 0) s m AV below meth c H locs 0 0 QQ (F0 m 15 ls [.int w2, .int v1]) := by
    intro w2
    refine lv_ixor X.1 X.2.1 d_twice_15 ?_
    refine t_any (fun v4 => ?_)
    refine lv_sipush (v := (nI 255)) X.1 X.2.1 d_twice_16 (by decide) ?_
    refine lv_iand X.1 X.2.1 d_twice_19 ?_
    obtain ⟨j5, hj5, ej5⟩ := pk_andE v4 (m := nI 255) 8 (by decide)
    refine t_eq ej5 ?_
    have hj5 : j5 < 256 := hj5
    exact p_reti hQQ hS X hr hlk ⟨_, hj5, rfl⟩ d_twice_20
  refine lv_iload_n X.1 X.2.1 d_twice_3 rfl (lv_at hl 0 rfl) ?_
  refine lv_bipush (v := (nI 127)) X.1 X.2.1 d_twice_4 (by decide) ?_
  refine lv_icmp_le (tgt := 14) X.1 X.2.1 d_twice_6 (by decide) (fun c6 => ?_) (fun c6 => ?_)
  · skip
    refine lv_iconst (v := (nI 0)) X.1 X.2.1 d_twice_14 (by decide) ?_
    exact jn3 _
  · skip
    refine lv_bipush (v := (nI 27)) X.1 X.2.1 d_twice_9 (by decide) ?_
    refine lv_goto (tgt := 15) X.1 X.2.1 d_twice_11 (by decide) ?_
    exact jn3 _
set_option maxHeartbeats 4000000 in
set_option maxRecDepth 100000 in
theorem c_begin (l : Launch) (D : mD) (E : mE) (h : Nat) (q : Nat → Nat) (sz : Nat) (I : Nat → Int32) (J : Nat → Int64) (B : Nat → Nat → Int32) (G : Nat → Nat → Int64)  : Met l y_begin (k_begin :: lw_tg) (mR 0 0) (va_Pc [.ref h] (mPre D E h q (I, J, B, G) sz)) (va_Qv (fun (u : mS) => u.1 = upd I 8 (nI 0) ∧ u.2.1 = J ∧ (∀ j, j ≠ 5 → u.2.2.1 j = B j) ∧ u.2.2.2 = G) (mPost D E h q (mA E h q sz)) (mA E h q sz)) 0 0 (mA E h q sz) := by
  refine m_enter (by decide) rfl (Nat.le_of_ble_eq_true rfl) (fun p e s m below meth c ls AV QQ H locs hQQ X Y hZ hA hr hlk hml hl => ?_)
  have Y : mH D E (mA E h q sz) s.heap h q I J B G H locs := Y
  have hl : lv_has ls 1 [(0, .ref h)] := hl
  refine lv_aload_n X.1 X.2.1 d_begin_0 rfl (lv_at hl 0 rfl) ?_
  refine m_get X Y 5 (by decide) lk_h (gf_h _ _ _) rfl d_begin_1 ?_
  refine lv_iconst (v := (nI 0)) X.1 X.2.1 d_begin_4 (by decide) ?_
  refine lv_ldcw (v := (1732584193)) X.1 X.2.1 X.2.2.2.1 (X.2.2.1 _ cn_352) d_begin_5 ?_
  refine t_eq (y := nI 1732584193) (by decide) ?_
  refine m_iast X Y (aw_h _ _ _ _ _ _ _) (vp_in_nI (by omega) (by decide)) (sw_h _ _ _ _ _ _ _ _) d_begin_8 (fun H locs Y => ?_)
  generalize (upd (B 5) ((nI 0)).toNatClampNeg (nI 1732584193)) = f1 at Y
  refine lv_aload_n X.1 X.2.1 d_begin_9 rfl (lv_at hl 0 rfl) ?_
  refine m_get X Y 5 (by decide) lk_h (gf_h _ _ _) rfl d_begin_10 ?_
  refine lv_iconst (v := (nI 1)) X.1 X.2.1 d_begin_13 (by decide) ?_
  refine lv_ldcw (v := (-271733879)) X.1 X.2.1 X.2.2.2.1 (X.2.2.1 _ cn_353) d_begin_14 ?_
  refine m_iast X Y (aw_h _ _ _ _ _ _ _) (vp_in_nI (by omega) (by decide)) (sw_h _ _ _ _ _ _ _ _) d_begin_17 (fun H locs Y => ?_)
  generalize (upd ((upB B 5 f1) 5) ((nI 1)).toNatClampNeg (-271733879)) = f2 at Y
  refine lv_aload_n X.1 X.2.1 d_begin_18 rfl (lv_at hl 0 rfl) ?_
  refine m_get X Y 5 (by decide) lk_h (gf_h _ _ _) rfl d_begin_19 ?_
  refine lv_iconst (v := (nI 2)) X.1 X.2.1 d_begin_22 (by decide) ?_
  refine lv_ldcw (v := (-1732584194)) X.1 X.2.1 X.2.2.2.1 (X.2.2.1 _ cn_354) d_begin_23 ?_
  refine m_iast X Y (aw_h _ _ _ _ _ _ _) (vp_in_nI (by omega) (by decide)) (sw_h _ _ _ _ _ _ _ _) d_begin_26 (fun H locs Y => ?_)
  generalize (upd ((upB (upB B 5 f1) 5 f2) 5) ((nI 2)).toNatClampNeg (-1732584194)) = f3 at Y
  refine lv_aload_n X.1 X.2.1 d_begin_27 rfl (lv_at hl 0 rfl) ?_
  refine m_get X Y 5 (by decide) lk_h (gf_h _ _ _) rfl d_begin_28 ?_
  refine lv_iconst (v := (nI 3)) X.1 X.2.1 d_begin_31 (by decide) ?_
  refine lv_ldcw (v := (271733878)) X.1 X.2.1 X.2.2.2.1 (X.2.2.1 _ cn_355) d_begin_32 ?_
  refine t_eq (y := nI 271733878) (by decide) ?_
  refine m_iast X Y (aw_h _ _ _ _ _ _ _) (vp_in_nI (by omega) (by decide)) (sw_h _ _ _ _ _ _ _ _) d_begin_35 (fun H locs Y => ?_)
  generalize (upd ((upB (upB (upB B 5 f1) 5 f2) 5 f3) 5) ((nI 3)).toNatClampNeg (nI 271733878)) = f4 at Y
  refine lv_aload_n X.1 X.2.1 d_begin_36 rfl (lv_at hl 0 rfl) ?_
  refine m_get X Y 5 (by decide) lk_h (gf_h _ _ _) rfl d_begin_37 ?_
  refine lv_iconst (v := (nI 4)) X.1 X.2.1 d_begin_40 (by decide) ?_
  refine lv_ldcw (v := (-1009589776)) X.1 X.2.1 X.2.2.2.1 (X.2.2.1 _ cn_356) d_begin_41 ?_
  refine m_iast X Y (aw_h _ _ _ _ _ _ _) (vp_in_nI (by omega) (by decide)) (sw_h _ _ _ _ _ _ _ _) d_begin_44 (fun H locs Y => ?_)
  generalize (upd ((upB (upB (upB (upB B 5 f1) 5 f2) 5 f3) 5 f4) 5) ((nI 4)).toNatClampNeg (-1009589776)) = f5 at Y
  refine lv_aload_n X.1 X.2.1 d_begin_45 rfl (lv_at hl 0 rfl) ?_
  refine lv_iconst (v := (nI 0)) X.1 X.2.1 d_begin_46 (by decide) ?_
  refine m_puti X Y 8 (by decide) lk_hashed rfl rfl (t_M_ok 8 (by decide)) rfl rfl (sf_hashed _ _ _ _) (Nat.le_of_ble_eq_true rfl) d_begin_47 (fun H locs Y => ?_)
  exact m_retv hQQ X Y hr hlk ⟨rfl, rfl, fun j hj => (if_neg hj).trans ((if_neg hj).trans ((if_neg hj).trans ((if_neg hj).trans ((if_neg hj).trans (rfl))))), rfl⟩ d_begin_50
