/-! Hash: a key, bytes, the end. -/
abbrev b_Ha_setKey : ByteArray := prog_7_method_2_code
def y_Ha_setKey : MethodName := ⟨R_Ha, "setKey", "([BII)V"⟩
abbrev k_Ha_setKey : Cond := .code y_Ha_setKey b_Ha_setKey 4 none
theorem ki_Ha_setKey : k_Ha_setKey ∈ lw_tg := in_t 587 (by decide +kernel)
theorem ks_Ha_setKey : Cond.instanceMethod y_Ha_setKey ∈ lw_tg := in_t 585 (by decide +kernel)
theorem kx_Ha_setKey : Cond.selects R_Ha y_Ha_setKey y_Ha_setKey ∈ lw_tg := in_t 586 (by decide +kernel)
theorem kl_Va_Ha_setKey : Cond.methodLink R_Va 112 y_Ha_setKey ∈ lw_tg := in_t 584 (by decide +kernel)
theorem hd_Ha_setKey : y_Ha_setKey.cls = R_Ha ∧ y_Ha_setKey.cls ≠ "java/lang/invoke/MethodHandle" ∧ y_Ha_setKey.cls ≠ "java/lang/invoke/VarHandle" ∧ (parseMethodDescriptor y_Ha_setKey.desc).map (fun d => d.parameters.length) = some 3 := by decide +kernel
theorem d_Ha_setKey_0 : decode b_Ha_setKey 0 = .ok (.aload_n 0, 1) := by decide +kernel
theorem d_Ha_setKey_1 : decode b_Ha_setKey 1 = .ok (.aload_n 1, 1) := by decide +kernel
theorem d_Ha_setKey_2 : decode b_Ha_setKey 2 = .ok (.iload_n 2, 1) := by decide +kernel
theorem d_Ha_setKey_3 : decode b_Ha_setKey 3 = .ok (.iload_n 3, 1) := by decide +kernel
theorem d_Ha_setKey_4 : decode b_Ha_setKey 4 = .ok (.bipush 54, 2) := by decide +kernel
theorem d_Ha_setKey_6 : decode b_Ha_setKey 6 = .ok (.invokevirtual 29, 3) := by decide +kernel
theorem d_Ha_setKey_9 : decode b_Ha_setKey 9 = .ok (.aload_n 0, 1) := by decide +kernel
theorem d_Ha_setKey_10 : decode b_Ha_setKey 10 = .ok (.getfield 17, 3) := by decide +kernel
theorem d_Ha_setKey_13 : decode b_Ha_setKey 13 = .ok (.iconst 0, 1) := by decide +kernel
theorem d_Ha_setKey_14 : decode b_Ha_setKey 14 = .ok (.aload_n 0, 1) := by decide +kernel
theorem d_Ha_setKey_15 : decode b_Ha_setKey 15 = .ok (.getfield 20, 3) := by decide +kernel
theorem d_Ha_setKey_18 : decode b_Ha_setKey 18 = .ok (.iconst 0, 1) := by decide +kernel
theorem d_Ha_setKey_19 : decode b_Ha_setKey 19 = .ok (.iconst 5, 1) := by decide +kernel
theorem d_Ha_setKey_20 : decode b_Ha_setKey 20 = .ok (.invokestatic 33, 3) := by decide +kernel
theorem d_Ha_setKey_23 : decode b_Ha_setKey 23 = .ok (.aload_n 0, 1) := by decide +kernel
theorem d_Ha_setKey_24 : decode b_Ha_setKey 24 = .ok (.aload_n 1, 1) := by decide +kernel
theorem d_Ha_setKey_25 : decode b_Ha_setKey 25 = .ok (.iload_n 2, 1) := by decide +kernel
theorem d_Ha_setKey_26 : decode b_Ha_setKey 26 = .ok (.iload_n 3, 1) := by decide +kernel
theorem d_Ha_setKey_27 : decode b_Ha_setKey 27 = .ok (.bipush 92, 2) := by decide +kernel
theorem d_Ha_setKey_29 : decode b_Ha_setKey 29 = .ok (.invokevirtual 29, 3) := by decide +kernel
theorem d_Ha_setKey_32 : decode b_Ha_setKey 32 = .ok (.aload_n 0, 1) := by decide +kernel
theorem d_Ha_setKey_33 : decode b_Ha_setKey 33 = .ok (.getfield 17, 3) := by decide +kernel
theorem d_Ha_setKey_36 : decode b_Ha_setKey 36 = .ok (.iconst 0, 1) := by decide +kernel
theorem d_Ha_setKey_37 : decode b_Ha_setKey 37 = .ok (.aload_n 0, 1) := by decide +kernel
theorem d_Ha_setKey_38 : decode b_Ha_setKey 38 = .ok (.getfield 23, 3) := by decide +kernel
theorem lk_Ha_23 : Cond.fieldLink R_Ha 23 R_Ha (F_Ha 4).2.1 (F_Ha 4).2.2.1 ∈ lw_tg := in_t 74 (by decide +kernel)
theorem d_Ha_setKey_41 : decode b_Ha_setKey 41 = .ok (.iconst 0, 1) := by decide +kernel
theorem d_Ha_setKey_42 : decode b_Ha_setKey 42 = .ok (.iconst 5, 1) := by decide +kernel
theorem d_Ha_setKey_43 : decode b_Ha_setKey 43 = .ok (.invokestatic 33, 3) := by decide +kernel
theorem d_Ha_setKey_46 : decode b_Ha_setKey 46 = .ok (.return_, 1) := by decide +kernel
abbrev b_Ha_add : ByteArray := prog_7_method_5_code
def y_Ha_add : MethodName := ⟨R_Ha, "add", "([BII)V"⟩
abbrev k_Ha_add : Cond := .code y_Ha_add b_Ha_add 5 none
theorem ki_Ha_add : k_Ha_add ∈ lw_tg := in_t 621 (by decide +kernel)
theorem ks_Ha_add : Cond.instanceMethod y_Ha_add ∈ lw_tg := in_t 619 (by decide +kernel)
theorem kx_Ha_add : Cond.selects R_Ha y_Ha_add y_Ha_add ∈ lw_tg := in_t 620 (by decide +kernel)
theorem kl_Va_Ha_add : Cond.methodLink R_Va 119 y_Ha_add ∈ lw_tg := in_t 618 (by decide +kernel)
theorem hd_Ha_add : y_Ha_add.cls = R_Ha ∧ y_Ha_add.cls ≠ "java/lang/invoke/MethodHandle" ∧ y_Ha_add.cls ≠ "java/lang/invoke/VarHandle" ∧ (parseMethodDescriptor y_Ha_add.desc).map (fun d => d.parameters.length) = some 3 := by decide +kernel
theorem d_Ha_add_0 : decode b_Ha_add 0 = .ok (.iload_n 2, 1) := by decide +kernel
theorem d_Ha_add_1 : decode b_Ha_add 1 = .ok (.ifCond .lt 15, 3) := by decide +kernel
theorem d_Ha_add_4 : decode b_Ha_add 4 = .ok (.iload_n 3, 1) := by decide +kernel
theorem d_Ha_add_5 : decode b_Ha_add 5 = .ok (.ifCond .lt 11, 3) := by decide +kernel
theorem d_Ha_add_8 : decode b_Ha_add 8 = .ok (.iload_n 3, 1) := by decide +kernel
theorem d_Ha_add_9 : decode b_Ha_add 9 = .ok (.aload_n 1, 1) := by decide +kernel
theorem d_Ha_add_10 : decode b_Ha_add 10 = .ok (.arraylength, 1) := by decide +kernel
theorem d_Ha_add_11 : decode b_Ha_add 11 = .ok (.iload_n 2, 1) := by decide +kernel
theorem d_Ha_add_12 : decode b_Ha_add 12 = .ok (.isub, 1) := by decide +kernel
theorem d_Ha_add_13 : decode b_Ha_add 13 = .ok (.if_icmp .le 4, 3) := by decide +kernel
theorem d_Ha_add_16 : decode b_Ha_add 16 = .ok (.return_, 1) := by decide +kernel
theorem d_Ha_add_17 : decode b_Ha_add 17 = .ok (.iload_n 2, 1) := by decide +kernel
theorem d_Ha_add_18 : decode b_Ha_add 18 = .ok (.istore 4, 2) := by decide +kernel
theorem d_Ha_add_20 : decode b_Ha_add 20 = .ok (.iload 4, 2) := by decide +kernel
theorem d_Ha_add_22 : decode b_Ha_add 22 = .ok (.iload_n 2, 1) := by decide +kernel
theorem d_Ha_add_23 : decode b_Ha_add 23 = .ok (.iload_n 3, 1) := by decide +kernel
theorem d_Ha_add_24 : decode b_Ha_add 24 = .ok (.iadd, 1) := by decide +kernel
theorem d_Ha_add_25 : decode b_Ha_add 25 = .ok (.if_icmp .ge 50, 3) := by decide +kernel
theorem d_Ha_add_28 : decode b_Ha_add 28 = .ok (.aload_n 0, 1) := by decide +kernel
theorem d_Ha_add_29 : decode b_Ha_add 29 = .ok (.getfield 13, 3) := by decide +kernel
theorem d_Ha_add_32 : decode b_Ha_add 32 = .ok (.aload_n 0, 1) := by decide +kernel
theorem d_Ha_add_33 : decode b_Ha_add 33 = .ok (.getfield 47, 3) := by decide +kernel
theorem d_Ha_add_36 : decode b_Ha_add 36 = .ok (.aload_n 1, 1) := by decide +kernel
theorem d_Ha_add_37 : decode b_Ha_add 37 = .ok (.iload 4, 2) := by decide +kernel
theorem d_Ha_add_39 : decode b_Ha_add 39 = .ok (.baload, 1) := by decide +kernel
theorem d_Ha_add_40 : decode b_Ha_add 40 = .ok (.bastore, 1) := by decide +kernel
theorem d_Ha_add_41 : decode b_Ha_add 41 = .ok (.aload_n 0, 1) := by decide +kernel
theorem d_Ha_add_42 : decode b_Ha_add 42 = .ok (.dup, 1) := by decide +kernel
theorem d_Ha_add_43 : decode b_Ha_add 43 = .ok (.getfield 47, 3) := by decide +kernel
theorem d_Ha_add_46 : decode b_Ha_add 46 = .ok (.iconst 1, 1) := by decide +kernel
theorem d_Ha_add_47 : decode b_Ha_add 47 = .ok (.iadd, 1) := by decide +kernel
theorem d_Ha_add_48 : decode b_Ha_add 48 = .ok (.putfield 47, 3) := by decide +kernel
theorem d_Ha_add_51 : decode b_Ha_add 51 = .ok (.aload_n 0, 1) := by decide +kernel
theorem d_Ha_add_52 : decode b_Ha_add 52 = .ok (.getfield 47, 3) := by decide +kernel
theorem d_Ha_add_55 : decode b_Ha_add 55 = .ok (.bipush 64, 2) := by decide +kernel
theorem d_Ha_add_57 : decode b_Ha_add 57 = .ok (.if_icmp .ne 12, 3) := by decide +kernel
theorem d_Ha_add_60 : decode b_Ha_add 60 = .ok (.aload_n 0, 1) := by decide +kernel
theorem d_Ha_add_61 : decode b_Ha_add 61 = .ok (.invokevirtual 44, 3) := by decide +kernel
theorem d_Ha_add_64 : decode b_Ha_add 64 = .ok (.aload_n 0, 1) := by decide +kernel
theorem d_Ha_add_65 : decode b_Ha_add 65 = .ok (.iconst 0, 1) := by decide +kernel
theorem d_Ha_add_66 : decode b_Ha_add 66 = .ok (.putfield 47, 3) := by decide +kernel
theorem d_Ha_add_69 : decode b_Ha_add 69 = .ok (.iinc 4 1, 3) := by decide +kernel
theorem d_Ha_add_72 : decode b_Ha_add 72 = .ok (.goto (-52), 3) := by decide +kernel
theorem d_Ha_add_75 : decode b_Ha_add 75 = .ok (.aload_n 0, 1) := by decide +kernel
theorem d_Ha_add_76 : decode b_Ha_add 76 = .ok (.dup, 1) := by decide +kernel
theorem d_Ha_add_77 : decode b_Ha_add 77 = .ok (.getfield 51, 3) := by decide +kernel
theorem d_Ha_add_80 : decode b_Ha_add 80 = .ok (.iload_n 3, 1) := by decide +kernel
theorem d_Ha_add_81 : decode b_Ha_add 81 = .ok (.iadd, 1) := by decide +kernel
theorem d_Ha_add_82 : decode b_Ha_add 82 = .ok (.putfield 51, 3) := by decide +kernel
theorem d_Ha_add_85 : decode b_Ha_add 85 = .ok (.return_, 1) := by decide +kernel
abbrev b_Ha_finish : ByteArray := prog_7_method_6_code
def y_Ha_finish : MethodName := ⟨R_Ha, "finish", "()V"⟩
abbrev k_Ha_finish : Cond := .code y_Ha_finish b_Ha_finish 1 none
theorem ki_Ha_finish : k_Ha_finish ∈ lw_tg := in_t 625 (by decide +kernel)
theorem ks_Ha_finish : Cond.instanceMethod y_Ha_finish ∈ lw_tg := in_t 623 (by decide +kernel)
theorem kx_Ha_finish : Cond.selects R_Ha y_Ha_finish y_Ha_finish ∈ lw_tg := in_t 624 (by decide +kernel)
theorem kl_Va_Ha_finish : Cond.methodLink R_Va 122 y_Ha_finish ∈ lw_tg := in_t 622 (by decide +kernel)
theorem hd_Ha_finish : y_Ha_finish.cls = R_Ha ∧ y_Ha_finish.cls ≠ "java/lang/invoke/MethodHandle" ∧ y_Ha_finish.cls ≠ "java/lang/invoke/VarHandle" ∧ (parseMethodDescriptor y_Ha_finish.desc).map (fun d => d.parameters.length) = some 0 := by decide +kernel
theorem d_Ha_finish_0 : decode b_Ha_finish 0 = .ok (.aload_n 0, 1) := by decide +kernel
theorem d_Ha_finish_1 : decode b_Ha_finish 1 = .ok (.invokevirtual 54, 3) := by decide +kernel
theorem d_Ha_finish_4 : decode b_Ha_finish 4 = .ok (.aload_n 0, 1) := by decide +kernel
theorem d_Ha_finish_5 : decode b_Ha_finish 5 = .ok (.getfield 23, 3) := by decide +kernel
theorem d_Ha_finish_8 : decode b_Ha_finish 8 = .ok (.iconst 0, 1) := by decide +kernel
theorem d_Ha_finish_9 : decode b_Ha_finish 9 = .ok (.aload_n 0, 1) := by decide +kernel
theorem d_Ha_finish_10 : decode b_Ha_finish 10 = .ok (.getfield 17, 3) := by decide +kernel
theorem d_Ha_finish_13 : decode b_Ha_finish 13 = .ok (.iconst 0, 1) := by decide +kernel
theorem d_Ha_finish_14 : decode b_Ha_finish 14 = .ok (.iconst 5, 1) := by decide +kernel
theorem d_Ha_finish_15 : decode b_Ha_finish 15 = .ok (.invokestatic 33, 3) := by decide +kernel
theorem d_Ha_finish_18 : decode b_Ha_finish 18 = .ok (.aload_n 0, 1) := by decide +kernel
theorem d_Ha_finish_19 : decode b_Ha_finish 19 = .ok (.getfield 26, 3) := by decide +kernel
theorem d_Ha_finish_22 : decode b_Ha_finish 22 = .ok (.iconst 0, 1) := by decide +kernel
theorem d_Ha_finish_23 : decode b_Ha_finish 23 = .ok (.aload_n 0, 1) := by decide +kernel
theorem d_Ha_finish_24 : decode b_Ha_finish 24 = .ok (.getfield 13, 3) := by decide +kernel
theorem d_Ha_finish_27 : decode b_Ha_finish 27 = .ok (.iconst 0, 1) := by decide +kernel
theorem d_Ha_finish_28 : decode b_Ha_finish 28 = .ok (.bipush 20, 2) := by decide +kernel
theorem d_Ha_finish_30 : decode b_Ha_finish 30 = .ok (.invokestatic 33, 3) := by decide +kernel
theorem d_Ha_finish_33 : decode b_Ha_finish 33 = .ok (.aload_n 0, 1) := by decide +kernel
theorem d_Ha_finish_34 : decode b_Ha_finish 34 = .ok (.bipush 20, 2) := by decide +kernel
theorem d_Ha_finish_36 : decode b_Ha_finish 36 = .ok (.putfield 47, 3) := by decide +kernel
theorem d_Ha_finish_39 : decode b_Ha_finish 39 = .ok (.aload_n 0, 1) := by decide +kernel
theorem d_Ha_finish_40 : decode b_Ha_finish 40 = .ok (.bipush 84, 2) := by decide +kernel
theorem d_Ha_finish_42 : decode b_Ha_finish 42 = .ok (.putfield 51, 3) := by decide +kernel
theorem d_Ha_finish_45 : decode b_Ha_finish 45 = .ok (.aload_n 0, 1) := by decide +kernel
theorem d_Ha_finish_46 : decode b_Ha_finish 46 = .ok (.invokevirtual 54, 3) := by decide +kernel
theorem d_Ha_finish_49 : decode b_Ha_finish 49 = .ok (.return_, 1) := by decide +kernel
set_option maxHeartbeats 4000000 in
set_option maxRecDepth 100000 in
theorem c_Ha_setKey (l : Launch) (D : va_G) (E : cE) (L : List Nat) (f : pF) (sz : Nat) (KN st0 : Nat) (a3 : Int32) (o wd bl sta inn out mac ky fl : Nat) (tot : Int32) (g_wd g_bl g_sta g_inn g_out g_mac g_ky : Nat → Int32) (m_o : o ∈ L) (m_wd : wd ∈ L) (m_bl : bl ∈ L) (m_sta : sta ∈ L) (m_inn : inn ∈ L) (m_out : out ∈ L) (m_mac : mac ∈ L) (m_ky : ky ∈ L) (e_o : f o = .inr (6, [.ref wd, .ref bl, .ref sta, .ref inn, .ref out, .int (nI fl), .int tot, .ref mac])) (e_wd : f wd = .inl (E.2.1, 80, .inl g_wd)) (e_bl : f bl = .inl (E.1, 64, .inl g_bl)) (e_sta : f sta = .inl (E.2.1, 5, .inl g_sta)) (e_inn : f inn = .inl (E.2.1, 5, .inl g_inn)) (e_out : f out = .inl (E.2.1, 5, .inl g_out)) (e_mac : f mac = .inl (E.1, 20, .inl g_mac)) (e_ky : f ky = .inl (E.1, KN, .inl g_ky)) (f_bl : fB g_bl) (f_mac : fB g_mac) (f_ky : fB g_ky) (ap_wd_bl : wd ≠ bl) (ap_wd_sta : wd ≠ sta) (ap_wd_inn : wd ≠ inn) (ap_wd_out : wd ≠ out) (ap_wd_mac : wd ≠ mac) (ap_wd_ky : wd ≠ ky) (ap_bl_sta : bl ≠ sta) (ap_bl_inn : bl ≠ inn) (ap_bl_out : bl ≠ out) (ap_bl_mac : bl ≠ mac) (ap_bl_ky : bl ≠ ky) (ap_sta_inn : sta ≠ inn) (ap_sta_out : sta ≠ out) (ap_sta_mac : sta ≠ mac) (ap_sta_ky : sta ≠ ky) (ap_inn_out : inn ≠ out) (ap_inn_mac : inn ≠ mac) (ap_inn_ky : inn ≠ ky) (ap_out_mac : out ≠ mac) (ap_out_ky : out ≠ ky) (ap_mac_ky : mac ≠ ky) (hh0 : KN < 100000) (hh1 : st0 < 100000) : Met l y_Ha_setKey (k_Ha_setKey :: lw_tg) (mR 2 60) (va_Pc [.ref o, .ref ky, .int (nI st0), .int a3] (cPre D E L f sz)) (va_Qv (fun (u : cU) => u.1 = L ∧ (∀ x, x ≠ wd → x ≠ bl → x ≠ sta → x ≠ inn → x ≠ out → u.2 x = f x) ∧ ∃ (g2_wd g2_bl g2_sta g2_inn g2_out : Nat → Int32), fB g2_bl ∧ u.2 wd = .inl (E.2.1, 80, .inl g2_wd) ∧ u.2 bl = .inl (E.1, 64, .inl g2_bl) ∧ u.2 sta = .inl (E.2.1, 5, .inl g2_sta) ∧ u.2 inn = .inl (E.2.1, 5, .inl g2_inn) ∧ u.2 out = .inl (E.2.1, 5, .inl g2_out)) (cPost D E (pA L sz)) (pA L sz)) 0 0 (pA L sz) := by
  refine c_enter (own := R_Ha) (by decide) rfl (Nat.le_of_ble_eq_true rfl) ⟨rfl, rfl⟩ (fun p e s m below meth c ls AV QQ H locs hQQ X Y hA hin hr hlk hml hl => ?_)
  have hl : lv_has ls 4 [(0, .ref o), (1, .ref ky), (2, .int (nI st0)), (3, .int a3)] := hl
  refine lv_aload_n X.1 X.2.1 d_Ha_setKey_0 rfl (lv_at hl 0 rfl) ?_
  refine lv_aload_n X.1 X.2.1 d_Ha_setKey_1 rfl (lv_at hl 1 rfl) ?_
  refine lv_iload_n X.1 X.2.1 d_Ha_setKey_2 rfl (lv_at hl 2 rfl) ?_
  refine lv_iload_n X.1 X.2.1 d_Ha_setKey_3 rfl (lv_at hl 3 rfl) ?_
  refine lv_bipush (v := (nI 54)) X.1 X.2.1 d_Ha_setKey_4 (by decide) ?_
  refine c_callv (As := [.ref ky, .int (nI st0), .int a3, .int (nI 54)]) (rest := []) (n := 4) X Y hA hml hl.1 (c_Ha_pad l D E L f H.size (KN) (st0) a3 (nI 54) o wd bl sta inn out mac ky (fl) (tot) g_wd g_bl g_sta g_inn g_out g_mac g_ky m_o m_wd m_bl m_sta m_inn m_out m_mac m_ky e_o e_wd e_bl e_sta e_inn e_out e_mac e_ky f_bl f_mac f_ky ap_wd_bl ap_wd_sta ap_wd_inn ap_wd_out ap_wd_mac ap_wd_ky ap_bl_sta ap_bl_inn ap_bl_out ap_bl_mac ap_bl_ky ap_sta_inn ap_sta_out ap_sta_mac ap_sta_ky ap_inn_out ap_inn_mac ap_inn_ky ap_out_mac ap_out_ky ap_mac_ky (by omega) (by omega)) m_o e_o rfl kl_Ha_Ha_pad ks_Ha_pad kx_Ha_pad ki_Ha_pad ini_Ha ⟨rfl, rfl⟩ hd_Ha_pad ⟨by decide, by decide⟩ rfl (Nat.le_of_ble_eq_true rfl) d_Ha_setKey_6 ⟨Nat.le_refl _, Nat.le_refl _⟩ (fun u H locs hp Y => ?_)
  obtain ⟨L2, f1⟩ := u
  obtain ⟨eL5, hF3, g7, g8, g9, hg10, e11, e12, e13⟩ := hp
  dsimp only at eL5 hF3 e11 e12 e13 Y
  rw [eL5] at Y
  have e14 : f1 o = .inr (6, [.ref wd, .ref bl, .ref sta, .ref inn, .ref out, .int (nI fl), .int tot, .ref mac]) := (hF3 o (q_tag e_o e_wd (show (6 : Nat) ≠ 1000 by decide)) (q_tag e_o e_bl (show (6 : Nat) ≠ 1000 by decide)) (q_tag e_o e_sta (show (6 : Nat) ≠ 1000 by decide))).trans e_o
  have e15 : f1 inn = .inl (E.2.1, 5, .inl g_inn) := (hF3 inn ap_wd_inn.symm ap_bl_inn.symm ap_sta_inn.symm).trans e_inn
  have e16 : f1 out = .inl (E.2.1, 5, .inl g_out) := (hF3 out ap_wd_out.symm ap_bl_out.symm ap_sta_out.symm).trans e_out
  have e17 : f1 mac = .inl (E.1, 20, .inl g_mac) := (hF3 mac ap_wd_mac.symm ap_bl_mac.symm ap_sta_mac.symm).trans e_mac
  have e18 : f1 ky = .inl (E.1, KN, .inl g_ky) := (hF3 ky ap_wd_ky.symm ap_bl_ky.symm ap_sta_ky.symm).trans e_ky
  have hF19 : ∀ x, x ≠ wd → x ≠ bl → x ≠ sta → x ≠ inn → x ≠ out → f1 x = f x := fun x h0 h1 h2 h3 h4 => (hF3 x h0 h1 h2).trans rfl
  refine lv_aload_n X.1 X.2.1 d_Ha_setKey_9 rfl (lv_at hl 0 rfl) ?_
  refine q_get X.1 X.2.1 X.2.2.1 i_Ha X.2.2.2.1 X.2.2.2.2 Y m_o e14 rfl 2 (by decide) (X.2.2.1 _ lk_Ha_17) (fun _ h9 => h9) rfl d_Ha_setKey_10 ?_
  refine lv_iconst (v := (nI 0)) X.1 X.2.1 d_Ha_setKey_13 (by decide) ?_
  refine lv_aload_n X.1 X.2.1 d_Ha_setKey_14 rfl (lv_at hl 0 rfl) ?_
  refine q_get X.1 X.2.1 X.2.2.1 i_Ha X.2.2.2.1 X.2.2.2.2 Y m_o e14 rfl 3 (by decide) (X.2.2.1 _ lk_Ha_20) (fun _ h9 => h9) rfl d_Ha_setKey_15 ?_
  refine lv_iconst (v := (nI 0)) X.1 X.2.1 d_Ha_setKey_18 (by decide) ?_
  refine lv_iconst (v := (nI 5)) X.1 X.2.1 d_Ha_setKey_19 (by decide) ?_
  refine q_copy X.1 X.2.1 (hml.trans hl.1.symm) X.2.2.2.1 (X.2.2.1 _ kl_Ha_copy) (X.2.2.1 _ kn_copy) (X.2.2.1 _ ks_copy) (X.2.2.1 _ ini_Sys) X.2.2.2.2 Y 1 m_sta e13 m_inn e15 rfl rfl (show 0 + 5 ≤ 5 by omega) (show 0 + 5 ≤ 5 by omega) (by omega) (by omega) (fun _ => rfl) (Nat.le_of_ble_eq_true rfl) (Nat.le_of_ble_eq_true rfl) d_Ha_setKey_20 (fun H locs Y => ?_)
  generalize (va_cpy g9 g_inn (0) (0) (5)) = g20 at Y
  have e23 : (va_up f1 inn (.inl (E.2.1, 5, .inl g20))) inn = .inl (E.2.1, 5, .inl g20) := q_up
  have e24 : (va_up f1 inn (.inl (E.2.1, 5, .inl g20))) o = .inr (6, [.ref wd, .ref bl, .ref sta, .ref inn, .ref out, .int (nI fl), .int tot, .ref mac]) := (q_ne (q_tag e14 e15 (show (6 : Nat) ≠ 1000 by decide))).trans e14
  have e25 : (va_up f1 inn (.inl (E.2.1, 5, .inl g20))) wd = .inl (E.2.1, 80, .inl g7) := (q_ne ap_wd_inn).trans e11
  have e26 : (va_up f1 inn (.inl (E.2.1, 5, .inl g20))) bl = .inl (E.1, 64, .inl g8) := (q_ne ap_bl_inn).trans e12
  have e27 : (va_up f1 inn (.inl (E.2.1, 5, .inl g20))) sta = .inl (E.2.1, 5, .inl g9) := (q_ne ap_sta_inn).trans e13
  have e28 : (va_up f1 inn (.inl (E.2.1, 5, .inl g20))) out = .inl (E.2.1, 5, .inl g_out) := (q_ne ap_inn_out.symm).trans e16
  have e29 : (va_up f1 inn (.inl (E.2.1, 5, .inl g20))) mac = .inl (E.1, 20, .inl g_mac) := (q_ne ap_inn_mac.symm).trans e17
  have e30 : (va_up f1 inn (.inl (E.2.1, 5, .inl g20))) ky = .inl (E.1, KN, .inl g_ky) := (q_ne ap_inn_ky.symm).trans e18
  have hF31 : ∀ x, x ≠ wd → x ≠ bl → x ≠ sta → x ≠ inn → x ≠ out → (va_up f1 inn (.inl (E.2.1, 5, .inl g20))) x = f x := fun x h0 h1 h2 h3 h4 => (q_ne h3).trans (hF19 x h0 h1 h2 h3 h4)
  have Y : pH D cCl (pA L sz) s.heap L (va_up f1 inn (.inl (E.2.1, 5, .inl g20))) H locs := Y
  generalize (va_up f1 inn (.inl (E.2.1, 5, .inl g20))) = f22 at Y e23 e24 e25 e26 e27 e28 e29 e30 hF31
  refine lv_aload_n X.1 X.2.1 d_Ha_setKey_23 rfl (lv_at hl 0 rfl) ?_
  refine lv_aload_n X.1 X.2.1 d_Ha_setKey_24 rfl (lv_at hl 1 rfl) ?_
  refine lv_iload_n X.1 X.2.1 d_Ha_setKey_25 rfl (lv_at hl 2 rfl) ?_
  refine lv_iload_n X.1 X.2.1 d_Ha_setKey_26 rfl (lv_at hl 3 rfl) ?_
  refine lv_bipush (v := (nI 92)) X.1 X.2.1 d_Ha_setKey_27 (by decide) ?_
  refine c_callv (As := [.ref ky, .int (nI st0), .int a3, .int (nI 92)]) (rest := []) (n := 4) X Y hA hml hl.1 (c_Ha_pad l D E L f22 H.size (KN) (st0) a3 (nI 92) o wd bl sta inn out mac ky (fl) (tot) g7 g8 g9 g20 g_out g_mac g_ky m_o m_wd m_bl m_sta m_inn m_out m_mac m_ky e24 e25 e26 e27 e23 e28 e29 e30 hg10 f_mac f_ky ap_wd_bl ap_wd_sta ap_wd_inn ap_wd_out ap_wd_mac ap_wd_ky ap_bl_sta ap_bl_inn ap_bl_out ap_bl_mac ap_bl_ky ap_sta_inn ap_sta_out ap_sta_mac ap_sta_ky ap_inn_out ap_inn_mac ap_inn_ky ap_out_mac ap_out_ky ap_mac_ky (by omega) (by omega)) m_o e24 rfl kl_Ha_Ha_pad ks_Ha_pad kx_Ha_pad ki_Ha_pad ini_Ha ⟨rfl, rfl⟩ hd_Ha_pad ⟨by decide, by decide⟩ rfl (Nat.le_of_ble_eq_true rfl) d_Ha_setKey_29 ⟨Nat.le_refl _, Nat.le_refl _⟩ (fun u H locs hp Y => ?_)
  obtain ⟨L33, f32⟩ := u
  obtain ⟨eL36, hF34, g38, g39, g40, hg41, e42, e43, e44⟩ := hp
  dsimp only at eL36 hF34 e42 e43 e44 Y
  rw [eL36] at Y
  have e45 : f32 o = .inr (6, [.ref wd, .ref bl, .ref sta, .ref inn, .ref out, .int (nI fl), .int tot, .ref mac]) := (hF34 o (q_tag e24 e25 (show (6 : Nat) ≠ 1000 by decide)) (q_tag e24 e26 (show (6 : Nat) ≠ 1000 by decide)) (q_tag e24 e27 (show (6 : Nat) ≠ 1000 by decide))).trans e24
  have e46 : f32 inn = .inl (E.2.1, 5, .inl g20) := (hF34 inn ap_wd_inn.symm ap_bl_inn.symm ap_sta_inn.symm).trans e23
  have e47 : f32 out = .inl (E.2.1, 5, .inl g_out) := (hF34 out ap_wd_out.symm ap_bl_out.symm ap_sta_out.symm).trans e28
  have e48 : f32 mac = .inl (E.1, 20, .inl g_mac) := (hF34 mac ap_wd_mac.symm ap_bl_mac.symm ap_sta_mac.symm).trans e29
  have e49 : f32 ky = .inl (E.1, KN, .inl g_ky) := (hF34 ky ap_wd_ky.symm ap_bl_ky.symm ap_sta_ky.symm).trans e30
  have hF50 : ∀ x, x ≠ wd → x ≠ bl → x ≠ sta → x ≠ inn → x ≠ out → f32 x = f x := fun x h0 h1 h2 h3 h4 => (hF34 x h0 h1 h2).trans (hF31 x h0 h1 h2 h3 h4)
  refine lv_aload_n X.1 X.2.1 d_Ha_setKey_32 rfl (lv_at hl 0 rfl) ?_
  refine q_get X.1 X.2.1 X.2.2.1 i_Ha X.2.2.2.1 X.2.2.2.2 Y m_o e45 rfl 2 (by decide) (X.2.2.1 _ lk_Ha_17) (fun _ h9 => h9) rfl d_Ha_setKey_33 ?_
  refine lv_iconst (v := (nI 0)) X.1 X.2.1 d_Ha_setKey_36 (by decide) ?_
  refine lv_aload_n X.1 X.2.1 d_Ha_setKey_37 rfl (lv_at hl 0 rfl) ?_
  refine q_get X.1 X.2.1 X.2.2.1 i_Ha X.2.2.2.1 X.2.2.2.2 Y m_o e45 rfl 4 (by decide) (X.2.2.1 _ lk_Ha_23) (fun _ h9 => h9) rfl d_Ha_setKey_38 ?_
  refine lv_iconst (v := (nI 0)) X.1 X.2.1 d_Ha_setKey_41 (by decide) ?_
  refine lv_iconst (v := (nI 5)) X.1 X.2.1 d_Ha_setKey_42 (by decide) ?_
  refine q_copy X.1 X.2.1 (hml.trans hl.1.symm) X.2.2.2.1 (X.2.2.1 _ kl_Ha_copy) (X.2.2.1 _ kn_copy) (X.2.2.1 _ ks_copy) (X.2.2.1 _ ini_Sys) X.2.2.2.2 Y 1 m_sta e44 m_out e47 rfl rfl (show 0 + 5 ≤ 5 by omega) (show 0 + 5 ≤ 5 by omega) (by omega) (by omega) (fun _ => rfl) (Nat.le_of_ble_eq_true rfl) (Nat.le_of_ble_eq_true rfl) d_Ha_setKey_43 (fun H locs Y => ?_)
  generalize (va_cpy g40 g_out (0) (0) (5)) = g51 at Y
  have e54 : (va_up f32 out (.inl (E.2.1, 5, .inl g51))) out = .inl (E.2.1, 5, .inl g51) := q_up
  have e55 : (va_up f32 out (.inl (E.2.1, 5, .inl g51))) o = .inr (6, [.ref wd, .ref bl, .ref sta, .ref inn, .ref out, .int (nI fl), .int tot, .ref mac]) := (q_ne (q_tag e45 e47 (show (6 : Nat) ≠ 1000 by decide))).trans e45
  have e56 : (va_up f32 out (.inl (E.2.1, 5, .inl g51))) wd = .inl (E.2.1, 80, .inl g38) := (q_ne ap_wd_out).trans e42
  have e57 : (va_up f32 out (.inl (E.2.1, 5, .inl g51))) bl = .inl (E.1, 64, .inl g39) := (q_ne ap_bl_out).trans e43
  have e58 : (va_up f32 out (.inl (E.2.1, 5, .inl g51))) sta = .inl (E.2.1, 5, .inl g40) := (q_ne ap_sta_out).trans e44
  have e59 : (va_up f32 out (.inl (E.2.1, 5, .inl g51))) inn = .inl (E.2.1, 5, .inl g20) := (q_ne ap_inn_out).trans e46
  have e60 : (va_up f32 out (.inl (E.2.1, 5, .inl g51))) mac = .inl (E.1, 20, .inl g_mac) := (q_ne ap_out_mac.symm).trans e48
  have e61 : (va_up f32 out (.inl (E.2.1, 5, .inl g51))) ky = .inl (E.1, KN, .inl g_ky) := (q_ne ap_out_ky.symm).trans e49
  have hF62 : ∀ x, x ≠ wd → x ≠ bl → x ≠ sta → x ≠ inn → x ≠ out → (va_up f32 out (.inl (E.2.1, 5, .inl g51))) x = f x := fun x h0 h1 h2 h3 h4 => (q_ne h4).trans (hF50 x h0 h1 h2 h3 h4)
  have Y : pH D cCl (pA L sz) s.heap L (va_up f32 out (.inl (E.2.1, 5, .inl g51))) H locs := Y
  generalize (va_up f32 out (.inl (E.2.1, 5, .inl g51))) = f53 at Y e54 e55 e56 e57 e58 e59 e60 e61 hF62
  exact c_retv hQQ X Y hr hlk ⟨rfl, hF62, g38, g39, g40, g20, g51, hg41, e56, e57, e58, e59, e54⟩ d_Ha_setKey_46
set_option maxHeartbeats 4000000 in
set_option maxRecDepth 100000 in
theorem c_Ha_finish (l : Launch) (D : va_G) (E : cE) (L : List Nat) (f : pF) (sz : Nat) (o wd bl sta inn out mac fl : Nat) (tot : Int32) (g_wd g_bl g_sta g_inn g_out g_mac : Nat → Int32) (m_o : o ∈ L) (m_wd : wd ∈ L) (m_bl : bl ∈ L) (m_sta : sta ∈ L) (m_inn : inn ∈ L) (m_out : out ∈ L) (m_mac : mac ∈ L) (e_o : f o = .inr (6, [.ref wd, .ref bl, .ref sta, .ref inn, .ref out, .int (nI fl), .int tot, .ref mac])) (e_wd : f wd = .inl (E.2.1, 80, .inl g_wd)) (e_bl : f bl = .inl (E.1, 64, .inl g_bl)) (e_sta : f sta = .inl (E.2.1, 5, .inl g_sta)) (e_inn : f inn = .inl (E.2.1, 5, .inl g_inn)) (e_out : f out = .inl (E.2.1, 5, .inl g_out)) (e_mac : f mac = .inl (E.1, 20, .inl g_mac)) (f_bl : fB g_bl) (f_mac : fB g_mac) (ap_wd_bl : wd ≠ bl) (ap_wd_sta : wd ≠ sta) (ap_wd_inn : wd ≠ inn) (ap_wd_out : wd ≠ out) (ap_wd_mac : wd ≠ mac) (ap_bl_sta : bl ≠ sta) (ap_bl_inn : bl ≠ inn) (ap_bl_out : bl ≠ out) (ap_bl_mac : bl ≠ mac) (ap_sta_inn : sta ≠ inn) (ap_sta_out : sta ≠ out) (ap_sta_mac : sta ≠ mac) (ap_inn_out : inn ≠ out) (ap_inn_mac : inn ≠ mac) (ap_out_mac : out ≠ mac) (hh0 : fl < 64) : Met l y_Ha_finish (k_Ha_finish :: lw_tg) (mR 2 60) (va_Pc [.ref o] (cPre D E L f sz)) (va_Qv (fun (u : cU) => u.1 = L ∧ (∀ x, x ≠ o → x ≠ wd → x ≠ bl → x ≠ sta → x ≠ mac → u.2 x = f x) ∧ ∃ (fl2 : Nat) (tot2 : Int32) (g2_wd g2_bl g2_sta g2_mac : Nat → Int32), fB g2_bl ∧ fB g2_mac ∧ fl2 = 20 ∧ u.2 o = .inr (6, [.ref wd, .ref bl, .ref sta, .ref inn, .ref out, .int (nI fl2), .int tot2, .ref mac]) ∧ u.2 wd = .inl (E.2.1, 80, .inl g2_wd) ∧ u.2 bl = .inl (E.1, 64, .inl g2_bl) ∧ u.2 sta = .inl (E.2.1, 5, .inl g2_sta) ∧ u.2 mac = .inl (E.1, 20, .inl g2_mac)) (cPost D E (pA L sz)) (pA L sz)) 0 0 (pA L sz) := by
  refine c_enter (own := R_Ha) (by decide) rfl (Nat.le_of_ble_eq_true rfl) ⟨rfl, rfl⟩ (fun p e s m below meth c ls AV QQ H locs hQQ X Y hA hin hr hlk hml hl => ?_)
  have hl : lv_has ls 1 [(0, .ref o)] := hl
  refine lv_aload_n X.1 X.2.1 d_Ha_finish_0 rfl (lv_at hl 0 rfl) ?_
  refine c_callv (As := []) (rest := []) (n := 0) X Y hA hml hl.1 (c_Ha_close l D E L f H.size  o wd bl sta inn out mac (fl) (tot) g_wd g_bl g_sta g_inn g_out g_mac m_o m_wd m_bl m_sta m_inn m_out m_mac e_o e_wd e_bl e_sta e_inn e_out e_mac f_bl f_mac ap_wd_bl ap_wd_sta ap_wd_inn ap_wd_out ap_wd_mac ap_bl_sta ap_bl_inn ap_bl_out ap_bl_mac ap_sta_inn ap_sta_out ap_sta_mac ap_inn_out ap_inn_mac ap_out_mac (by omega)) m_o e_o rfl kl_Ha_Ha_close ks_Ha_close kx_Ha_close ki_Ha_close ini_Ha ⟨rfl, rfl⟩ hd_Ha_close ⟨by decide, by decide⟩ rfl (Nat.le_of_ble_eq_true rfl) d_Ha_finish_1 ⟨Nat.le_refl _, Nat.le_refl _⟩ (fun u H locs hp Y => ?_)
  obtain ⟨L2, f1⟩ := u
  obtain ⟨eL5, hF3, g7, g8, g9, g10, hg11, hg12, e13, e14, e15, e16⟩ := hp
  dsimp only at eL5 hF3 e13 e14 e15 e16 Y
  rw [eL5] at Y
  have e17 : f1 o = .inr (6, [.ref wd, .ref bl, .ref sta, .ref inn, .ref out, .int (nI fl), .int tot, .ref mac]) := (hF3 o (q_tag e_o e_wd (show (6 : Nat) ≠ 1000 by decide)) (q_tag e_o e_bl (show (6 : Nat) ≠ 1000 by decide)) (q_tag e_o e_sta (show (6 : Nat) ≠ 1000 by decide)) (q_tag e_o e_mac (show (6 : Nat) ≠ 1000 by decide))).trans e_o
  have e18 : f1 inn = .inl (E.2.1, 5, .inl g_inn) := (hF3 inn ap_wd_inn.symm ap_bl_inn.symm ap_sta_inn.symm ap_inn_mac).trans e_inn
  have e19 : f1 out = .inl (E.2.1, 5, .inl g_out) := (hF3 out ap_wd_out.symm ap_bl_out.symm ap_sta_out.symm ap_out_mac).trans e_out
  have hF20 : ∀ x, x ≠ o → x ≠ wd → x ≠ bl → x ≠ sta → x ≠ mac → f1 x = f x := fun x h0 h1 h2 h3 h4 => (hF3 x h1 h2 h3 h4).trans rfl
  refine lv_aload_n X.1 X.2.1 d_Ha_finish_4 rfl (lv_at hl 0 rfl) ?_
  refine q_get X.1 X.2.1 X.2.2.1 i_Ha X.2.2.2.1 X.2.2.2.2 Y m_o e17 rfl 4 (by decide) (X.2.2.1 _ lk_Ha_23) (fun _ h9 => h9) rfl d_Ha_finish_5 ?_
  refine lv_iconst (v := (nI 0)) X.1 X.2.1 d_Ha_finish_8 (by decide) ?_
  refine lv_aload_n X.1 X.2.1 d_Ha_finish_9 rfl (lv_at hl 0 rfl) ?_
  refine q_get X.1 X.2.1 X.2.2.1 i_Ha X.2.2.2.1 X.2.2.2.2 Y m_o e17 rfl 2 (by decide) (X.2.2.1 _ lk_Ha_17) (fun _ h9 => h9) rfl d_Ha_finish_10 ?_
  refine lv_iconst (v := (nI 0)) X.1 X.2.1 d_Ha_finish_13 (by decide) ?_
  refine lv_iconst (v := (nI 5)) X.1 X.2.1 d_Ha_finish_14 (by decide) ?_
  refine q_copy X.1 X.2.1 (hml.trans hl.1.symm) X.2.2.2.1 (X.2.2.1 _ kl_Ha_copy) (X.2.2.1 _ kn_copy) (X.2.2.1 _ ks_copy) (X.2.2.1 _ ini_Sys) X.2.2.2.2 Y 1 m_out e19 m_sta e15 rfl rfl (show 0 + 5 ≤ 5 by omega) (show 0 + 5 ≤ 5 by omega) (by omega) (by omega) (fun _ => rfl) (Nat.le_of_ble_eq_true rfl) (Nat.le_of_ble_eq_true rfl) d_Ha_finish_15 (fun H locs Y => ?_)
  generalize (va_cpy g_out g9 (0) (0) (5)) = g21 at Y
  have e24 : (va_up f1 sta (.inl (E.2.1, 5, .inl g21))) sta = .inl (E.2.1, 5, .inl g21) := q_up
  have e25 : (va_up f1 sta (.inl (E.2.1, 5, .inl g21))) o = .inr (6, [.ref wd, .ref bl, .ref sta, .ref inn, .ref out, .int (nI fl), .int tot, .ref mac]) := (q_ne (q_tag e17 e15 (show (6 : Nat) ≠ 1000 by decide))).trans e17
  have e26 : (va_up f1 sta (.inl (E.2.1, 5, .inl g21))) wd = .inl (E.2.1, 80, .inl g7) := (q_ne ap_wd_sta).trans e13
  have e27 : (va_up f1 sta (.inl (E.2.1, 5, .inl g21))) bl = .inl (E.1, 64, .inl g8) := (q_ne ap_bl_sta).trans e14
  have e28 : (va_up f1 sta (.inl (E.2.1, 5, .inl g21))) inn = .inl (E.2.1, 5, .inl g_inn) := (q_ne ap_sta_inn.symm).trans e18
  have e29 : (va_up f1 sta (.inl (E.2.1, 5, .inl g21))) out = .inl (E.2.1, 5, .inl g_out) := (q_ne ap_sta_out.symm).trans e19
  have e30 : (va_up f1 sta (.inl (E.2.1, 5, .inl g21))) mac = .inl (E.1, 20, .inl g10) := (q_ne ap_sta_mac.symm).trans e16
  have hF31 : ∀ x, x ≠ o → x ≠ wd → x ≠ bl → x ≠ sta → x ≠ mac → (va_up f1 sta (.inl (E.2.1, 5, .inl g21))) x = f x := fun x h0 h1 h2 h3 h4 => (q_ne h3).trans (hF20 x h0 h1 h2 h3 h4)
  have Y : pH D cCl (pA L sz) s.heap L (va_up f1 sta (.inl (E.2.1, 5, .inl g21))) H locs := Y
  generalize (va_up f1 sta (.inl (E.2.1, 5, .inl g21))) = f23 at Y e24 e25 e26 e27 e28 e29 e30 hF31
  refine lv_aload_n X.1 X.2.1 d_Ha_finish_18 rfl (lv_at hl 0 rfl) ?_
  refine q_get X.1 X.2.1 X.2.2.1 i_Ha X.2.2.2.1 X.2.2.2.2 Y m_o e25 rfl 7 (by decide) (X.2.2.1 _ lk_Ha_26) (fun _ h9 => h9) rfl d_Ha_finish_19 ?_
  refine lv_iconst (v := (nI 0)) X.1 X.2.1 d_Ha_finish_22 (by decide) ?_
  refine lv_aload_n X.1 X.2.1 d_Ha_finish_23 rfl (lv_at hl 0 rfl) ?_
  refine q_get X.1 X.2.1 X.2.2.1 i_Ha X.2.2.2.1 X.2.2.2.2 Y m_o e25 rfl 1 (by decide) (X.2.2.1 _ lk_Ha_13) (fun _ h9 => h9) rfl d_Ha_finish_24 ?_
  refine lv_iconst (v := (nI 0)) X.1 X.2.1 d_Ha_finish_27 (by decide) ?_
  refine lv_bipush (v := (nI 20)) X.1 X.2.1 d_Ha_finish_28 (by decide) ?_
  refine q_copy X.1 X.2.1 (hml.trans hl.1.symm) X.2.2.2.1 (X.2.2.1 _ kl_Ha_copy) (X.2.2.1 _ kn_copy) (X.2.2.1 _ ks_copy) (X.2.2.1 _ ini_Sys) X.2.2.2.2 Y 0 m_mac e30 m_bl e27 rfl rfl (show 0 + 20 ≤ 20 by omega) (show 0 + 20 ≤ 64 by omega) (by omega) (by omega) hg12 (Nat.le_of_ble_eq_true rfl) (Nat.le_of_ble_eq_true rfl) d_Ha_finish_30 (fun H locs Y => ?_)
  have hg33 : fB (va_cpy g10 g8 (0) (0) (20)) := fB_cpy hg12 hg11
  generalize (va_cpy g10 g8 (0) (0) (20)) = g32 at Y hg33
  have e35 : (va_up f23 bl (.inl (E.1, 64, .inl g32))) bl = .inl (E.1, 64, .inl g32) := q_up
  have e36 : (va_up f23 bl (.inl (E.1, 64, .inl g32))) o = .inr (6, [.ref wd, .ref bl, .ref sta, .ref inn, .ref out, .int (nI fl), .int tot, .ref mac]) := (q_ne (q_tag e25 e27 (show (6 : Nat) ≠ 1000 by decide))).trans e25
  have e37 : (va_up f23 bl (.inl (E.1, 64, .inl g32))) wd = .inl (E.2.1, 80, .inl g7) := (q_ne ap_wd_bl).trans e26
  have e38 : (va_up f23 bl (.inl (E.1, 64, .inl g32))) sta = .inl (E.2.1, 5, .inl g21) := (q_ne ap_bl_sta.symm).trans e24
  have e39 : (va_up f23 bl (.inl (E.1, 64, .inl g32))) inn = .inl (E.2.1, 5, .inl g_inn) := (q_ne ap_bl_inn.symm).trans e28
  have e40 : (va_up f23 bl (.inl (E.1, 64, .inl g32))) out = .inl (E.2.1, 5, .inl g_out) := (q_ne ap_bl_out.symm).trans e29
  have e41 : (va_up f23 bl (.inl (E.1, 64, .inl g32))) mac = .inl (E.1, 20, .inl g10) := (q_ne ap_bl_mac.symm).trans e30
  have hF42 : ∀ x, x ≠ o → x ≠ wd → x ≠ bl → x ≠ sta → x ≠ mac → (va_up f23 bl (.inl (E.1, 64, .inl g32))) x = f x := fun x h0 h1 h2 h3 h4 => (q_ne h2).trans (hF31 x h0 h1 h2 h3 h4)
  have Y : pH D cCl (pA L sz) s.heap L (va_up f23 bl (.inl (E.1, 64, .inl g32))) H locs := Y
  generalize (va_up f23 bl (.inl (E.1, 64, .inl g32))) = f34 at Y e35 e36 e37 e38 e39 e40 e41 hF42
  refine lv_aload_n X.1 X.2.1 d_Ha_finish_33 rfl (lv_at hl 0 rfl) ?_
  refine lv_bipush (v := (nI 20)) X.1 X.2.1 d_Ha_finish_34 (by decide) ?_
  refine q_put X.1 X.2.1 X.2.2.1 i_Ha t_Ha t_Ha_ok n_Ha X.2.2.2.1 X.2.2.2.2 Y m_o e36 rfl 5 (by decide) (X.2.2.1 _ lk_Ha_47) (fun _ h9 => h9) rfl (t_Ha_ok 5 (by decide)) rfl rfl (Nat.le_of_ble_eq_true rfl) d_Ha_finish_36 (fun H locs Y => ?_)
  have e44 : (va_up f34 o (.inr (6, [.ref wd, .ref bl, .ref sta, .ref inn, .ref out, .int (nI 20), .int tot, .ref mac]))) o = .inr (6, [.ref wd, .ref bl, .ref sta, .ref inn, .ref out, .int (nI 20), .int tot, .ref mac]) := q_up
  have e45 : (va_up f34 o (.inr (6, [.ref wd, .ref bl, .ref sta, .ref inn, .ref out, .int (nI 20), .int tot, .ref mac]))) wd = .inl (E.2.1, 80, .inl g7) := (q_ne (q_tag e37 e36 (show (1000 : Nat) ≠ 6 by decide))).trans e37
  have e46 : (va_up f34 o (.inr (6, [.ref wd, .ref bl, .ref sta, .ref inn, .ref out, .int (nI 20), .int tot, .ref mac]))) bl = .inl (E.1, 64, .inl g32) := (q_ne (q_tag e35 e36 (show (1000 : Nat) ≠ 6 by decide))).trans e35
  have e47 : (va_up f34 o (.inr (6, [.ref wd, .ref bl, .ref sta, .ref inn, .ref out, .int (nI 20), .int tot, .ref mac]))) sta = .inl (E.2.1, 5, .inl g21) := (q_ne (q_tag e38 e36 (show (1000 : Nat) ≠ 6 by decide))).trans e38
  have e48 : (va_up f34 o (.inr (6, [.ref wd, .ref bl, .ref sta, .ref inn, .ref out, .int (nI 20), .int tot, .ref mac]))) inn = .inl (E.2.1, 5, .inl g_inn) := (q_ne (q_tag e39 e36 (show (1000 : Nat) ≠ 6 by decide))).trans e39
  have e49 : (va_up f34 o (.inr (6, [.ref wd, .ref bl, .ref sta, .ref inn, .ref out, .int (nI 20), .int tot, .ref mac]))) out = .inl (E.2.1, 5, .inl g_out) := (q_ne (q_tag e40 e36 (show (1000 : Nat) ≠ 6 by decide))).trans e40
  have e50 : (va_up f34 o (.inr (6, [.ref wd, .ref bl, .ref sta, .ref inn, .ref out, .int (nI 20), .int tot, .ref mac]))) mac = .inl (E.1, 20, .inl g10) := (q_ne (q_tag e41 e36 (show (1000 : Nat) ≠ 6 by decide))).trans e41
  have hF51 : ∀ x, x ≠ o → x ≠ wd → x ≠ bl → x ≠ sta → x ≠ mac → (va_up f34 o (.inr (6, [.ref wd, .ref bl, .ref sta, .ref inn, .ref out, .int (nI 20), .int tot, .ref mac]))) x = f x := fun x h0 h1 h2 h3 h4 => (q_ne h0).trans (hF42 x h0 h1 h2 h3 h4)
  have Y : pH D cCl (pA L sz) s.heap L (va_up f34 o (.inr (6, [.ref wd, .ref bl, .ref sta, .ref inn, .ref out, .int (nI 20), .int tot, .ref mac]))) H locs := Y
  generalize (va_up f34 o (.inr (6, [.ref wd, .ref bl, .ref sta, .ref inn, .ref out, .int (nI 20), .int tot, .ref mac]))) = f43 at Y e44 e45 e46 e47 e48 e49 e50 hF51
  refine lv_aload_n X.1 X.2.1 d_Ha_finish_39 rfl (lv_at hl 0 rfl) ?_
  refine lv_bipush (v := (nI 84)) X.1 X.2.1 d_Ha_finish_40 (by decide) ?_
  refine q_put X.1 X.2.1 X.2.2.1 i_Ha t_Ha t_Ha_ok n_Ha X.2.2.2.1 X.2.2.2.2 Y m_o e44 rfl 6 (by decide) (X.2.2.1 _ lk_Ha_51) (fun _ h9 => h9) rfl (t_Ha_ok 6 (by decide)) rfl rfl (Nat.le_of_ble_eq_true rfl) d_Ha_finish_42 (fun H locs Y => ?_)
  have e53 : (va_up f43 o (.inr (6, [.ref wd, .ref bl, .ref sta, .ref inn, .ref out, .int (nI 20), .int (nI 84), .ref mac]))) o = .inr (6, [.ref wd, .ref bl, .ref sta, .ref inn, .ref out, .int (nI 20), .int (nI 84), .ref mac]) := q_up
  have e54 : (va_up f43 o (.inr (6, [.ref wd, .ref bl, .ref sta, .ref inn, .ref out, .int (nI 20), .int (nI 84), .ref mac]))) wd = .inl (E.2.1, 80, .inl g7) := (q_ne (q_tag e45 e44 (show (1000 : Nat) ≠ 6 by decide))).trans e45
  have e55 : (va_up f43 o (.inr (6, [.ref wd, .ref bl, .ref sta, .ref inn, .ref out, .int (nI 20), .int (nI 84), .ref mac]))) bl = .inl (E.1, 64, .inl g32) := (q_ne (q_tag e46 e44 (show (1000 : Nat) ≠ 6 by decide))).trans e46
  have e56 : (va_up f43 o (.inr (6, [.ref wd, .ref bl, .ref sta, .ref inn, .ref out, .int (nI 20), .int (nI 84), .ref mac]))) sta = .inl (E.2.1, 5, .inl g21) := (q_ne (q_tag e47 e44 (show (1000 : Nat) ≠ 6 by decide))).trans e47
  have e57 : (va_up f43 o (.inr (6, [.ref wd, .ref bl, .ref sta, .ref inn, .ref out, .int (nI 20), .int (nI 84), .ref mac]))) inn = .inl (E.2.1, 5, .inl g_inn) := (q_ne (q_tag e48 e44 (show (1000 : Nat) ≠ 6 by decide))).trans e48
  have e58 : (va_up f43 o (.inr (6, [.ref wd, .ref bl, .ref sta, .ref inn, .ref out, .int (nI 20), .int (nI 84), .ref mac]))) out = .inl (E.2.1, 5, .inl g_out) := (q_ne (q_tag e49 e44 (show (1000 : Nat) ≠ 6 by decide))).trans e49
  have e59 : (va_up f43 o (.inr (6, [.ref wd, .ref bl, .ref sta, .ref inn, .ref out, .int (nI 20), .int (nI 84), .ref mac]))) mac = .inl (E.1, 20, .inl g10) := (q_ne (q_tag e50 e44 (show (1000 : Nat) ≠ 6 by decide))).trans e50
  have hF60 : ∀ x, x ≠ o → x ≠ wd → x ≠ bl → x ≠ sta → x ≠ mac → (va_up f43 o (.inr (6, [.ref wd, .ref bl, .ref sta, .ref inn, .ref out, .int (nI 20), .int (nI 84), .ref mac]))) x = f x := fun x h0 h1 h2 h3 h4 => (q_ne h0).trans (hF51 x h0 h1 h2 h3 h4)
  have Y : pH D cCl (pA L sz) s.heap L (va_up f43 o (.inr (6, [.ref wd, .ref bl, .ref sta, .ref inn, .ref out, .int (nI 20), .int (nI 84), .ref mac]))) H locs := Y
  generalize (va_up f43 o (.inr (6, [.ref wd, .ref bl, .ref sta, .ref inn, .ref out, .int (nI 20), .int (nI 84), .ref mac]))) = f52 at Y e53 e54 e55 e56 e57 e58 e59 hF60
  refine lv_aload_n X.1 X.2.1 d_Ha_finish_45 rfl (lv_at hl 0 rfl) ?_
  refine c_callv (As := []) (rest := []) (n := 0) X Y hA hml hl.1 (c_Ha_close l D E L f52 H.size  o wd bl sta inn out mac (20) ((nI 84)) g7 g32 g21 g_inn g_out g10 m_o m_wd m_bl m_sta m_inn m_out m_mac e53 e54 e55 e56 e57 e58 e59 hg33 hg12 ap_wd_bl ap_wd_sta ap_wd_inn ap_wd_out ap_wd_mac ap_bl_sta ap_bl_inn ap_bl_out ap_bl_mac ap_sta_inn ap_sta_out ap_sta_mac ap_inn_out ap_inn_mac ap_out_mac (by omega)) m_o e53 rfl kl_Ha_Ha_close ks_Ha_close kx_Ha_close ki_Ha_close ini_Ha ⟨rfl, rfl⟩ hd_Ha_close ⟨by decide, by decide⟩ rfl (Nat.le_of_ble_eq_true rfl) d_Ha_finish_46 ⟨Nat.le_refl _, Nat.le_refl _⟩ (fun u H locs hp Y => ?_)
  obtain ⟨L62, f61⟩ := u
  obtain ⟨eL65, hF63, g67, g68, g69, g70, hg71, hg72, e73, e74, e75, e76⟩ := hp
  dsimp only at eL65 hF63 e73 e74 e75 e76 Y
  rw [eL65] at Y
  have e77 : f61 o = .inr (6, [.ref wd, .ref bl, .ref sta, .ref inn, .ref out, .int (nI 20), .int (nI 84), .ref mac]) := (hF63 o (q_tag e53 e54 (show (6 : Nat) ≠ 1000 by decide)) (q_tag e53 e55 (show (6 : Nat) ≠ 1000 by decide)) (q_tag e53 e56 (show (6 : Nat) ≠ 1000 by decide)) (q_tag e53 e59 (show (6 : Nat) ≠ 1000 by decide))).trans e53
  have e78 : f61 inn = .inl (E.2.1, 5, .inl g_inn) := (hF63 inn ap_wd_inn.symm ap_bl_inn.symm ap_sta_inn.symm ap_inn_mac).trans e57
  have e79 : f61 out = .inl (E.2.1, 5, .inl g_out) := (hF63 out ap_wd_out.symm ap_bl_out.symm ap_sta_out.symm ap_out_mac).trans e58
  have hF80 : ∀ x, x ≠ o → x ≠ wd → x ≠ bl → x ≠ sta → x ≠ mac → f61 x = f x := fun x h0 h1 h2 h3 h4 => (hF63 x h1 h2 h3 h4).trans (hF60 x h0 h1 h2 h3 h4)
  exact c_retv hQQ X Y hr hlk ⟨rfl, hF80, 20, (nI 84), g67, g68, g69, g70, hg71, hg72, (by omega), e77, e73, e74, e75, e76⟩ d_Ha_finish_49
set_option maxHeartbeats 4000000 in
set_option maxRecDepth 100000 in
theorem c_Ha_add (l : Launch) (D : va_G) (E : cE) (L : List Nat) (f : pF) (sz : Nat) (KN : Nat) (a2 a3 : Int32) (o wd bl sta inn out mac ky fl : Nat) (tot : Int32) (g_wd g_bl g_sta g_inn g_out g_mac g_ky : Nat → Int32) (m_o : o ∈ L) (m_wd : wd ∈ L) (m_bl : bl ∈ L) (m_sta : sta ∈ L) (m_inn : inn ∈ L) (m_out : out ∈ L) (m_mac : mac ∈ L) (m_ky : ky ∈ L) (e_o : f o = .inr (6, [.ref wd, .ref bl, .ref sta, .ref inn, .ref out, .int (nI fl), .int tot, .ref mac])) (e_wd : f wd = .inl (E.2.1, 80, .inl g_wd)) (e_bl : f bl = .inl (E.1, 64, .inl g_bl)) (e_sta : f sta = .inl (E.2.1, 5, .inl g_sta)) (e_inn : f inn = .inl (E.2.1, 5, .inl g_inn)) (e_out : f out = .inl (E.2.1, 5, .inl g_out)) (e_mac : f mac = .inl (E.1, 20, .inl g_mac)) (e_ky : f ky = .inl (E.1, KN, .inl g_ky)) (f_bl : fB g_bl) (f_mac : fB g_mac) (f_ky : fB g_ky) (ap_wd_bl : wd ≠ bl) (ap_wd_sta : wd ≠ sta) (ap_wd_inn : wd ≠ inn) (ap_wd_out : wd ≠ out) (ap_wd_mac : wd ≠ mac) (ap_wd_ky : wd ≠ ky) (ap_bl_sta : bl ≠ sta) (ap_bl_inn : bl ≠ inn) (ap_bl_out : bl ≠ out) (ap_bl_mac : bl ≠ mac) (ap_bl_ky : bl ≠ ky) (ap_sta_inn : sta ≠ inn) (ap_sta_out : sta ≠ out) (ap_sta_mac : sta ≠ mac) (ap_sta_ky : sta ≠ ky) (ap_inn_out : inn ≠ out) (ap_inn_mac : inn ≠ mac) (ap_inn_ky : inn ≠ ky) (ap_out_mac : out ≠ mac) (ap_out_ky : out ≠ ky) (ap_mac_ky : mac ≠ ky) (hh0 : KN < 100000) (hh1 : fl < 64) : Met l y_Ha_add (k_Ha_add :: lw_tg) (mR 1 28) (va_Pc [.ref o, .ref ky, .int a2, .int a3] (cPre D E L f sz)) (va_Qv (fun (u : cU) => u.1 = L ∧ (∀ x, x ≠ o → x ≠ wd → x ≠ bl → x ≠ sta → u.2 x = f x) ∧ ∃ (fl2 : Nat) (tot2 : Int32) (g2_wd g2_bl g2_sta : Nat → Int32), fB g2_bl ∧ fl2 < 64 ∧ u.2 o = .inr (6, [.ref wd, .ref bl, .ref sta, .ref inn, .ref out, .int (nI fl2), .int tot2, .ref mac]) ∧ u.2 wd = .inl (E.2.1, 80, .inl g2_wd) ∧ u.2 bl = .inl (E.1, 64, .inl g2_bl) ∧ u.2 sta = .inl (E.2.1, 5, .inl g2_sta)) (cPost D E (pA L sz)) (pA L sz)) 0 0 (pA L sz) := by
  refine c_enter (own := R_Ha) (by decide) rfl (Nat.le_of_ble_eq_true rfl) ⟨rfl, rfl⟩ (fun p e s m below meth c ls AV QQ H locs hQQ X Y hA hin hr hlk hml hl => ?_)
  have hl : lv_has ls 5 [(0, .ref o), (1, .ref ky), (2, .int a2), (3, .int a3)] := hl
  refine lv_iload_n X.1 X.2.1 d_Ha_add_0 rfl (lv_at hl 2 rfl) ?_
  refine lv_if_lt (tgt := 16) X.1 X.2.1 d_Ha_add_1 (by decide) (fun c1 => ?_) (fun c1 => ?_)
  · skip
    exact c_retv hQQ X Y hr hlk ⟨rfl, (fun _ _ _ _ _ => rfl), fl, tot, g_wd, g_bl, g_sta, f_bl, (by omega), e_o, e_wd, e_bl, e_sta⟩ d_Ha_add_16
  · skip
    refine lv_iload_n X.1 X.2.1 d_Ha_add_4 rfl (lv_at hl 3 rfl) ?_
    refine lv_if_lt (tgt := 16) X.1 X.2.1 d_Ha_add_5 (by decide) (fun c2 => ?_) (fun c2 => ?_)
    · skip
      exact c_retv hQQ X Y hr hlk ⟨rfl, (fun _ _ _ _ _ => rfl), fl, tot, g_wd, g_bl, g_sta, f_bl, (by omega), e_o, e_wd, e_bl, e_sta⟩ d_Ha_add_16
    · skip
      obtain ⟨k2, hk2, ek2⟩ := nI_of c1
      obtain ⟨k3, hk3, ek3⟩ := nI_of c2
      refine lv_iload_n X.1 X.2.1 d_Ha_add_8 rfl (lv_at hl 3 rfl) ?_
      refine t_eq ek3 ?_
      refine lv_aload_n X.1 X.2.1 d_Ha_add_9 rfl (lv_at hl 1 rfl) ?_
      refine q_alen X.1 X.2.1 X.2.2.2.2 Y 0 m_ky e_ky rfl (v := nI (KN)) rfl d_Ha_add_10 ?_
      refine lv_iload_n X.1 X.2.1 d_Ha_add_11 rfl (lv_at hl 2 rfl) ?_
      refine t_eq ek2 ?_
      refine lv_isub X.1 X.2.1 d_Ha_add_12 ?_
      refine lv_icmp_le (tgt := 17) X.1 X.2.1 d_Ha_add_13 (by decide) (fun c3 => ?_) (fun c3 => ?_)
      · skip
        have hle : k2 + k3 ≤ KN := le_sub (by omega) hk2 hk3 (Int32.not_lt.mpr c3)
        refine lv_iload_n X.1 X.2.1 d_Ha_add_17 rfl (lv_at hl 2 rfl) ?_
        refine t_eq ek2 ?_
        refine lv_istore (lv' := [(4, .int (nI k2)), (0, .ref o), (1, .ref ky), (2, .int a2), (3, .int a3)]) X.1 X.2.1 d_Ha_add_18 hl (by decide) rfl (fun ls hl => ?_)
        have lp4 : ∀ (n5 i n10 : Nat) (y11 : Int32) (g13 : Nat → Int32) (g15 : Nat → Int32) (g18 : Nat → Int32) (f7 : pF) (H : Heap) (locs : List Loc) (ls : Array Slot), (k2 + k3) - i = n5 → (k2 ≤ i) → (i ≤ k2 + k3) → ((n10) < 64) → fB g15 → f7 o = .inr (6, [.ref wd, .ref bl, .ref sta, .ref inn, .ref out, .int (nI n10), .int y11, .ref mac]) → f7 wd = .inl (E.2.1, 80, .inl g13) → f7 bl = .inl (E.1, 64, .inl g15) → f7 sta = .inl (E.2.1, 5, .inl g18) → f7 inn = .inl (E.2.1, 5, .inl g_inn) → f7 out = .inl (E.2.1, 5, .inl g_out) → f7 mac = .inl (E.1, 20, .inl g_mac) → f7 ky = .inl (E.1, KN, .inl g_ky) → (∀ x, x ≠ o → x ≠ wd → x ≠ bl → x ≠ sta → f7 x = f x) → pH D cCl (pA L sz) s.heap L f7 H locs → lv_has ls 5 [(4, .int (nI i)), (0, .ref o), (1, .ref ky), (2, .int a2), (3, .int a3)] → W p l e (mR 1 28) s m AV below meth c H locs 0 0 QQ (F0 m 20 ls []) := by
          intro n5
          induction n5 with
          | zero =>
            intro i n10 y11 g13 g15 g18 f7 H locs ls hm26 hc23 hc24 hc25 hg16 e9 e12 e14 e17 e19 e20 e21 e22 hF8 Y hl
            refine lv_iload X.1 X.2.1 d_Ha_add_20 (lv_at hl 0 rfl) ?_
            refine lv_iload_n X.1 X.2.1 d_Ha_add_22 rfl (lv_at hl 3 rfl) ?_
            refine t_eq ek2 ?_
            refine lv_iload_n X.1 X.2.1 d_Ha_add_23 rfl (lv_at hl 4 rfl) ?_
            refine t_eq ek3 ?_
            refine lv_iadd X.1 X.2.1 d_Ha_add_24 ?_
            refine t_eq (y := nI (k2 + k3)) (nI_add _ _) ?_
            refine lv_icmp_ge (tgt := 75) X.1 X.2.1 d_Ha_add_25 (by decide) (fun c27 => ?_) (fun c27 => absurd ?_ c27)
            rotate_left
            · (rw [nI_leI (by omega) (by omega)] <;> omega)
            rw [nI_leI (by omega) (by omega)] at c27
            refine lv_aload_n X.1 X.2.1 d_Ha_add_75 rfl (lv_at hl 1 rfl) ?_
            refine lv_dup X.1 X.2.1 d_Ha_add_76 rfl ?_
            refine q_get X.1 X.2.1 X.2.2.1 i_Ha X.2.2.2.1 X.2.2.2.2 Y m_o e9 rfl 6 (by decide) (X.2.2.1 _ lk_Ha_51) (fun _ h9 => h9) rfl d_Ha_add_77 ?_
            refine lv_iload_n X.1 X.2.1 d_Ha_add_80 rfl (lv_at hl 4 rfl) ?_
            refine t_eq ek3 ?_
            refine lv_iadd X.1 X.2.1 d_Ha_add_81 ?_
            refine t_any (fun v28 => ?_)
            refine q_put X.1 X.2.1 X.2.2.1 i_Ha t_Ha t_Ha_ok n_Ha X.2.2.2.1 X.2.2.2.2 Y m_o e9 rfl 6 (by decide) (X.2.2.1 _ lk_Ha_51) (fun _ h9 => h9) rfl (t_Ha_ok 6 (by decide)) rfl rfl (Nat.le_of_ble_eq_true rfl) d_Ha_add_82 (fun H locs Y => ?_)
            have e30 : (va_up f7 o (.inr (6, [.ref wd, .ref bl, .ref sta, .ref inn, .ref out, .int (nI n10), .int v28, .ref mac]))) o = .inr (6, [.ref wd, .ref bl, .ref sta, .ref inn, .ref out, .int (nI n10), .int v28, .ref mac]) := q_up
            have e31 : (va_up f7 o (.inr (6, [.ref wd, .ref bl, .ref sta, .ref inn, .ref out, .int (nI n10), .int v28, .ref mac]))) wd = .inl (E.2.1, 80, .inl g13) := (q_ne (q_tag e12 e9 (show (1000 : Nat) ≠ 6 by decide))).trans e12
            have e32 : (va_up f7 o (.inr (6, [.ref wd, .ref bl, .ref sta, .ref inn, .ref out, .int (nI n10), .int v28, .ref mac]))) bl = .inl (E.1, 64, .inl g15) := (q_ne (q_tag e14 e9 (show (1000 : Nat) ≠ 6 by decide))).trans e14
            have e33 : (va_up f7 o (.inr (6, [.ref wd, .ref bl, .ref sta, .ref inn, .ref out, .int (nI n10), .int v28, .ref mac]))) sta = .inl (E.2.1, 5, .inl g18) := (q_ne (q_tag e17 e9 (show (1000 : Nat) ≠ 6 by decide))).trans e17
            have e34 : (va_up f7 o (.inr (6, [.ref wd, .ref bl, .ref sta, .ref inn, .ref out, .int (nI n10), .int v28, .ref mac]))) inn = .inl (E.2.1, 5, .inl g_inn) := (q_ne (q_tag e19 e9 (show (1000 : Nat) ≠ 6 by decide))).trans e19
            have e35 : (va_up f7 o (.inr (6, [.ref wd, .ref bl, .ref sta, .ref inn, .ref out, .int (nI n10), .int v28, .ref mac]))) out = .inl (E.2.1, 5, .inl g_out) := (q_ne (q_tag e20 e9 (show (1000 : Nat) ≠ 6 by decide))).trans e20
            have e36 : (va_up f7 o (.inr (6, [.ref wd, .ref bl, .ref sta, .ref inn, .ref out, .int (nI n10), .int v28, .ref mac]))) mac = .inl (E.1, 20, .inl g_mac) := (q_ne (q_tag e21 e9 (show (1000 : Nat) ≠ 6 by decide))).trans e21
            have e37 : (va_up f7 o (.inr (6, [.ref wd, .ref bl, .ref sta, .ref inn, .ref out, .int (nI n10), .int v28, .ref mac]))) ky = .inl (E.1, KN, .inl g_ky) := (q_ne (q_tag e22 e9 (show (1000 : Nat) ≠ 6 by decide))).trans e22
            have hF38 : ∀ x, x ≠ o → x ≠ wd → x ≠ bl → x ≠ sta → (va_up f7 o (.inr (6, [.ref wd, .ref bl, .ref sta, .ref inn, .ref out, .int (nI n10), .int v28, .ref mac]))) x = f x := fun x h0 h1 h2 h3 => (q_ne h0).trans (hF8 x h0 h1 h2 h3)
            have Y : pH D cCl (pA L sz) s.heap L (va_up f7 o (.inr (6, [.ref wd, .ref bl, .ref sta, .ref inn, .ref out, .int (nI n10), .int v28, .ref mac]))) H locs := Y
            generalize (va_up f7 o (.inr (6, [.ref wd, .ref bl, .ref sta, .ref inn, .ref out, .int (nI n10), .int v28, .ref mac]))) = f29 at Y e30 e31 e32 e33 e34 e35 e36 e37 hF38
            exact c_retv hQQ X Y hr hlk ⟨rfl, hF38, n10, v28, g13, g15, g18, hg16, (by omega), e30, e31, e32, e33⟩ d_Ha_add_85
          | succ n5 ih6 =>
            intro i n10 y11 g13 g15 g18 f7 H locs ls hm26 hc23 hc24 hc25 hg16 e9 e12 e14 e17 e19 e20 e21 e22 hF8 Y hl
            refine lv_iload X.1 X.2.1 d_Ha_add_20 (lv_at hl 0 rfl) ?_
            refine lv_iload_n X.1 X.2.1 d_Ha_add_22 rfl (lv_at hl 3 rfl) ?_
            refine t_eq ek2 ?_
            refine lv_iload_n X.1 X.2.1 d_Ha_add_23 rfl (lv_at hl 4 rfl) ?_
            refine t_eq ek3 ?_
            refine lv_iadd X.1 X.2.1 d_Ha_add_24 ?_
            refine t_eq (y := nI (k2 + k3)) (nI_add _ _) ?_
            refine lv_icmp_ge (tgt := 75) X.1 X.2.1 d_Ha_add_25 (by decide) (fun c39 => absurd c39 ?_) (fun c39 => ?_)
            · (rw [nI_leI (by omega) (by omega)] <;> omega)
            rw [nI_leI (by omega) (by omega)] at c39
            refine lv_aload_n X.1 X.2.1 d_Ha_add_28 rfl (lv_at hl 1 rfl) ?_
            refine q_get X.1 X.2.1 X.2.2.1 i_Ha X.2.2.2.1 X.2.2.2.2 Y m_o e9 rfl 1 (by decide) (X.2.2.1 _ lk_Ha_13) (fun _ h9 => h9) rfl d_Ha_add_29 ?_
            refine lv_aload_n X.1 X.2.1 d_Ha_add_32 rfl (lv_at hl 1 rfl) ?_
            refine q_get X.1 X.2.1 X.2.2.1 i_Ha X.2.2.2.1 X.2.2.2.2 Y m_o e9 rfl 5 (by decide) (X.2.2.1 _ lk_Ha_47) (fun _ h9 => h9) rfl d_Ha_add_33 ?_
            refine lv_aload_n X.1 X.2.1 d_Ha_add_36 rfl (lv_at hl 2 rfl) ?_
            refine lv_iload X.1 X.2.1 d_Ha_add_37 (lv_at hl 0 rfl) ?_
            refine q_bald X.1 X.2.1 X.2.2.2.2 Y 0 m_ky e22 rfl (vp_in_nI (by omega) (by omega)) d_Ha_add_39 ?_
            refine t_any (fun v40 => ?_)
            refine q_bast X.1 X.2.1 X.2.2.2.2 Y 0 m_bl e14 rfl (vp_in_nI (by omega) (by omega)) d_Ha_add_40 (fun H locs Y => ?_)
            have hg42 : fB (upd g15 ((nI n10)).toNatClampNeg (vp_nar .byte v40)) := fB_upd hg16
            generalize (upd g15 ((nI n10)).toNatClampNeg (vp_nar .byte v40)) = g41 at Y hg42
            have e44 : (va_up f7 bl (.inl (E.1, 64, .inl g41))) bl = .inl (E.1, 64, .inl g41) := q_up
            have e45 : (va_up f7 bl (.inl (E.1, 64, .inl g41))) o = .inr (6, [.ref wd, .ref bl, .ref sta, .ref inn, .ref out, .int (nI n10), .int y11, .ref mac]) := (q_ne (q_tag e9 e14 (show (6 : Nat) ≠ 1000 by decide))).trans e9
            have e46 : (va_up f7 bl (.inl (E.1, 64, .inl g41))) wd = .inl (E.2.1, 80, .inl g13) := (q_ne ap_wd_bl).trans e12
            have e47 : (va_up f7 bl (.inl (E.1, 64, .inl g41))) sta = .inl (E.2.1, 5, .inl g18) := (q_ne ap_bl_sta.symm).trans e17
            have e48 : (va_up f7 bl (.inl (E.1, 64, .inl g41))) inn = .inl (E.2.1, 5, .inl g_inn) := (q_ne ap_bl_inn.symm).trans e19
            have e49 : (va_up f7 bl (.inl (E.1, 64, .inl g41))) out = .inl (E.2.1, 5, .inl g_out) := (q_ne ap_bl_out.symm).trans e20
            have e50 : (va_up f7 bl (.inl (E.1, 64, .inl g41))) mac = .inl (E.1, 20, .inl g_mac) := (q_ne ap_bl_mac.symm).trans e21
            have e51 : (va_up f7 bl (.inl (E.1, 64, .inl g41))) ky = .inl (E.1, KN, .inl g_ky) := (q_ne ap_bl_ky.symm).trans e22
            have hF52 : ∀ x, x ≠ o → x ≠ wd → x ≠ bl → x ≠ sta → (va_up f7 bl (.inl (E.1, 64, .inl g41))) x = f x := fun x h0 h1 h2 h3 => (q_ne h2).trans (hF8 x h0 h1 h2 h3)
            have Y : pH D cCl (pA L sz) s.heap L (va_up f7 bl (.inl (E.1, 64, .inl g41))) H locs := Y
            generalize (va_up f7 bl (.inl (E.1, 64, .inl g41))) = f43 at Y e44 e45 e46 e47 e48 e49 e50 e51 hF52
            refine lv_aload_n X.1 X.2.1 d_Ha_add_41 rfl (lv_at hl 1 rfl) ?_
            refine lv_dup X.1 X.2.1 d_Ha_add_42 rfl ?_
            refine q_get X.1 X.2.1 X.2.2.1 i_Ha X.2.2.2.1 X.2.2.2.2 Y m_o e45 rfl 5 (by decide) (X.2.2.1 _ lk_Ha_47) (fun _ h9 => h9) rfl d_Ha_add_43 ?_
            refine lv_iconst (v := (nI 1)) X.1 X.2.1 d_Ha_add_46 (by decide) ?_
            refine lv_iadd X.1 X.2.1 d_Ha_add_47 ?_
            refine t_eq (y := nI (n10 + 1)) (nI_add _ _) ?_
            refine q_put X.1 X.2.1 X.2.2.1 i_Ha t_Ha t_Ha_ok n_Ha X.2.2.2.1 X.2.2.2.2 Y m_o e45 rfl 5 (by decide) (X.2.2.1 _ lk_Ha_47) (fun _ h9 => h9) rfl (t_Ha_ok 5 (by decide)) rfl rfl (Nat.le_of_ble_eq_true rfl) d_Ha_add_48 (fun H locs Y => ?_)
            have e54 : (va_up f43 o (.inr (6, [.ref wd, .ref bl, .ref sta, .ref inn, .ref out, .int (nI (n10 + 1)), .int y11, .ref mac]))) o = .inr (6, [.ref wd, .ref bl, .ref sta, .ref inn, .ref out, .int (nI (n10 + 1)), .int y11, .ref mac]) := q_up
            have e55 : (va_up f43 o (.inr (6, [.ref wd, .ref bl, .ref sta, .ref inn, .ref out, .int (nI (n10 + 1)), .int y11, .ref mac]))) wd = .inl (E.2.1, 80, .inl g13) := (q_ne (q_tag e46 e45 (show (1000 : Nat) ≠ 6 by decide))).trans e46
            have e56 : (va_up f43 o (.inr (6, [.ref wd, .ref bl, .ref sta, .ref inn, .ref out, .int (nI (n10 + 1)), .int y11, .ref mac]))) bl = .inl (E.1, 64, .inl g41) := (q_ne (q_tag e44 e45 (show (1000 : Nat) ≠ 6 by decide))).trans e44
            have e57 : (va_up f43 o (.inr (6, [.ref wd, .ref bl, .ref sta, .ref inn, .ref out, .int (nI (n10 + 1)), .int y11, .ref mac]))) sta = .inl (E.2.1, 5, .inl g18) := (q_ne (q_tag e47 e45 (show (1000 : Nat) ≠ 6 by decide))).trans e47
            have e58 : (va_up f43 o (.inr (6, [.ref wd, .ref bl, .ref sta, .ref inn, .ref out, .int (nI (n10 + 1)), .int y11, .ref mac]))) inn = .inl (E.2.1, 5, .inl g_inn) := (q_ne (q_tag e48 e45 (show (1000 : Nat) ≠ 6 by decide))).trans e48
            have e59 : (va_up f43 o (.inr (6, [.ref wd, .ref bl, .ref sta, .ref inn, .ref out, .int (nI (n10 + 1)), .int y11, .ref mac]))) out = .inl (E.2.1, 5, .inl g_out) := (q_ne (q_tag e49 e45 (show (1000 : Nat) ≠ 6 by decide))).trans e49
            have e60 : (va_up f43 o (.inr (6, [.ref wd, .ref bl, .ref sta, .ref inn, .ref out, .int (nI (n10 + 1)), .int y11, .ref mac]))) mac = .inl (E.1, 20, .inl g_mac) := (q_ne (q_tag e50 e45 (show (1000 : Nat) ≠ 6 by decide))).trans e50
            have e61 : (va_up f43 o (.inr (6, [.ref wd, .ref bl, .ref sta, .ref inn, .ref out, .int (nI (n10 + 1)), .int y11, .ref mac]))) ky = .inl (E.1, KN, .inl g_ky) := (q_ne (q_tag e51 e45 (show (1000 : Nat) ≠ 6 by decide))).trans e51
            have hF62 : ∀ x, x ≠ o → x ≠ wd → x ≠ bl → x ≠ sta → (va_up f43 o (.inr (6, [.ref wd, .ref bl, .ref sta, .ref inn, .ref out, .int (nI (n10 + 1)), .int y11, .ref mac]))) x = f x := fun x h0 h1 h2 h3 => (q_ne h0).trans (hF52 x h0 h1 h2 h3)
            have Y : pH D cCl (pA L sz) s.heap L (va_up f43 o (.inr (6, [.ref wd, .ref bl, .ref sta, .ref inn, .ref out, .int (nI (n10 + 1)), .int y11, .ref mac]))) H locs := Y
            generalize (va_up f43 o (.inr (6, [.ref wd, .ref bl, .ref sta, .ref inn, .ref out, .int (nI (n10 + 1)), .int y11, .ref mac]))) = f53 at Y e54 e55 e56 e57 e58 e59 e60 e61 hF62
            refine lv_aload_n X.1 X.2.1 d_Ha_add_51 rfl (lv_at hl 1 rfl) ?_
            refine q_get X.1 X.2.1 X.2.2.1 i_Ha X.2.2.2.1 X.2.2.2.2 Y m_o e54 rfl 5 (by decide) (X.2.2.1 _ lk_Ha_47) (fun _ h9 => h9) rfl d_Ha_add_52 ?_
            refine lv_bipush (v := (nI 64)) X.1 X.2.1 d_Ha_add_55 (by decide) ?_
            refine lv_icmp_ne (tgt := 69) X.1 X.2.1 d_Ha_add_57 (by decide) (fun c63 => ?_) (fun c63 => ?_)
            · skip
              rw [nI_eq (by omega) (by omega)] at c63
              refine lv_iinc (v := (nI (i + 1))) (lv' := [(4, .int (nI (i + 1))), (0, .ref o), (1, .ref ky), (2, .int a2), (3, .int a3)]) X.1 X.2.1 d_Ha_add_69 hl (k := 0) rfl (nI_add _ 1) (by decide) rfl (fun ls hl => ?_)
              refine lv_goto (tgt := 20) X.1 X.2.1 d_Ha_add_72 (by decide) ?_
              exact ih6  (i + 1) (n10 + 1)  (y11) g13 g41 g18 f53 _ _ _ (by omega) (by omega) (by omega) (by omega) hg42 e54 e55 e56 e57 e58 e59 e60 e61 hF62 Y (lv_sub hl [0, 1, 2, 3, 4] rfl)
            · skip
              rw [nI_eq (by omega) (by omega)] at c63
              refine lv_aload_n X.1 X.2.1 d_Ha_add_60 rfl (lv_at hl 1 rfl) ?_
              refine c_callv (As := []) (rest := []) (n := 0) X Y hA hml hl.1 (c_Ha_compress l D E L f53 H.size  o wd bl sta inn out mac (n10 + 1) (y11) g13 g41 g18 g_inn g_out g_mac m_o m_wd m_bl m_sta m_inn m_out m_mac e54 e55 e56 e57 e58 e59 e60 hg42 f_mac ap_wd_bl ap_wd_sta ap_wd_inn ap_wd_out ap_wd_mac ap_bl_sta ap_bl_inn ap_bl_out ap_bl_mac ap_sta_inn ap_sta_out ap_sta_mac ap_inn_out ap_inn_mac ap_out_mac) m_o e54 rfl kl_Ha_Ha_compress ks_Ha_compress kx_Ha_compress ki_Ha_compress ini_Ha ⟨rfl, rfl⟩ hd_Ha_compress ⟨by decide, by decide⟩ rfl (Nat.le_of_ble_eq_true rfl) d_Ha_add_61 ⟨Nat.le_refl _, Nat.le_refl _⟩ (fun u H locs hp Y => ?_)
              obtain ⟨L65, f64⟩ := u
              obtain ⟨eL68, hF66, g70, g71, e72, e73⟩ := hp
              dsimp only at eL68 hF66 e72 e73 Y
              rw [eL68] at Y
              have e74 : f64 o = .inr (6, [.ref wd, .ref bl, .ref sta, .ref inn, .ref out, .int (nI (n10 + 1)), .int y11, .ref mac]) := (hF66 o (q_tag e54 e55 (show (6 : Nat) ≠ 1000 by decide)) (q_tag e54 e57 (show (6 : Nat) ≠ 1000 by decide))).trans e54
              have e75 : f64 bl = .inl (E.1, 64, .inl g41) := (hF66 bl ap_wd_bl.symm ap_bl_sta).trans e56
              have e76 : f64 inn = .inl (E.2.1, 5, .inl g_inn) := (hF66 inn ap_wd_inn.symm ap_sta_inn.symm).trans e58
              have e77 : f64 out = .inl (E.2.1, 5, .inl g_out) := (hF66 out ap_wd_out.symm ap_sta_out.symm).trans e59
              have e78 : f64 mac = .inl (E.1, 20, .inl g_mac) := (hF66 mac ap_wd_mac.symm ap_sta_mac.symm).trans e60
              have e79 : f64 ky = .inl (E.1, KN, .inl g_ky) := (hF66 ky ap_wd_ky.symm ap_sta_ky.symm).trans e61
              have hF80 : ∀ x, x ≠ o → x ≠ wd → x ≠ bl → x ≠ sta → f64 x = f x := fun x h0 h1 h2 h3 => (hF66 x h1 h3).trans (hF62 x h0 h1 h2 h3)
              refine lv_aload_n X.1 X.2.1 d_Ha_add_64 rfl (lv_at hl 1 rfl) ?_
              refine lv_iconst (v := (nI 0)) X.1 X.2.1 d_Ha_add_65 (by decide) ?_
              refine q_put X.1 X.2.1 X.2.2.1 i_Ha t_Ha t_Ha_ok n_Ha X.2.2.2.1 X.2.2.2.2 Y m_o e74 rfl 5 (by decide) (X.2.2.1 _ lk_Ha_47) (fun _ h9 => h9) rfl (t_Ha_ok 5 (by decide)) rfl rfl (Nat.le_of_ble_eq_true rfl) d_Ha_add_66 (fun H locs Y => ?_)
              have e82 : (va_up f64 o (.inr (6, [.ref wd, .ref bl, .ref sta, .ref inn, .ref out, .int (nI 0), .int y11, .ref mac]))) o = .inr (6, [.ref wd, .ref bl, .ref sta, .ref inn, .ref out, .int (nI 0), .int y11, .ref mac]) := q_up
              have e83 : (va_up f64 o (.inr (6, [.ref wd, .ref bl, .ref sta, .ref inn, .ref out, .int (nI 0), .int y11, .ref mac]))) wd = .inl (E.2.1, 80, .inl g70) := (q_ne (q_tag e72 e74 (show (1000 : Nat) ≠ 6 by decide))).trans e72
              have e84 : (va_up f64 o (.inr (6, [.ref wd, .ref bl, .ref sta, .ref inn, .ref out, .int (nI 0), .int y11, .ref mac]))) bl = .inl (E.1, 64, .inl g41) := (q_ne (q_tag e75 e74 (show (1000 : Nat) ≠ 6 by decide))).trans e75
              have e85 : (va_up f64 o (.inr (6, [.ref wd, .ref bl, .ref sta, .ref inn, .ref out, .int (nI 0), .int y11, .ref mac]))) sta = .inl (E.2.1, 5, .inl g71) := (q_ne (q_tag e73 e74 (show (1000 : Nat) ≠ 6 by decide))).trans e73
              have e86 : (va_up f64 o (.inr (6, [.ref wd, .ref bl, .ref sta, .ref inn, .ref out, .int (nI 0), .int y11, .ref mac]))) inn = .inl (E.2.1, 5, .inl g_inn) := (q_ne (q_tag e76 e74 (show (1000 : Nat) ≠ 6 by decide))).trans e76
              have e87 : (va_up f64 o (.inr (6, [.ref wd, .ref bl, .ref sta, .ref inn, .ref out, .int (nI 0), .int y11, .ref mac]))) out = .inl (E.2.1, 5, .inl g_out) := (q_ne (q_tag e77 e74 (show (1000 : Nat) ≠ 6 by decide))).trans e77
              have e88 : (va_up f64 o (.inr (6, [.ref wd, .ref bl, .ref sta, .ref inn, .ref out, .int (nI 0), .int y11, .ref mac]))) mac = .inl (E.1, 20, .inl g_mac) := (q_ne (q_tag e78 e74 (show (1000 : Nat) ≠ 6 by decide))).trans e78
              have e89 : (va_up f64 o (.inr (6, [.ref wd, .ref bl, .ref sta, .ref inn, .ref out, .int (nI 0), .int y11, .ref mac]))) ky = .inl (E.1, KN, .inl g_ky) := (q_ne (q_tag e79 e74 (show (1000 : Nat) ≠ 6 by decide))).trans e79
              have hF90 : ∀ x, x ≠ o → x ≠ wd → x ≠ bl → x ≠ sta → (va_up f64 o (.inr (6, [.ref wd, .ref bl, .ref sta, .ref inn, .ref out, .int (nI 0), .int y11, .ref mac]))) x = f x := fun x h0 h1 h2 h3 => (q_ne h0).trans (hF80 x h0 h1 h2 h3)
              have Y : pH D cCl (pA L sz) s.heap L (va_up f64 o (.inr (6, [.ref wd, .ref bl, .ref sta, .ref inn, .ref out, .int (nI 0), .int y11, .ref mac]))) H locs := Y
              generalize (va_up f64 o (.inr (6, [.ref wd, .ref bl, .ref sta, .ref inn, .ref out, .int (nI 0), .int y11, .ref mac]))) = f81 at Y e82 e83 e84 e85 e86 e87 e88 e89 hF90
              refine lv_iinc (v := (nI (i + 1))) (lv' := [(4, .int (nI (i + 1))), (0, .ref o), (1, .ref ky), (2, .int a2), (3, .int a3)]) X.1 X.2.1 d_Ha_add_69 hl (k := 0) rfl (nI_add _ 1) (by decide) rfl (fun ls hl => ?_)
              refine lv_goto (tgt := 20) X.1 X.2.1 d_Ha_add_72 (by decide) ?_
              exact ih6  (i + 1) (0)  (y11) g70 g41 g71 f81 _ _ _ (by omega) (by omega) (by omega) (by omega) hg42 e82 e83 e84 e85 e86 e87 e88 e89 hF90 Y (lv_sub hl [0, 1, 2, 3, 4] rfl)
        exact lp4 (k3) (k2) (fl)  (tot) g_wd g_bl g_sta f _ _ _ (by omega) (by omega) (by omega) (by omega) f_bl e_o e_wd e_bl e_sta e_inn e_out e_mac e_ky (fun _ _ _ _ _ => rfl) Y (lv_sub hl [0, 1, 2, 3, 4] rfl)
      · skip
        exact c_retv hQQ X Y hr hlk ⟨rfl, (fun _ _ _ _ _ => rfl), fl, tot, g_wd, g_bl, g_sta, f_bl, (by omega), e_o, e_wd, e_bl, e_sta⟩ d_Ha_add_16
set_option maxHeartbeats 4000000 in
set_option maxRecDepth 100000 in
theorem c_Ha_addMac (l : Launch) (D : va_G) (E : cE) (L : List Nat) (f : pF) (sz : Nat) (a2 a3 : Int32) (o wd bl sta inn out mac fl : Nat) (tot : Int32) (g_wd g_bl g_sta g_inn g_out g_mac : Nat → Int32) (m_o : o ∈ L) (m_wd : wd ∈ L) (m_bl : bl ∈ L) (m_sta : sta ∈ L) (m_inn : inn ∈ L) (m_out : out ∈ L) (m_mac : mac ∈ L) (e_o : f o = .inr (6, [.ref wd, .ref bl, .ref sta, .ref inn, .ref out, .int (nI fl), .int tot, .ref mac])) (e_wd : f wd = .inl (E.2.1, 80, .inl g_wd)) (e_bl : f bl = .inl (E.1, 64, .inl g_bl)) (e_sta : f sta = .inl (E.2.1, 5, .inl g_sta)) (e_inn : f inn = .inl (E.2.1, 5, .inl g_inn)) (e_out : f out = .inl (E.2.1, 5, .inl g_out)) (e_mac : f mac = .inl (E.1, 20, .inl g_mac)) (f_bl : fB g_bl) (f_mac : fB g_mac) (ap_wd_bl : wd ≠ bl) (ap_wd_sta : wd ≠ sta) (ap_wd_inn : wd ≠ inn) (ap_wd_out : wd ≠ out) (ap_wd_mac : wd ≠ mac) (ap_bl_sta : bl ≠ sta) (ap_bl_inn : bl ≠ inn) (ap_bl_out : bl ≠ out) (ap_bl_mac : bl ≠ mac) (ap_sta_inn : sta ≠ inn) (ap_sta_out : sta ≠ out) (ap_sta_mac : sta ≠ mac) (ap_inn_out : inn ≠ out) (ap_inn_mac : inn ≠ mac) (ap_out_mac : out ≠ mac) (hh0 : 20 < 100000) (hh1 : fl < 64) : Met l y_Ha_add (k_Ha_add :: lw_tg) (mR 1 28) (va_Pc [.ref o, .ref mac, .int a2, .int a3] (cPre D E L f sz)) (va_Qv (fun (u : cU) => u.1 = L ∧ (∀ x, x ≠ o → x ≠ wd → x ≠ bl → x ≠ sta → u.2 x = f x) ∧ ∃ (fl2 : Nat) (tot2 : Int32) (g2_wd g2_bl g2_sta : Nat → Int32), fB g2_bl ∧ fl2 < 64 ∧ u.2 o = .inr (6, [.ref wd, .ref bl, .ref sta, .ref inn, .ref out, .int (nI fl2), .int tot2, .ref mac]) ∧ u.2 wd = .inl (E.2.1, 80, .inl g2_wd) ∧ u.2 bl = .inl (E.1, 64, .inl g2_bl) ∧ u.2 sta = .inl (E.2.1, 5, .inl g2_sta)) (cPost D E (pA L sz)) (pA L sz)) 0 0 (pA L sz) := by
  refine c_enter (own := R_Ha) (by decide) rfl (Nat.le_of_ble_eq_true rfl) ⟨rfl, rfl⟩ (fun p e s m below meth c ls AV QQ H locs hQQ X Y hA hin hr hlk hml hl => ?_)
  have hl : lv_has ls 5 [(0, .ref o), (1, .ref mac), (2, .int a2), (3, .int a3)] := hl
  refine lv_iload_n X.1 X.2.1 d_Ha_add_0 rfl (lv_at hl 2 rfl) ?_
  refine lv_if_lt (tgt := 16) X.1 X.2.1 d_Ha_add_1 (by decide) (fun c1 => ?_) (fun c1 => ?_)
  · skip
    exact c_retv hQQ X Y hr hlk ⟨rfl, (fun _ _ _ _ _ => rfl), fl, tot, g_wd, g_bl, g_sta, f_bl, (by omega), e_o, e_wd, e_bl, e_sta⟩ d_Ha_add_16
  · skip
    refine lv_iload_n X.1 X.2.1 d_Ha_add_4 rfl (lv_at hl 3 rfl) ?_
    refine lv_if_lt (tgt := 16) X.1 X.2.1 d_Ha_add_5 (by decide) (fun c2 => ?_) (fun c2 => ?_)
    · skip
      exact c_retv hQQ X Y hr hlk ⟨rfl, (fun _ _ _ _ _ => rfl), fl, tot, g_wd, g_bl, g_sta, f_bl, (by omega), e_o, e_wd, e_bl, e_sta⟩ d_Ha_add_16
    · skip
      obtain ⟨k2, hk2, ek2⟩ := nI_of c1
      obtain ⟨k3, hk3, ek3⟩ := nI_of c2
      refine lv_iload_n X.1 X.2.1 d_Ha_add_8 rfl (lv_at hl 3 rfl) ?_
      refine t_eq ek3 ?_
      refine lv_aload_n X.1 X.2.1 d_Ha_add_9 rfl (lv_at hl 1 rfl) ?_
      refine q_alen X.1 X.2.1 X.2.2.2.2 Y 0 m_mac e_mac rfl (v := nI (20)) rfl d_Ha_add_10 ?_
      refine lv_iload_n X.1 X.2.1 d_Ha_add_11 rfl (lv_at hl 2 rfl) ?_
      refine t_eq ek2 ?_
      refine lv_isub X.1 X.2.1 d_Ha_add_12 ?_
      refine lv_icmp_le (tgt := 17) X.1 X.2.1 d_Ha_add_13 (by decide) (fun c3 => ?_) (fun c3 => ?_)
      · skip
        have hle : k2 + k3 ≤ 20 := le_sub (by omega) hk2 hk3 (Int32.not_lt.mpr c3)
        refine lv_iload_n X.1 X.2.1 d_Ha_add_17 rfl (lv_at hl 2 rfl) ?_
        refine t_eq ek2 ?_
        refine lv_istore (lv' := [(4, .int (nI k2)), (0, .ref o), (1, .ref mac), (2, .int a2), (3, .int a3)]) X.1 X.2.1 d_Ha_add_18 hl (by decide) rfl (fun ls hl => ?_)
        have lp4 : ∀ (n5 i n10 : Nat) (y11 : Int32) (g13 : Nat → Int32) (g15 : Nat → Int32) (g18 : Nat → Int32) (f7 : pF) (H : Heap) (locs : List Loc) (ls : Array Slot), (k2 + k3) - i = n5 → (k2 ≤ i) → (i ≤ k2 + k3) → ((n10) < 64) → fB g15 → f7 o = .inr (6, [.ref wd, .ref bl, .ref sta, .ref inn, .ref out, .int (nI n10), .int y11, .ref mac]) → f7 wd = .inl (E.2.1, 80, .inl g13) → f7 bl = .inl (E.1, 64, .inl g15) → f7 sta = .inl (E.2.1, 5, .inl g18) → f7 inn = .inl (E.2.1, 5, .inl g_inn) → f7 out = .inl (E.2.1, 5, .inl g_out) → f7 mac = .inl (E.1, 20, .inl g_mac) → (∀ x, x ≠ o → x ≠ wd → x ≠ bl → x ≠ sta → f7 x = f x) → pH D cCl (pA L sz) s.heap L f7 H locs → lv_has ls 5 [(4, .int (nI i)), (0, .ref o), (1, .ref mac), (2, .int a2), (3, .int a3)] → W p l e (mR 1 28) s m AV below meth c H locs 0 0 QQ (F0 m 20 ls []) := by
          intro n5
          induction n5 with
          | zero =>
            intro i n10 y11 g13 g15 g18 f7 H locs ls hm25 hc22 hc23 hc24 hg16 e9 e12 e14 e17 e19 e20 e21 hF8 Y hl
            refine lv_iload X.1 X.2.1 d_Ha_add_20 (lv_at hl 0 rfl) ?_
            refine lv_iload_n X.1 X.2.1 d_Ha_add_22 rfl (lv_at hl 3 rfl) ?_
            refine t_eq ek2 ?_
            refine lv_iload_n X.1 X.2.1 d_Ha_add_23 rfl (lv_at hl 4 rfl) ?_
            refine t_eq ek3 ?_
            refine lv_iadd X.1 X.2.1 d_Ha_add_24 ?_
            refine t_eq (y := nI (k2 + k3)) (nI_add _ _) ?_
            refine lv_icmp_ge (tgt := 75) X.1 X.2.1 d_Ha_add_25 (by decide) (fun c26 => ?_) (fun c26 => absurd ?_ c26)
            rotate_left
            · (rw [nI_leI (by omega) (by omega)] <;> omega)
            rw [nI_leI (by omega) (by omega)] at c26
            refine lv_aload_n X.1 X.2.1 d_Ha_add_75 rfl (lv_at hl 1 rfl) ?_
            refine lv_dup X.1 X.2.1 d_Ha_add_76 rfl ?_
            refine q_get X.1 X.2.1 X.2.2.1 i_Ha X.2.2.2.1 X.2.2.2.2 Y m_o e9 rfl 6 (by decide) (X.2.2.1 _ lk_Ha_51) (fun _ h9 => h9) rfl d_Ha_add_77 ?_
            refine lv_iload_n X.1 X.2.1 d_Ha_add_80 rfl (lv_at hl 4 rfl) ?_
            refine t_eq ek3 ?_
            refine lv_iadd X.1 X.2.1 d_Ha_add_81 ?_
            refine t_any (fun v27 => ?_)
            refine q_put X.1 X.2.1 X.2.2.1 i_Ha t_Ha t_Ha_ok n_Ha X.2.2.2.1 X.2.2.2.2 Y m_o e9 rfl 6 (by decide) (X.2.2.1 _ lk_Ha_51) (fun _ h9 => h9) rfl (t_Ha_ok 6 (by decide)) rfl rfl (Nat.le_of_ble_eq_true rfl) d_Ha_add_82 (fun H locs Y => ?_)
            have e29 : (va_up f7 o (.inr (6, [.ref wd, .ref bl, .ref sta, .ref inn, .ref out, .int (nI n10), .int v27, .ref mac]))) o = .inr (6, [.ref wd, .ref bl, .ref sta, .ref inn, .ref out, .int (nI n10), .int v27, .ref mac]) := q_up
            have e30 : (va_up f7 o (.inr (6, [.ref wd, .ref bl, .ref sta, .ref inn, .ref out, .int (nI n10), .int v27, .ref mac]))) wd = .inl (E.2.1, 80, .inl g13) := (q_ne (q_tag e12 e9 (show (1000 : Nat) ≠ 6 by decide))).trans e12
            have e31 : (va_up f7 o (.inr (6, [.ref wd, .ref bl, .ref sta, .ref inn, .ref out, .int (nI n10), .int v27, .ref mac]))) bl = .inl (E.1, 64, .inl g15) := (q_ne (q_tag e14 e9 (show (1000 : Nat) ≠ 6 by decide))).trans e14
            have e32 : (va_up f7 o (.inr (6, [.ref wd, .ref bl, .ref sta, .ref inn, .ref out, .int (nI n10), .int v27, .ref mac]))) sta = .inl (E.2.1, 5, .inl g18) := (q_ne (q_tag e17 e9 (show (1000 : Nat) ≠ 6 by decide))).trans e17
            have e33 : (va_up f7 o (.inr (6, [.ref wd, .ref bl, .ref sta, .ref inn, .ref out, .int (nI n10), .int v27, .ref mac]))) inn = .inl (E.2.1, 5, .inl g_inn) := (q_ne (q_tag e19 e9 (show (1000 : Nat) ≠ 6 by decide))).trans e19
            have e34 : (va_up f7 o (.inr (6, [.ref wd, .ref bl, .ref sta, .ref inn, .ref out, .int (nI n10), .int v27, .ref mac]))) out = .inl (E.2.1, 5, .inl g_out) := (q_ne (q_tag e20 e9 (show (1000 : Nat) ≠ 6 by decide))).trans e20
            have e35 : (va_up f7 o (.inr (6, [.ref wd, .ref bl, .ref sta, .ref inn, .ref out, .int (nI n10), .int v27, .ref mac]))) mac = .inl (E.1, 20, .inl g_mac) := (q_ne (q_tag e21 e9 (show (1000 : Nat) ≠ 6 by decide))).trans e21
            have hF36 : ∀ x, x ≠ o → x ≠ wd → x ≠ bl → x ≠ sta → (va_up f7 o (.inr (6, [.ref wd, .ref bl, .ref sta, .ref inn, .ref out, .int (nI n10), .int v27, .ref mac]))) x = f x := fun x h0 h1 h2 h3 => (q_ne h0).trans (hF8 x h0 h1 h2 h3)
            have Y : pH D cCl (pA L sz) s.heap L (va_up f7 o (.inr (6, [.ref wd, .ref bl, .ref sta, .ref inn, .ref out, .int (nI n10), .int v27, .ref mac]))) H locs := Y
            generalize (va_up f7 o (.inr (6, [.ref wd, .ref bl, .ref sta, .ref inn, .ref out, .int (nI n10), .int v27, .ref mac]))) = f28 at Y e29 e30 e31 e32 e33 e34 e35 hF36
            exact c_retv hQQ X Y hr hlk ⟨rfl, hF36, n10, v27, g13, g15, g18, hg16, (by omega), e29, e30, e31, e32⟩ d_Ha_add_85
          | succ n5 ih6 =>
            intro i n10 y11 g13 g15 g18 f7 H locs ls hm25 hc22 hc23 hc24 hg16 e9 e12 e14 e17 e19 e20 e21 hF8 Y hl
            refine lv_iload X.1 X.2.1 d_Ha_add_20 (lv_at hl 0 rfl) ?_
            refine lv_iload_n X.1 X.2.1 d_Ha_add_22 rfl (lv_at hl 3 rfl) ?_
            refine t_eq ek2 ?_
            refine lv_iload_n X.1 X.2.1 d_Ha_add_23 rfl (lv_at hl 4 rfl) ?_
            refine t_eq ek3 ?_
            refine lv_iadd X.1 X.2.1 d_Ha_add_24 ?_
            refine t_eq (y := nI (k2 + k3)) (nI_add _ _) ?_
            refine lv_icmp_ge (tgt := 75) X.1 X.2.1 d_Ha_add_25 (by decide) (fun c37 => absurd c37 ?_) (fun c37 => ?_)
            · (rw [nI_leI (by omega) (by omega)] <;> omega)
            rw [nI_leI (by omega) (by omega)] at c37
            refine lv_aload_n X.1 X.2.1 d_Ha_add_28 rfl (lv_at hl 1 rfl) ?_
            refine q_get X.1 X.2.1 X.2.2.1 i_Ha X.2.2.2.1 X.2.2.2.2 Y m_o e9 rfl 1 (by decide) (X.2.2.1 _ lk_Ha_13) (fun _ h9 => h9) rfl d_Ha_add_29 ?_
            refine lv_aload_n X.1 X.2.1 d_Ha_add_32 rfl (lv_at hl 1 rfl) ?_
            refine q_get X.1 X.2.1 X.2.2.1 i_Ha X.2.2.2.1 X.2.2.2.2 Y m_o e9 rfl 5 (by decide) (X.2.2.1 _ lk_Ha_47) (fun _ h9 => h9) rfl d_Ha_add_33 ?_
            refine lv_aload_n X.1 X.2.1 d_Ha_add_36 rfl (lv_at hl 2 rfl) ?_
            refine lv_iload X.1 X.2.1 d_Ha_add_37 (lv_at hl 0 rfl) ?_
            refine q_bald X.1 X.2.1 X.2.2.2.2 Y 0 m_mac e21 rfl (vp_in_nI (by omega) (by omega)) d_Ha_add_39 ?_
            refine t_any (fun v38 => ?_)
            refine q_bast X.1 X.2.1 X.2.2.2.2 Y 0 m_bl e14 rfl (vp_in_nI (by omega) (by omega)) d_Ha_add_40 (fun H locs Y => ?_)
            have hg40 : fB (upd g15 ((nI n10)).toNatClampNeg (vp_nar .byte v38)) := fB_upd hg16
            generalize (upd g15 ((nI n10)).toNatClampNeg (vp_nar .byte v38)) = g39 at Y hg40
            have e42 : (va_up f7 bl (.inl (E.1, 64, .inl g39))) bl = .inl (E.1, 64, .inl g39) := q_up
            have e43 : (va_up f7 bl (.inl (E.1, 64, .inl g39))) o = .inr (6, [.ref wd, .ref bl, .ref sta, .ref inn, .ref out, .int (nI n10), .int y11, .ref mac]) := (q_ne (q_tag e9 e14 (show (6 : Nat) ≠ 1000 by decide))).trans e9
            have e44 : (va_up f7 bl (.inl (E.1, 64, .inl g39))) wd = .inl (E.2.1, 80, .inl g13) := (q_ne ap_wd_bl).trans e12
            have e45 : (va_up f7 bl (.inl (E.1, 64, .inl g39))) sta = .inl (E.2.1, 5, .inl g18) := (q_ne ap_bl_sta.symm).trans e17
            have e46 : (va_up f7 bl (.inl (E.1, 64, .inl g39))) inn = .inl (E.2.1, 5, .inl g_inn) := (q_ne ap_bl_inn.symm).trans e19
            have e47 : (va_up f7 bl (.inl (E.1, 64, .inl g39))) out = .inl (E.2.1, 5, .inl g_out) := (q_ne ap_bl_out.symm).trans e20
            have e48 : (va_up f7 bl (.inl (E.1, 64, .inl g39))) mac = .inl (E.1, 20, .inl g_mac) := (q_ne ap_bl_mac.symm).trans e21
            have hF49 : ∀ x, x ≠ o → x ≠ wd → x ≠ bl → x ≠ sta → (va_up f7 bl (.inl (E.1, 64, .inl g39))) x = f x := fun x h0 h1 h2 h3 => (q_ne h2).trans (hF8 x h0 h1 h2 h3)
            have Y : pH D cCl (pA L sz) s.heap L (va_up f7 bl (.inl (E.1, 64, .inl g39))) H locs := Y
            generalize (va_up f7 bl (.inl (E.1, 64, .inl g39))) = f41 at Y e42 e43 e44 e45 e46 e47 e48 hF49
            refine lv_aload_n X.1 X.2.1 d_Ha_add_41 rfl (lv_at hl 1 rfl) ?_
            refine lv_dup X.1 X.2.1 d_Ha_add_42 rfl ?_
            refine q_get X.1 X.2.1 X.2.2.1 i_Ha X.2.2.2.1 X.2.2.2.2 Y m_o e43 rfl 5 (by decide) (X.2.2.1 _ lk_Ha_47) (fun _ h9 => h9) rfl d_Ha_add_43 ?_
            refine lv_iconst (v := (nI 1)) X.1 X.2.1 d_Ha_add_46 (by decide) ?_
            refine lv_iadd X.1 X.2.1 d_Ha_add_47 ?_
            refine t_eq (y := nI (n10 + 1)) (nI_add _ _) ?_
            refine q_put X.1 X.2.1 X.2.2.1 i_Ha t_Ha t_Ha_ok n_Ha X.2.2.2.1 X.2.2.2.2 Y m_o e43 rfl 5 (by decide) (X.2.2.1 _ lk_Ha_47) (fun _ h9 => h9) rfl (t_Ha_ok 5 (by decide)) rfl rfl (Nat.le_of_ble_eq_true rfl) d_Ha_add_48 (fun H locs Y => ?_)
            have e51 : (va_up f41 o (.inr (6, [.ref wd, .ref bl, .ref sta, .ref inn, .ref out, .int (nI (n10 + 1)), .int y11, .ref mac]))) o = .inr (6, [.ref wd, .ref bl, .ref sta, .ref inn, .ref out, .int (nI (n10 + 1)), .int y11, .ref mac]) := q_up
            have e52 : (va_up f41 o (.inr (6, [.ref wd, .ref bl, .ref sta, .ref inn, .ref out, .int (nI (n10 + 1)), .int y11, .ref mac]))) wd = .inl (E.2.1, 80, .inl g13) := (q_ne (q_tag e44 e43 (show (1000 : Nat) ≠ 6 by decide))).trans e44
            have e53 : (va_up f41 o (.inr (6, [.ref wd, .ref bl, .ref sta, .ref inn, .ref out, .int (nI (n10 + 1)), .int y11, .ref mac]))) bl = .inl (E.1, 64, .inl g39) := (q_ne (q_tag e42 e43 (show (1000 : Nat) ≠ 6 by decide))).trans e42
            have e54 : (va_up f41 o (.inr (6, [.ref wd, .ref bl, .ref sta, .ref inn, .ref out, .int (nI (n10 + 1)), .int y11, .ref mac]))) sta = .inl (E.2.1, 5, .inl g18) := (q_ne (q_tag e45 e43 (show (1000 : Nat) ≠ 6 by decide))).trans e45
            have e55 : (va_up f41 o (.inr (6, [.ref wd, .ref bl, .ref sta, .ref inn, .ref out, .int (nI (n10 + 1)), .int y11, .ref mac]))) inn = .inl (E.2.1, 5, .inl g_inn) := (q_ne (q_tag e46 e43 (show (1000 : Nat) ≠ 6 by decide))).trans e46
            have e56 : (va_up f41 o (.inr (6, [.ref wd, .ref bl, .ref sta, .ref inn, .ref out, .int (nI (n10 + 1)), .int y11, .ref mac]))) out = .inl (E.2.1, 5, .inl g_out) := (q_ne (q_tag e47 e43 (show (1000 : Nat) ≠ 6 by decide))).trans e47
            have e57 : (va_up f41 o (.inr (6, [.ref wd, .ref bl, .ref sta, .ref inn, .ref out, .int (nI (n10 + 1)), .int y11, .ref mac]))) mac = .inl (E.1, 20, .inl g_mac) := (q_ne (q_tag e48 e43 (show (1000 : Nat) ≠ 6 by decide))).trans e48
            have hF58 : ∀ x, x ≠ o → x ≠ wd → x ≠ bl → x ≠ sta → (va_up f41 o (.inr (6, [.ref wd, .ref bl, .ref sta, .ref inn, .ref out, .int (nI (n10 + 1)), .int y11, .ref mac]))) x = f x := fun x h0 h1 h2 h3 => (q_ne h0).trans (hF49 x h0 h1 h2 h3)
            have Y : pH D cCl (pA L sz) s.heap L (va_up f41 o (.inr (6, [.ref wd, .ref bl, .ref sta, .ref inn, .ref out, .int (nI (n10 + 1)), .int y11, .ref mac]))) H locs := Y
            generalize (va_up f41 o (.inr (6, [.ref wd, .ref bl, .ref sta, .ref inn, .ref out, .int (nI (n10 + 1)), .int y11, .ref mac]))) = f50 at Y e51 e52 e53 e54 e55 e56 e57 hF58
            refine lv_aload_n X.1 X.2.1 d_Ha_add_51 rfl (lv_at hl 1 rfl) ?_
            refine q_get X.1 X.2.1 X.2.2.1 i_Ha X.2.2.2.1 X.2.2.2.2 Y m_o e51 rfl 5 (by decide) (X.2.2.1 _ lk_Ha_47) (fun _ h9 => h9) rfl d_Ha_add_52 ?_
            refine lv_bipush (v := (nI 64)) X.1 X.2.1 d_Ha_add_55 (by decide) ?_
            refine lv_icmp_ne (tgt := 69) X.1 X.2.1 d_Ha_add_57 (by decide) (fun c59 => ?_) (fun c59 => ?_)
            · skip
              rw [nI_eq (by omega) (by omega)] at c59
              refine lv_iinc (v := (nI (i + 1))) (lv' := [(4, .int (nI (i + 1))), (0, .ref o), (1, .ref mac), (2, .int a2), (3, .int a3)]) X.1 X.2.1 d_Ha_add_69 hl (k := 0) rfl (nI_add _ 1) (by decide) rfl (fun ls hl => ?_)
              refine lv_goto (tgt := 20) X.1 X.2.1 d_Ha_add_72 (by decide) ?_
              exact ih6  (i + 1) (n10 + 1)  (y11) g13 g39 g18 f50 _ _ _ (by omega) (by omega) (by omega) (by omega) hg40 e51 e52 e53 e54 e55 e56 e57 hF58 Y (lv_sub hl [0, 1, 2, 3, 4] rfl)
            · skip
              rw [nI_eq (by omega) (by omega)] at c59
              refine lv_aload_n X.1 X.2.1 d_Ha_add_60 rfl (lv_at hl 1 rfl) ?_
              refine c_callv (As := []) (rest := []) (n := 0) X Y hA hml hl.1 (c_Ha_compress l D E L f50 H.size  o wd bl sta inn out mac (n10 + 1) (y11) g13 g39 g18 g_inn g_out g_mac m_o m_wd m_bl m_sta m_inn m_out m_mac e51 e52 e53 e54 e55 e56 e57 hg40 f_mac ap_wd_bl ap_wd_sta ap_wd_inn ap_wd_out ap_wd_mac ap_bl_sta ap_bl_inn ap_bl_out ap_bl_mac ap_sta_inn ap_sta_out ap_sta_mac ap_inn_out ap_inn_mac ap_out_mac) m_o e51 rfl kl_Ha_Ha_compress ks_Ha_compress kx_Ha_compress ki_Ha_compress ini_Ha ⟨rfl, rfl⟩ hd_Ha_compress ⟨by decide, by decide⟩ rfl (Nat.le_of_ble_eq_true rfl) d_Ha_add_61 ⟨Nat.le_refl _, Nat.le_refl _⟩ (fun u H locs hp Y => ?_)
              obtain ⟨L61, f60⟩ := u
              obtain ⟨eL64, hF62, g66, g67, e68, e69⟩ := hp
              dsimp only at eL64 hF62 e68 e69 Y
              rw [eL64] at Y
              have e70 : f60 o = .inr (6, [.ref wd, .ref bl, .ref sta, .ref inn, .ref out, .int (nI (n10 + 1)), .int y11, .ref mac]) := (hF62 o (q_tag e51 e52 (show (6 : Nat) ≠ 1000 by decide)) (q_tag e51 e54 (show (6 : Nat) ≠ 1000 by decide))).trans e51
              have e71 : f60 bl = .inl (E.1, 64, .inl g39) := (hF62 bl ap_wd_bl.symm ap_bl_sta).trans e53
              have e72 : f60 inn = .inl (E.2.1, 5, .inl g_inn) := (hF62 inn ap_wd_inn.symm ap_sta_inn.symm).trans e55
              have e73 : f60 out = .inl (E.2.1, 5, .inl g_out) := (hF62 out ap_wd_out.symm ap_sta_out.symm).trans e56
              have e74 : f60 mac = .inl (E.1, 20, .inl g_mac) := (hF62 mac ap_wd_mac.symm ap_sta_mac.symm).trans e57
              have hF75 : ∀ x, x ≠ o → x ≠ wd → x ≠ bl → x ≠ sta → f60 x = f x := fun x h0 h1 h2 h3 => (hF62 x h1 h3).trans (hF58 x h0 h1 h2 h3)
              refine lv_aload_n X.1 X.2.1 d_Ha_add_64 rfl (lv_at hl 1 rfl) ?_
              refine lv_iconst (v := (nI 0)) X.1 X.2.1 d_Ha_add_65 (by decide) ?_
              refine q_put X.1 X.2.1 X.2.2.1 i_Ha t_Ha t_Ha_ok n_Ha X.2.2.2.1 X.2.2.2.2 Y m_o e70 rfl 5 (by decide) (X.2.2.1 _ lk_Ha_47) (fun _ h9 => h9) rfl (t_Ha_ok 5 (by decide)) rfl rfl (Nat.le_of_ble_eq_true rfl) d_Ha_add_66 (fun H locs Y => ?_)
              have e77 : (va_up f60 o (.inr (6, [.ref wd, .ref bl, .ref sta, .ref inn, .ref out, .int (nI 0), .int y11, .ref mac]))) o = .inr (6, [.ref wd, .ref bl, .ref sta, .ref inn, .ref out, .int (nI 0), .int y11, .ref mac]) := q_up
              have e78 : (va_up f60 o (.inr (6, [.ref wd, .ref bl, .ref sta, .ref inn, .ref out, .int (nI 0), .int y11, .ref mac]))) wd = .inl (E.2.1, 80, .inl g66) := (q_ne (q_tag e68 e70 (show (1000 : Nat) ≠ 6 by decide))).trans e68
              have e79 : (va_up f60 o (.inr (6, [.ref wd, .ref bl, .ref sta, .ref inn, .ref out, .int (nI 0), .int y11, .ref mac]))) bl = .inl (E.1, 64, .inl g39) := (q_ne (q_tag e71 e70 (show (1000 : Nat) ≠ 6 by decide))).trans e71
              have e80 : (va_up f60 o (.inr (6, [.ref wd, .ref bl, .ref sta, .ref inn, .ref out, .int (nI 0), .int y11, .ref mac]))) sta = .inl (E.2.1, 5, .inl g67) := (q_ne (q_tag e69 e70 (show (1000 : Nat) ≠ 6 by decide))).trans e69
              have e81 : (va_up f60 o (.inr (6, [.ref wd, .ref bl, .ref sta, .ref inn, .ref out, .int (nI 0), .int y11, .ref mac]))) inn = .inl (E.2.1, 5, .inl g_inn) := (q_ne (q_tag e72 e70 (show (1000 : Nat) ≠ 6 by decide))).trans e72
              have e82 : (va_up f60 o (.inr (6, [.ref wd, .ref bl, .ref sta, .ref inn, .ref out, .int (nI 0), .int y11, .ref mac]))) out = .inl (E.2.1, 5, .inl g_out) := (q_ne (q_tag e73 e70 (show (1000 : Nat) ≠ 6 by decide))).trans e73
              have e83 : (va_up f60 o (.inr (6, [.ref wd, .ref bl, .ref sta, .ref inn, .ref out, .int (nI 0), .int y11, .ref mac]))) mac = .inl (E.1, 20, .inl g_mac) := (q_ne (q_tag e74 e70 (show (1000 : Nat) ≠ 6 by decide))).trans e74
              have hF84 : ∀ x, x ≠ o → x ≠ wd → x ≠ bl → x ≠ sta → (va_up f60 o (.inr (6, [.ref wd, .ref bl, .ref sta, .ref inn, .ref out, .int (nI 0), .int y11, .ref mac]))) x = f x := fun x h0 h1 h2 h3 => (q_ne h0).trans (hF75 x h0 h1 h2 h3)
              have Y : pH D cCl (pA L sz) s.heap L (va_up f60 o (.inr (6, [.ref wd, .ref bl, .ref sta, .ref inn, .ref out, .int (nI 0), .int y11, .ref mac]))) H locs := Y
              generalize (va_up f60 o (.inr (6, [.ref wd, .ref bl, .ref sta, .ref inn, .ref out, .int (nI 0), .int y11, .ref mac]))) = f76 at Y e77 e78 e79 e80 e81 e82 e83 hF84
              refine lv_iinc (v := (nI (i + 1))) (lv' := [(4, .int (nI (i + 1))), (0, .ref o), (1, .ref mac), (2, .int a2), (3, .int a3)]) X.1 X.2.1 d_Ha_add_69 hl (k := 0) rfl (nI_add _ 1) (by decide) rfl (fun ls hl => ?_)
              refine lv_goto (tgt := 20) X.1 X.2.1 d_Ha_add_72 (by decide) ?_
              exact ih6  (i + 1) (0)  (y11) g66 g39 g67 f76 _ _ _ (by omega) (by omega) (by omega) (by omega) hg40 e77 e78 e79 e80 e81 e82 e83 hF84 Y (lv_sub hl [0, 1, 2, 3, 4] rfl)
        exact lp4 (k3) (k2) (fl)  (tot) g_wd g_bl g_sta f _ _ _ (by omega) (by omega) (by omega) (by omega) f_bl e_o e_wd e_bl e_sta e_inn e_out e_mac (fun _ _ _ _ _ => rfl) Y (lv_sub hl [0, 1, 2, 3, 4] rfl)
      · skip
        exact c_retv hQQ X Y hr hlk ⟨rfl, (fun _ _ _ _ _ => rfl), fl, tot, g_wd, g_bl, g_sta, f_bl, (by omega), e_o, e_wd, e_bl, e_sta⟩ d_Ha_add_16
