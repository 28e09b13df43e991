set_option maxHeartbeats 4000000 in
set_option maxRecDepth 100000 in
theorem c_Va_sow (l : Launch) (D : va_G) (E : cE) (T : cT) (κ : tK) (L : List Nat) (f : pF) (sz : Nat) (h : Nat) (k0 : κ h = (21, 0)) (a1 n1 : Nat) (k1 : κ a1 = (13, n1)) (x1 : n1 ≤ 12288) (hw : tW E T κ L f) : Met l y_Va_sow (k_Va_sow :: lw_tg) (kRm 1 60 0 0) (va_Pc [.ref h, .ref a1] (kPre D E T L f sz)) (va_Qv (nPv E T [1, 21] κ L f (fun (g : pF) => True)) (cPost D E (pA L sz)) (pA L sz)) 0 0 (pA L sz) := by
  refine k_enter (own := R_Va) (by decide) rfl (Nat.le_of_ble_eq_true rfl) (fun p e s m below meth c ls AV QQ H locs hQQ X Y hA hin hr hlk hml hl KS KR => ?_)
  have hl : lv_has ls 2 [(0, .ref h), (1, .ref a1)] := hl
  have S : tS E T (tFr κ L [1, 21] []) κ L f κ L f := tS_rf hw
  refine lv_aload_n X.1 X.2.1 d_Va_sow_0 rfl (lv_at hl 0 rfl) ?_
  refine lv_bipush (v := iI 64) X.1 X.2.1 d_Va_sow_1 (by decide) ?_
  refine lv_aload_n X.1 X.2.1 d_Va_sow_3 rfl (lv_at hl 1 rfl) ?_
  refine t_gets (ci := 3) X Y S k1 rfl i_By 1 (by decide) rfl lk_Va_77 (fun _ h9 => h9) d_Va_sow_4 (fun z1 e1 l1 u1 => ?_)
  refine z_min X.1 X.2.1 (hml.trans hl.1.symm) X.2.2.2.1 (X.2.2.1 _ kl_Va_mmin) (X.2.2.1 _ ks_mmin) (X.2.2.1 _ ini_Math) (X.2.2.1 _ ki_mmin) (Nat.le_of_ble_eq_true rfl) (Nat.le_of_ble_eq_true rfl) (Nat.le_of_ble_eq_true rfl) (Nat.le_of_ble_eq_true rfl) ⟨by omega, by omega⟩ ⟨by omega, by omega⟩ d_Va_sow_7 (fun z2 l2 u2 x2 => ?_)
  refine t_put (ci := 11) X Y S k0 rfl i_Va t_Va t_Va_ok n_Va 6 (by decide) rfl lk_Va_100 (fun _ h9 => h9) rfl (t_Va_ok 6 (by decide)) rfl rfl ⟨_, rfl, by omega, by omega⟩ (fun h9 => h9.2.1 (by rw [← (S.2.2.2 _ h9).2, k0]; decide)) d_Va_sow_10 (fun f3 H locs Y S w3 => ?_)
  refine lv_aload_n X.1 X.2.1 d_Va_sow_13 rfl (lv_at hl 1 rfl) ?_
  refine t_getrow (ci := 3) X Y S k1 rfl i_By 0 (by decide) rfl lk_Va_86 (fun _ h9 => h9) d_Va_sow_14 (fun b4 e4 k4 => ?_)
  refine lv_iconst (v := iI 0) X.1 X.2.1 d_Va_sow_17 (by decide) ?_
  refine lv_aload_n X.1 X.2.1 d_Va_sow_18 rfl (lv_at hl 0 rfl) ?_
  refine t_getr (ci := 11) X Y S k0 rfl i_Va 5 (by decide) rfl (k1 := 1) (k2 := 64) rfl rfl lk_Va_42 (fun _ h9 => h9) d_Va_sow_19 (fun b5 e5 k5 => ?_)
  refine lv_iconst (v := iI 0) X.1 X.2.1 d_Va_sow_22 (by decide) ?_
  refine lv_aload_n X.1 X.2.1 d_Va_sow_23 rfl (lv_at hl 0 rfl) ?_
  refine t_get0 (ci := 11) X Y S k0 rfl i_Va 6 (by decide) rfl lk_Va_100 (fun _ h9 => h9) d_Va_sow_24 w3.2.1 ?_
  refine t_copyB X Y S KS (hml.trans hl.1.symm) kl_Va_copy (Or.inl k4) k5 (by omega) (by omega) (by omega) (by omega) (by omega) (by omega) (by omega) (fun h9 => h9.2.1 (by rw [← (S.2.2.2 _ h9).2, k5]; decide)) (Nat.le_of_ble_eq_true rfl) (Nat.le_of_ble_eq_true rfl) d_Va_sow_27 (fun f6 H locs Y S w6 => ?_)
  refine lv_aload_n X.1 X.2.1 d_Va_sow_30 rfl (lv_at hl 0 rfl) ?_
  refine lv_bipush (v := iI 20) X.1 X.2.1 d_Va_sow_31 (by decide) ?_
  refine t_put (ci := 11) X Y S k0 rfl i_Va t_Va t_Va_ok n_Va 8 (by decide) rfl lk_Va_49 (fun _ h9 => h9) rfl (t_Va_ok 8 (by decide)) rfl rfl ⟨_, rfl, by omega, by omega⟩ (fun h9 => h9.2.1 (by rw [← (S.2.2.2 _ h9).2, k0]; decide)) d_Va_sow_33 (fun f7 H locs Y S w7 => ?_)
  refine lv_aload_n X.1 X.2.1 d_Va_sow_36 rfl (lv_at hl 0 rfl) ?_
  refine lv_iconst (v := iI 0) X.1 X.2.1 d_Va_sow_37 (by decide) ?_
  refine t_put (ci := 11) X Y S k0 rfl i_Va t_Va t_Va_ok n_Va 9 (by decide) rfl lk_Va_103 (fun _ h9 => h9) rfl (t_Va_ok 9 (by decide)) rfl rfl ⟨_, rfl, by omega, by omega⟩ (fun h9 => h9.2.1 (by rw [← (S.2.2.2 _ h9).2, k0]; decide)) d_Va_sow_38 (fun f8 H locs Y S w8 => ?_)
  exact c_retv hQQ X Y hr hlk ⟨rfl, S, trivial⟩ d_Va_sow_41
set_option maxHeartbeats 4000000 in
set_option maxRecDepth 100000 in
theorem c_Va_coin (l : Launch) (D : va_G) (E : cE) (T : cT) (κ : tK) (L : List Nat) (f : pF) (sz : Nat) (h : Nat) (k0 : κ h = (21, 0)) (hw : tW E T κ L f) : Met l y_Va_coin (k_Va_coin :: lw_tg) (kRm 4 137 0 0) (va_Pc [.ref h] (kPre D E T L f sz)) (va_Qi (nPi E T [1, 2, 3, 4, 13, 16, 21] κ L f (fun (z : Int) (g : pF) => 0 ≤ z ∧ z ≤ 255)) (cPost D E (pA L sz)) (pA L sz)) 0 0 (pA L sz) := by
  refine k_enter (own := R_Va) (by decide) rfl (Nat.le_of_ble_eq_true rfl) (fun p e s m below meth c ls AV QQ H locs hQQ X Y hA hin hr hlk hml hl KS KR => ?_)
  have hl : lv_has ls 2 [(0, .ref h)] := hl
  have S : tS E T (tFr κ L [1, 2, 3, 4, 13, 16, 21] []) κ L f κ L f := tS_rf hw
  refine lv_aload_n X.1 X.2.1 d_Va_coin_0 rfl (lv_at hl 0 rfl) ?_
  refine t_geti (ci := 11) X Y S k0 rfl i_Va 8 (by decide) rfl lk_Va_49 (fun _ h9 => h9) d_Va_coin_1 (fun z1 e1 l1 u1 => ?_)
  refine lv_bipush (v := iI 20) X.1 X.2.1 d_Va_coin_4 (by decide) ?_
  have J3 : ∀ (f2 : pF) (H : Heap) (locs : List Loc) (ls : Array Slot), pH D cCl (pA L sz) s.heap L f2 H locs → tS E T (tFr κ L [1, 2, 3, 4, 13, 16, 21] []) κ L f κ L f2 → lv_has ls 2 [(0, .ref h)] → W p l e (kRm 4 137 0 0) s m AV below meth c H locs 0 0 QQ (F0 m 106 ls []) := by
    intro f2 H locs ls  Y S hl
    refine lv_aload_n X.1 X.2.1 d_Va_coin_106 rfl (lv_at hl 0 rfl) ?_
    refine t_getr (ci := 11) X Y S k0 rfl i_Va 7 (by decide) rfl (k1 := 1) (k2 := 20) rfl rfl lk_Va_46 (fun _ h9 => h9) d_Va_coin_107 (fun b7 e7 k7 => ?_)
    refine lv_aload_n X.1 X.2.1 d_Va_coin_110 rfl (lv_at hl 0 rfl) ?_
    refine t_geti (ci := 11) X Y S k0 rfl i_Va 8 (by decide) rfl lk_Va_49 (fun _ h9 => h9) d_Va_coin_111 (fun z8 e8 l8 u8 => ?_)
    refine t_bald X Y S (Or.inl k7) (by omega) (by omega) (by omega) d_Va_coin_114 (fun z9 l9 u9 => ?_)
    refine lv_sipush (v := iI 255) X.1 X.2.1 d_Va_coin_115 (by decide) ?_
    refine z_iand X.1 X.2.1 (by omega) (by omega) d_Va_coin_118 (fun z10 l10 u10 => ?_)
    refine lv_istore_n (lv' := [(1, .int (iI z10)), (0, .ref h)]) X.1 X.2.1 d_Va_coin_119 rfl hl (by decide) rfl (fun ls hl => ?_)
    refine lv_aload_n X.1 X.2.1 d_Va_coin_120 rfl (lv_at hl 1 rfl) ?_
    refine lv_dup X.1 X.2.1 d_Va_coin_121 rfl ?_
    refine t_get0 (ci := 11) X Y S k0 rfl i_Va 8 (by decide) rfl lk_Va_49 (fun _ h9 => h9) d_Va_coin_122 e8 ?_
    refine lv_iconst (v := iI 1) X.1 X.2.1 d_Va_coin_125 (by decide) ?_
    refine z_iadd X.1 X.2.1 d_Va_coin_126 ?_
    refine t_put (ci := 11) X Y S k0 rfl i_Va t_Va t_Va_ok n_Va 8 (by decide) rfl lk_Va_49 (fun _ h9 => h9) rfl (t_Va_ok 8 (by decide)) rfl rfl ⟨_, rfl, by omega, by omega⟩ (fun h9 => h9.2.1 (by rw [← (S.2.2.2 _ h9).2, k0]; decide)) d_Va_coin_127 (fun f11 H locs Y S w11 => ?_)
    refine lv_iload_n X.1 X.2.1 d_Va_coin_130 rfl (lv_at hl 0 rfl) ?_
    exact c_reti hQQ X Y hr hlk ⟨rfl, S, z10, rfl, ⟨by omega, by omega⟩⟩ d_Va_coin_131
  refine z_icmp_lt (tgt := 106) X.1 X.2.1 d_Va_coin_6 (by decide) ⟨by omega, by omega⟩ ⟨by omega, by omega⟩ (fun h12 => ?_) (fun h12 => ?_)
  · exact J3 f _ _ _  Y S (lv_sub hl [0] rfl)
  · refine lv_aload_n X.1 X.2.1 d_Va_coin_9 rfl (lv_at hl 0 rfl) ?_
    refine t_getr (ci := 11) X Y S k0 rfl i_Va 12 (by decide) rfl (k1 := 13) (k2 := 64) rfl rfl lk_Va_58 (fun _ h9 => h9) d_Va_coin_10 (fun b13 e13 k13 => ?_)
    refine t_nv (t_runV (As := []) (rest := []) (n := 0) X Y S k13 hml hl.1 (c_By_clear l D E T κ L f H.size b13 64 k13 (by omega) S.1) (ok_k X Y hA KS KR) rfl kl_Va_By_clear ks_By_clear kx_By_clear ki_By_clear ini_By ⟨rfl, rfl⟩ hd_By_clear ⟨Nat.le_of_ble_eq_true rfl, Nat.le_of_ble_eq_true rfl⟩ rfl (Nat.le_of_ble_eq_true rfl) d_Va_coin_13 ⟨Nat.le_of_ble_eq_true rfl, Nat.le_of_ble_eq_true rfl⟩) X Y hA S (by decide) (fun f14 H locs Y S s14 p14 => ?_)
    refine lv_aload_n X.1 X.2.1 d_Va_coin_16 rfl (lv_at hl 0 rfl) ?_
    refine t_get0 (ci := 11) X Y S k0 rfl i_Va 12 (by decide) rfl lk_Va_58 (fun _ h9 => h9) d_Va_coin_17 ((gF_same (s14.2.2.2 _ ⟨(t_obj S.1 k0).1, by rw [k0]; decide, by simp⟩).1 12).trans e13) ?_
    refine lv_aload_n X.1 X.2.1 d_Va_coin_20 rfl (lv_at hl 0 rfl) ?_
    refine t_geti (ci := 11) X Y S k0 rfl i_Va 9 (by decide) rfl lk_Va_103 (fun _ h9 => h9) d_Va_coin_21 (fun z15 e15 l15 u15 => ?_)
    refine t_nv (t_runV (As := [.int (iI z15)]) (rest := []) (n := 1) X Y S k13 hml hl.1 (c_By_putWord l D E T κ L f14 H.size b13 64 k13 (by omega) z15 (by omega) (by omega) S.1) (ok_k X Y hA KS KR) rfl kl_Va_By_putWord ks_By_putWord kx_By_putWord ki_By_putWord ini_By ⟨rfl, rfl⟩ hd_By_putWord ⟨Nat.le_of_ble_eq_true rfl, Nat.le_of_ble_eq_true rfl⟩ rfl (Nat.le_of_ble_eq_true rfl) d_Va_coin_24 ⟨Nat.le_of_ble_eq_true rfl, Nat.le_of_ble_eq_true rfl⟩) X Y hA S (by decide) (fun f16 H locs Y S s16 p16 => ?_)
    refine lv_aload_n X.1 X.2.1 d_Va_coin_27 rfl (lv_at hl 0 rfl) ?_
    refine t_getr (ci := 11) X Y S k0 rfl i_Va 3 (by decide) rfl (k1 := 16) (k2 := 0) rfl rfl lk_Va_31 (fun _ h9 => h9) d_Va_coin_28 (fun b17 e17 k17 => ?_)
    refine lv_aload_n X.1 X.2.1 d_Va_coin_31 rfl (lv_at hl 0 rfl) ?_
    refine t_getr (ci := 11) X Y S k0 rfl i_Va 5 (by decide) rfl (k1 := 1) (k2 := 64) rfl rfl lk_Va_42 (fun _ h9 => h9) d_Va_coin_32 (fun b18 e18 k18 => ?_)
    refine lv_iconst (v := iI 0) X.1 X.2.1 d_Va_coin_35 (by decide) ?_
    refine lv_aload_n X.1 X.2.1 d_Va_coin_36 rfl (lv_at hl 0 rfl) ?_
    refine t_geti (ci := 11) X Y S k0 rfl i_Va 6 (by decide) rfl lk_Va_100 (fun _ h9 => h9) d_Va_coin_37 (fun z19 e19 l19 u19 => ?_)
    refine t_nv (t_runV (As := [.ref b18, .int (iI 0), .int (iI z19)]) (rest := []) (n := 3) X Y S k17 hml hl.1 (c_Ha_setKey l D E T κ L f16 H.size b17 k17 b18 64 (Or.inl k18) (by omega) 0 (by omega) (by omega) z19 (by omega) (by omega) S.1) (ok_k X Y hA KS KR) rfl kl_Va_Ha_setKey ks_Ha_setKey kx_Ha_setKey ki_Ha_setKey ini_Ha ⟨rfl, rfl⟩ hd_Ha_setKey ⟨Nat.le_of_ble_eq_true rfl, Nat.le_of_ble_eq_true rfl⟩ rfl (Nat.le_of_ble_eq_true rfl) d_Va_coin_40 ⟨Nat.le_of_ble_eq_true rfl, Nat.le_of_ble_eq_true rfl⟩) X Y hA S (by decide) (fun f20 H locs Y S s20 p20 => ?_)
    refine lv_aload_n X.1 X.2.1 d_Va_coin_43 rfl (lv_at hl 0 rfl) ?_
    refine t_get0 (ci := 11) X Y S k0 rfl i_Va 3 (by decide) rfl lk_Va_31 (fun _ h9 => h9) d_Va_coin_44 ((gF_same (s20.2.2.2 _ ⟨(t_obj S.1 k0).1, by rw [k0]; decide, by simp⟩).1 3).trans e17) ?_
    refine t_nv (t_runV (As := []) (rest := []) (n := 0) X Y S k17 hml hl.1 (c_Ha_begin l D E T κ L f20 H.size b17 k17 S.1) (ok_k X Y hA KS KR) rfl kl_Va_Ha_begin ks_Ha_begin kx_Ha_begin ki_Ha_begin ini_Ha ⟨rfl, rfl⟩ hd_Ha_begin ⟨Nat.le_of_ble_eq_true rfl, Nat.le_of_ble_eq_true rfl⟩ rfl (Nat.le_of_ble_eq_true rfl) d_Va_coin_47 ⟨Nat.le_of_ble_eq_true rfl, Nat.le_of_ble_eq_true rfl⟩) X Y hA S (by decide) (fun f21 H locs Y S s21 p21 => ?_)
    obtain x21 := p21
    obtain ⟨z22, e22, l22, u22⟩ := x21
    refine lv_aload_n X.1 X.2.1 d_Va_coin_50 rfl (lv_at hl 0 rfl) ?_
    refine t_get0 (ci := 11) X Y S k0 rfl i_Va 3 (by decide) rfl lk_Va_31 (fun _ h9 => h9) d_Va_coin_51 ((gF_same (s21.2.2.2 _ ⟨(t_obj S.1 k0).1, by rw [k0]; decide, by simp⟩).1 3).trans ((gF_same (s20.2.2.2 _ ⟨(t_obj S.1 k0).1, by rw [k0]; decide, by simp⟩).1 3).trans e17)) ?_
    refine lv_aload_n X.1 X.2.1 d_Va_coin_54 rfl (lv_at hl 0 rfl) ?_
    refine t_get0 (ci := 11) X Y S k0 rfl i_Va 12 (by decide) rfl lk_Va_58 (fun _ h9 => h9) d_Va_coin_55 ((gF_same (s21.2.2.2 _ ⟨(t_obj S.1 k0).1, by rw [k0]; decide, by simp⟩).1 12).trans ((gF_same (s20.2.2.2 _ ⟨(t_obj S.1 k0).1, by rw [k0]; decide, by simp⟩).1 12).trans ((gF_same (s16.2.2.2 _ ⟨(t_obj S.1 k0).1, by rw [k0]; decide, by simp⟩).1 12).trans ((gF_same (s14.2.2.2 _ ⟨(t_obj S.1 k0).1, by rw [k0]; decide, by simp⟩).1 12).trans e13)))) ?_
    refine t_getrow (ci := 3) X Y S k13 rfl i_By 0 (by decide) rfl lk_Va_86 (fun _ h9 => h9) d_Va_coin_58 (fun b23 e23 k23 => ?_)
    refine lv_iconst (v := iI 0) X.1 X.2.1 d_Va_coin_61 (by decide) ?_
    refine lv_iconst (v := iI 4) X.1 X.2.1 d_Va_coin_62 (by decide) ?_
    refine t_nv (t_runV (As := [.ref b23, .int (iI 0), .int (iI 4)]) (rest := []) (n := 3) X Y S k17 hml hl.1 (c_Ha_add l D E T κ L f21 H.size b17 k17 b23 64 (Or.inl k23) (by omega) 0 (by omega) (by omega) 4 (by omega) (by omega) S.1 z22 e22 (by omega) (by omega)) (ok_k X Y hA KS KR) rfl kl_Va_Ha_add ks_Ha_add kx_Ha_add ki_Ha_add ini_Ha ⟨rfl, rfl⟩ hd_Ha_add ⟨Nat.le_of_ble_eq_true rfl, Nat.le_of_ble_eq_true rfl⟩ rfl (Nat.le_of_ble_eq_true rfl) d_Va_coin_63 ⟨Nat.le_of_ble_eq_true rfl, Nat.le_of_ble_eq_true rfl⟩) X Y hA S (by decide) (fun f24 H locs Y S s24 p24 => ?_)
    obtain x24 := p24
    obtain ⟨z25, e25, l25, u25⟩ := x24
    refine lv_aload_n X.1 X.2.1 d_Va_coin_66 rfl (lv_at hl 0 rfl) ?_
    refine t_get0 (ci := 11) X Y S k0 rfl i_Va 3 (by decide) rfl lk_Va_31 (fun _ h9 => h9) d_Va_coin_67 ((gF_same (s24.2.2.2 _ ⟨(t_obj S.1 k0).1, by rw [k0]; decide, by simp⟩).1 3).trans ((gF_same (s21.2.2.2 _ ⟨(t_obj S.1 k0).1, by rw [k0]; decide, by simp⟩).1 3).trans ((gF_same (s20.2.2.2 _ ⟨(t_obj S.1 k0).1, by rw [k0]; decide, by simp⟩).1 3).trans e17))) ?_
    refine t_nv (t_runV (As := []) (rest := []) (n := 0) X Y S k17 hml hl.1 (c_Ha_finish l D E T κ L f24 H.size b17 k17 S.1 z25 e25 (by omega) (by omega)) (ok_k X Y hA KS KR) rfl kl_Va_Ha_finish ks_Ha_finish kx_Ha_finish ki_Ha_finish ini_Ha ⟨rfl, rfl⟩ hd_Ha_finish ⟨Nat.le_of_ble_eq_true rfl, Nat.le_of_ble_eq_true rfl⟩ rfl (Nat.le_of_ble_eq_true rfl) d_Va_coin_70 ⟨Nat.le_of_ble_eq_true rfl, Nat.le_of_ble_eq_true rfl⟩) X Y hA S (by decide) (fun f26 H locs Y S s26 p26 => ?_)
    refine lv_aload_n X.1 X.2.1 d_Va_coin_73 rfl (lv_at hl 0 rfl) ?_
    refine t_get0 (ci := 11) X Y S k0 rfl i_Va 3 (by decide) rfl lk_Va_31 (fun _ h9 => h9) d_Va_coin_74 ((gF_same (s26.2.2.2 _ ⟨(t_obj S.1 k0).1, by rw [k0]; decide, by simp⟩).1 3).trans ((gF_same (s24.2.2.2 _ ⟨(t_obj S.1 k0).1, by rw [k0]; decide, by simp⟩).1 3).trans ((gF_same (s21.2.2.2 _ ⟨(t_obj S.1 k0).1, by rw [k0]; decide, by simp⟩).1 3).trans ((gF_same (s20.2.2.2 _ ⟨(t_obj S.1 k0).1, by rw [k0]; decide, by simp⟩).1 3).trans e17)))) ?_
    refine t_getr (ci := 6) X Y S k17 rfl i_Ha 7 (by decide) rfl (k1 := 1) (k2 := 20) rfl rfl lk_Va_125 (fun _ h9 => h9) d_Va_coin_77 (fun b27 e27 k27 => ?_)
    refine lv_iconst (v := iI 0) X.1 X.2.1 d_Va_coin_80 (by decide) ?_
    refine lv_aload_n X.1 X.2.1 d_Va_coin_81 rfl (lv_at hl 0 rfl) ?_
    refine t_getr (ci := 11) X Y S k0 rfl i_Va 7 (by decide) rfl (k1 := 1) (k2 := 20) rfl rfl lk_Va_46 (fun _ h9 => h9) d_Va_coin_82 (fun b28 e28 k28 => ?_)
    refine lv_iconst (v := iI 0) X.1 X.2.1 d_Va_coin_85 (by decide) ?_
    refine lv_bipush (v := iI 20) X.1 X.2.1 d_Va_coin_86 (by decide) ?_
    refine t_copyB X Y S KS (hml.trans hl.1.symm) kl_Va_copy (Or.inl k27) k28 (by omega) (by omega) (by omega) (by omega) (by omega) (by omega) (by omega) (fun h9 => h9.2.1 (by rw [← (S.2.2.2 _ h9).2, k28]; decide)) (Nat.le_of_ble_eq_true rfl) (Nat.le_of_ble_eq_true rfl) d_Va_coin_88 (fun f29 H locs Y S w29 => ?_)
    refine lv_aload_n X.1 X.2.1 d_Va_coin_91 rfl (lv_at hl 0 rfl) ?_
    refine lv_iconst (v := iI 0) X.1 X.2.1 d_Va_coin_92 (by decide) ?_
    refine t_put (ci := 11) X Y S k0 rfl i_Va t_Va t_Va_ok n_Va 8 (by decide) rfl lk_Va_49 (fun _ h9 => h9) rfl (t_Va_ok 8 (by decide)) rfl rfl ⟨_, rfl, by omega, by omega⟩ (fun h9 => h9.2.1 (by rw [← (S.2.2.2 _ h9).2, k0]; decide)) d_Va_coin_93 (fun f30 H locs Y S w30 => ?_)
    refine lv_aload_n X.1 X.2.1 d_Va_coin_96 rfl (lv_at hl 0 rfl) ?_
    refine lv_dup X.1 X.2.1 d_Va_coin_97 rfl ?_
    refine t_get0 (ci := 11) X Y S k0 rfl i_Va 9 (by decide) rfl lk_Va_103 (fun _ h9 => h9) d_Va_coin_98 ((gF_put w30 (Or.inr (by decide))).trans ((gF_same (w29 _ (k_ne k0 k28 (by decide))) 9).trans ((gF_same (s26.2.2.2 _ ⟨(t_obj S.1 k0).1, by rw [k0]; decide, by simp⟩).1 9).trans ((gF_same (s24.2.2.2 _ ⟨(t_obj S.1 k0).1, by rw [k0]; decide, by simp⟩).1 9).trans ((gF_same (s21.2.2.2 _ ⟨(t_obj S.1 k0).1, by rw [k0]; decide, by simp⟩).1 9).trans ((gF_same (s20.2.2.2 _ ⟨(t_obj S.1 k0).1, by rw [k0]; decide, by simp⟩).1 9).trans ((gF_same (s16.2.2.2 _ ⟨(t_obj S.1 k0).1, by rw [k0]; decide, by simp⟩).1 9).trans e15))))))) ?_
    refine lv_iconst (v := iI 1) X.1 X.2.1 d_Va_coin_101 (by decide) ?_
    refine lv_iadd X.1 X.2.1 d_Va_coin_102 ?_
    refine t_u (fun z31 l31 u31 => ?_)
    refine t_put (ci := 11) X Y S k0 rfl i_Va t_Va t_Va_ok n_Va 9 (by decide) rfl lk_Va_103 (fun _ h9 => h9) rfl (t_Va_ok 9 (by decide)) rfl rfl ⟨_, rfl, by omega, by omega⟩ (fun h9 => h9.2.1 (by rw [← (S.2.2.2 _ h9).2, k0]; decide)) d_Va_coin_103 (fun f32 H locs Y S w32 => ?_)
    exact J3 f32 _ _ _  Y S (lv_sub hl [0] rfl)
set_option maxHeartbeats 4000000 in
set_option maxRecDepth 100000 in
theorem c_Va_freshNumber (l : Launch) (D : va_G) (E : cE) (T : cT) (κ : tK) (L : List Nat) (f : pF) (sz : Nat) (h : Nat) (k0 : κ h = (21, 0)) (hw : tW E T κ L f) : Met l y_Va_freshNumber (k_Va_freshNumber :: lw_tg) (kRm 5 158 0 0) (va_Pc [.ref h] (kPre D E T L f sz)) (va_Qi (nPi E T [1, 2, 3, 4, 13, 16, 21] κ L f (fun (z : Int) (g : pF) => (-2147483648) ≤ z ∧ z ≤ 2147483647)) (cPost D E (pA L sz)) (pA L sz)) 0 0 (pA L sz) := by
  refine k_enter (own := R_Va) (by decide) rfl (Nat.le_of_ble_eq_true rfl) (fun p e s m below meth c ls AV QQ H locs hQQ X Y hA hin hr hlk hml hl KS KR => ?_)
  have hl : lv_has ls 3 [(0, .ref h)] := hl
  have S : tS E T (tFr κ L [1, 2, 3, 4, 13, 16, 21] []) κ L f κ L f := tS_rf hw
  refine lv_iconst (v := iI 0) X.1 X.2.1 d_Va_freshNumber_0 (by decide) ?_
  refine lv_istore_n (lv' := [(1, .int (iI 0)), (0, .ref h)]) X.1 X.2.1 d_Va_freshNumber_1 rfl hl (by decide) rfl (fun ls hl => ?_)
  refine lv_iconst (v := iI 0) X.1 X.2.1 d_Va_freshNumber_2 (by decide) ?_
  have J4 : ∀ (n6 : Nat) (z2 : Int) (z3 : Int) (f1 : pF) (H : Heap) (locs : List Loc) (ls : Array Slot), (4 - z3).toNat = n6 → ((-2147483648) ≤ z2) → (z2 ≤ 2147483647) → (0 ≤ z3) → (z3 ≤ 4) → pH D cCl (pA L sz) s.heap L f1 H locs → tS E T (tFr κ L [1, 2, 3, 4, 13, 16, 21] []) κ L f κ L f1 → lv_has ls 3 [(0, .ref h), (1, .int (iI z2)), (2, .int (iI z3))] → W p l e (kRm 5 158 0 0) s m AV below meth c H locs 0 0 QQ (F0 m 4 ls []) := by
    intro n6
    induction n6 using Nat.strongRecOn with
    | ind n6 ih5 =>
      intro z2 z3 f1 H locs ls hm7 l2 u2 l3 u3 Y S hl
      refine lv_iload_n X.1 X.2.1 d_Va_freshNumber_4 rfl (lv_at hl 2 rfl) ?_
      refine lv_iconst (v := iI 4) X.1 X.2.1 d_Va_freshNumber_5 (by decide) ?_
      refine z_icmp_ge (tgt := 25) X.1 X.2.1 d_Va_freshNumber_6 (by decide) ⟨by omega, by omega⟩ ⟨by omega, by omega⟩ (fun h8 => ?_) (fun h8 => ?_)
      · refine lv_iload_n X.1 X.2.1 d_Va_freshNumber_25 rfl (lv_at hl 1 rfl) ?_
        exact c_reti hQQ X Y hr hlk ⟨rfl, S, z2, rfl, ⟨by omega, by omega⟩⟩ d_Va_freshNumber_26
      · refine lv_iload_n X.1 X.2.1 d_Va_freshNumber_9 rfl (lv_at hl 1 rfl) ?_
        refine lv_bipush (v := iI 8) X.1 X.2.1 d_Va_freshNumber_10 (by decide) ?_
        refine lv_ishl X.1 X.2.1 d_Va_freshNumber_12 ?_
        refine t_u (fun z9 l9 u9 => ?_)
        refine lv_aload_n X.1 X.2.1 d_Va_freshNumber_13 rfl (lv_at hl 0 rfl) ?_
        refine t_ni (t_runV (As := []) (rest := [.int (iI z9)]) (n := 0) X Y S k0 hml hl.1 (c_Va_coin l D E T κ L f1 H.size h k0 S.1) (ok_k X Y hA KS KR) rfl kl_Va_Va_coin ks_Va_coin kx_Va_coin ki_Va_coin ini_Va ⟨rfl, rfl⟩ hd_Va_coin ⟨Nat.le_of_ble_eq_true rfl, Nat.le_of_ble_eq_true rfl⟩ rfl (Nat.le_of_ble_eq_true rfl) d_Va_freshNumber_14 ⟨Nat.le_of_ble_eq_true rfl, Nat.le_of_ble_eq_true rfl⟩) X Y hA S (by decide) (fun z10 f10 H locs Y S s10 p10 => ?_)
        obtain ⟨l10, u10⟩ := p10
        refine lv_ior X.1 X.2.1 d_Va_freshNumber_17 ?_
        refine t_u (fun z11 l11 u11 => ?_)
        refine lv_istore_n (lv' := [(1, .int (iI z11)), (0, .ref h), (2, .int (iI z3))]) X.1 X.2.1 d_Va_freshNumber_18 rfl hl (by decide) rfl (fun ls hl => ?_)
        refine lv_iinc (v := iI (z3 + 1)) (lv' := [(2, .int (iI (z3 + 1))), (1, .int (iI z11)), (0, .ref h)]) X.1 X.2.1 d_Va_freshNumber_19 hl (k := 2) rfl ((iI_add _ _).trans (congrArg iI (by omega))) (by decide) rfl (fun ls hl => ?_)
        refine lv_goto (tgt := 4) X.1 X.2.1 d_Va_freshNumber_22 (by decide) ?_
        exact ih5 ((4 - (z3 + 1)).toNat) (by omega) z11 (z3 + 1) f10 _ _ _ rfl (by omega) (by omega) (by omega) (by omega) Y S (lv_sub hl [2, 1, 0] rfl)
  refine lv_istore_n (lv' := [(2, .int (iI 0)), (1, .int (iI 0)), (0, .ref h)]) X.1 X.2.1 d_Va_freshNumber_3 rfl hl (by decide) rfl (fun ls hl => ?_)
  exact J4 _ 0 0 f _ _ _ rfl (by omega) (by omega) (by omega) (by omega) Y S (lv_sub hl [2, 1, 0] rfl)
set_option maxHeartbeats 4000000 in
set_option maxRecDepth 100000 in
theorem c_Va_freshKey (l : Launch) (D : va_G) (E : cE) (T : cT) (κ : tK) (L : List Nat) (f : pF) (sz : Nat) (h : Nat) (k0 : κ h = (21, 0)) (a1 : Int) (l_a1 : (-2147483648) ≤ a1) (u_a1 : a1 ≤ 2147483647) (hw : tW E T κ L f) : Met l y_Va_freshKey (k_Va_freshKey :: lw_tg) (kRm 5 158 1 32) (va_Pc [.ref h, .int (iI a1)] (kPre D E T L f sz)) (va_Qr (fun _ : cU => True) (fun u r t => aPr E T [1, 2, 3, 4, 5, 6, 7, 8, 9, 10, 11, 12, 13, 14, 15, 16, 17, 18, 19, 20, 21] [] κ L f (fun (z : Nat) (k : tK) (g : pF) => (∃ n : Nat, tKey T k z n)) r u ∧ cPost D E (pA L sz) u t) (pA L sz)) 1 32 (pA L sz) := by
  refine k_enter (own := R_Va) (by decide) rfl (Nat.le_of_ble_eq_true rfl) (fun p e s m below meth c ls AV QQ H locs hQQ X Y hA hin hr hlk hml hl KS KR => ?_)
  have hl : lv_has ls 4 [(0, .ref h), (1, .int (iI a1))] := hl
  have S : tS E T (tFr κ L [1, 2, 3, 4, 5, 6, 7, 8, 9, 10, 11, 12, 13, 14, 15, 16, 17, 18, 19, 20, 21] []) κ L f κ L f := tS_rf hw
  have hF0 : ∀ b, tFr κ L [1, 2, 3, 4, 5, 6, 7, 8, 9, 10, 11, 12, 13, 14, 15, 16, 17, 18, 19, 20, 21] [] b → b ∈ L := fun b h9 => h9.1
  refine lv_iload_n X.1 X.2.1 d_Va_freshKey_0 rfl (lv_at hl 1 rfl) ?_
  refine lv_bipush (v := iI 18) X.1 X.2.1 d_Va_freshKey_1 (by decide) ?_
  refine z_icmp_ne (tgt := 11) X.1 X.2.1 d_Va_freshKey_3 (by decide) ⟨by omega, by omega⟩ ⟨by omega, by omega⟩ (fun h1 => ?_) (fun h1 => ?_)
  · refine lv_bipush (v := iI 16) X.1 X.2.1 d_Va_freshKey_11 (by decide) ?_
    refine t_newB X Y S hA hF0 (N := 16) (mx := 16) (by omega) (by omega) (by decide) (Nat.le_of_ble_eq_true rfl) (Nat.le_of_ble_eq_true rfl) d_Va_freshKey_13 (fun q2 κ2 L2 f2 H Y S s2 k2 => ?_)
    have k3 : κ2 h = (21, 0) := tLe_k s2.2.2.1 k0
    refine lv_astore_n (lv' := [(2, .ref q2), (0, .ref h), (1, .int (iI a1))]) X.1 X.2.1 d_Va_freshKey_15 rfl hl (by decide) rfl (fun ls hl => ?_)
    refine lv_iconst (v := iI 0) X.1 X.2.1 d_Va_freshKey_16 (by decide) ?_
    have J9 : ∀ (n11 : Nat) (b5 n7 : Nat) (z8 : Int) (f4 : pF) (H : Heap) (locs : List Loc) (ls : Array Slot), (32 - z8).toNat = n11 → (n7 ≤ 32) → (κ2 b5 = (1, n7)) → (0 ≤ z8) → (z8 ≤ 32) → pH D cCl (pA L sz) s.heap L2 f4 H locs → tS E T (tFr κ L [1, 2, 3, 4, 5, 6, 7, 8, 9, 10, 11, 12, 13, 14, 15, 16, 17, 18, 19, 20, 21] []) κ L f κ2 L2 f4 → lv_has ls 4 [(0, .ref h), (2, .ref b5), (3, .int (iI z8))] → W p l e (kRm 5 158 1 32) s m AV below meth c H locs 1 32 QQ (F0 m 18 ls []) := by
      intro n11
      induction n11 using Nat.strongRecOn with
      | ind n11 ih10 =>
        intro b5 n7 z8 f4 H locs ls hm12 xn7 k6 l8 u8 Y S hl
        refine lv_iload_n X.1 X.2.1 d_Va_freshKey_18 rfl (lv_at hl 2 rfl) ?_
        refine lv_aload_n X.1 X.2.1 d_Va_freshKey_19 rfl (lv_at hl 1 rfl) ?_
        refine t_alen X Y S KS (Or.inl k6) (by omega) d_Va_freshKey_20 ?_
        refine z_icmp_ge (tgt := 38) X.1 X.2.1 d_Va_freshKey_21 (by decide) ⟨by omega, by omega⟩ ⟨by omega, by omega⟩ (fun h13 => ?_) (fun h13 => ?_)
        · refine lv_aload_n X.1 X.2.1 d_Va_freshKey_38 rfl (lv_at hl 1 rfl) ?_
          exact k_retr hQQ X Y hr (Or.inr ⟨_, rfl⟩) hlk ⟨κ2, S, ⟨n7, (Or.inl ⟨k6, by omega⟩)⟩⟩ d_Va_freshKey_39
        · refine lv_aload_n X.1 X.2.1 d_Va_freshKey_24 rfl (lv_at hl 1 rfl) ?_
          refine lv_iload_n X.1 X.2.1 d_Va_freshKey_25 rfl (lv_at hl 2 rfl) ?_
          refine lv_aload_n X.1 X.2.1 d_Va_freshKey_26 rfl (lv_at hl 0 rfl) ?_
          refine t_ni (t_runV (As := []) (rest := [.int (iI z8), .ref b5]) (n := 0) X Y S k3 hml hl.1 (c_Va_coin l D E T κ2 L2 f4 H.size h k3 S.1) (ok_k X Y hA KS KR) rfl kl_Va_Va_coin ks_Va_coin kx_Va_coin ki_Va_coin ini_Va ⟨rfl, rfl⟩ hd_Va_coin ⟨Nat.le_of_ble_eq_true rfl, Nat.le_of_ble_eq_true rfl⟩ rfl (Nat.le_of_ble_eq_true rfl) d_Va_freshKey_27 ⟨Nat.le_of_ble_eq_true rfl, Nat.le_of_ble_eq_true rfl⟩) X Y hA S (by decide) (fun z14 f14 H locs Y S s14 p14 => ?_)
          obtain ⟨l14, u14⟩ := p14
          refine lv_i2b X.1 X.2.1 d_Va_freshKey_30 rfl ?_
          refine t_u (fun z15 l15 u15 => ?_)
          refine t_bast X Y S k6 (by omega) (by omega) (by omega) (fun h9 => h9.2.1 (by rw [← (S.2.2.2 _ h9).2, k6]; decide)) d_Va_freshKey_31 (fun f16 H locs Y S w16 => ?_)
          refine lv_iinc (v := iI (z8 + 1)) (lv' := [(3, .int (iI (z8 + 1))), (0, .ref h), (2, .ref b5)]) X.1 X.2.1 d_Va_freshKey_32 hl (k := 2) rfl ((iI_add _ _).trans (congrArg iI (by omega))) (by decide) rfl (fun ls hl => ?_)
          refine lv_goto (tgt := 18) X.1 X.2.1 d_Va_freshKey_35 (by decide) ?_
          exact ih10 ((32 - (z8 + 1)).toNat) (by omega) b5 n7 (z8 + 1) f16 _ _ _ rfl (by omega) k6 (by omega) (by omega) Y S (lv_sub hl [1, 2, 0] rfl)
    refine lv_istore_n (lv' := [(3, .int (iI 0)), (2, .ref q2), (0, .ref h), (1, .int (iI a1))]) X.1 X.2.1 d_Va_freshKey_17 rfl hl (by decide) rfl (fun ls hl => ?_)
    refine W.widen (k := 1) (n := 32) (Nat.le_of_ble_eq_true rfl) (Nat.le_of_ble_eq_true rfl) ?_
    exact J9 _ q2 16 0 f2 _ _ _ rfl (by omega) k2 (by omega) (by omega) Y S (lv_sub hl [2, 1, 0] rfl)
  · refine lv_bipush (v := iI 32) X.1 X.2.1 d_Va_freshKey_6 (by decide) ?_
    refine lv_goto (tgt := 13) X.1 X.2.1 d_Va_freshKey_8 (by decide) ?_
    refine t_newB X Y S hA hF0 (N := 32) (mx := 32) (by omega) (by omega) (by decide) (Nat.le_of_ble_eq_true rfl) (Nat.le_of_ble_eq_true rfl) d_Va_freshKey_13 (fun q17 κ17 L17 f17 H Y S s17 k17 => ?_)
    have k18 : κ17 h = (21, 0) := tLe_k s17.2.2.1 k0
    refine lv_astore_n (lv' := [(2, .ref q17), (0, .ref h), (1, .int (iI a1))]) X.1 X.2.1 d_Va_freshKey_15 rfl hl (by decide) rfl (fun ls hl => ?_)
    refine lv_iconst (v := iI 0) X.1 X.2.1 d_Va_freshKey_16 (by decide) ?_
    have J24 : ∀ (n26 : Nat) (b20 n22 : Nat) (z23 : Int) (f19 : pF) (H : Heap) (locs : List Loc) (ls : Array Slot), (32 - z23).toNat = n26 → (n22 ≤ 32) → (κ17 b20 = (1, n22)) → (0 ≤ z23) → (z23 ≤ 32) → pH D cCl (pA L sz) s.heap L17 f19 H locs → tS E T (tFr κ L [1, 2, 3, 4, 5, 6, 7, 8, 9, 10, 11, 12, 13, 14, 15, 16, 17, 18, 19, 20, 21] []) κ L f κ17 L17 f19 → lv_has ls 4 [(0, .ref h), (2, .ref b20), (3, .int (iI z23))] → W p l e (kRm 5 158 1 32) s m AV below meth c H locs 1 32 QQ (F0 m 18 ls []) := by
      intro n26
      induction n26 using Nat.strongRecOn with
      | ind n26 ih25 =>
        intro b20 n22 z23 f19 H locs ls hm27 xn22 k21 l23 u23 Y S hl
        refine lv_iload_n X.1 X.2.1 d_Va_freshKey_18 rfl (lv_at hl 2 rfl) ?_
        refine lv_aload_n X.1 X.2.1 d_Va_freshKey_19 rfl (lv_at hl 1 rfl) ?_
        refine t_alen X Y S KS (Or.inl k21) (by omega) d_Va_freshKey_20 ?_
        refine z_icmp_ge (tgt := 38) X.1 X.2.1 d_Va_freshKey_21 (by decide) ⟨by omega, by omega⟩ ⟨by omega, by omega⟩ (fun h28 => ?_) (fun h28 => ?_)
        · refine lv_aload_n X.1 X.2.1 d_Va_freshKey_38 rfl (lv_at hl 1 rfl) ?_
          exact k_retr hQQ X Y hr (Or.inr ⟨_, rfl⟩) hlk ⟨κ17, S, ⟨n22, (Or.inl ⟨k21, by omega⟩)⟩⟩ d_Va_freshKey_39
        · refine lv_aload_n X.1 X.2.1 d_Va_freshKey_24 rfl (lv_at hl 1 rfl) ?_
          refine lv_iload_n X.1 X.2.1 d_Va_freshKey_25 rfl (lv_at hl 2 rfl) ?_
          refine lv_aload_n X.1 X.2.1 d_Va_freshKey_26 rfl (lv_at hl 0 rfl) ?_
          refine t_ni (t_runV (As := []) (rest := [.int (iI z23), .ref b20]) (n := 0) X Y S k3 hml hl.1 (c_Va_coin l D E T κ17 L17 f19 H.size h k3 S.1) (ok_k X Y hA KS KR) rfl kl_Va_Va_coin ks_Va_coin kx_Va_coin ki_Va_coin ini_Va ⟨rfl, rfl⟩ hd_Va_coin ⟨Nat.le_of_ble_eq_true rfl, Nat.le_of_ble_eq_true rfl⟩ rfl (Nat.le_of_ble_eq_true rfl) d_Va_freshKey_27 ⟨Nat.le_of_ble_eq_true rfl, Nat.le_of_ble_eq_true rfl⟩) X Y hA S (by decide) (fun z29 f29 H locs Y S s29 p29 => ?_)
          obtain ⟨l29, u29⟩ := p29
          refine lv_i2b X.1 X.2.1 d_Va_freshKey_30 rfl ?_
          refine t_u (fun z30 l30 u30 => ?_)
          refine t_bast X Y S k21 (by omega) (by omega) (by omega) (fun h9 => h9.2.1 (by rw [← (S.2.2.2 _ h9).2, k21]; decide)) d_Va_freshKey_31 (fun f31 H locs Y S w31 => ?_)
          refine lv_iinc (v := iI (z23 + 1)) (lv' := [(3, .int (iI (z23 + 1))), (0, .ref h), (2, .ref b20)]) X.1 X.2.1 d_Va_freshKey_32 hl (k := 2) rfl ((iI_add _ _).trans (congrArg iI (by omega))) (by decide) rfl (fun ls hl => ?_)
          refine lv_goto (tgt := 18) X.1 X.2.1 d_Va_freshKey_35 (by decide) ?_
          exact ih25 ((32 - (z23 + 1)).toNat) (by omega) b20 n22 (z23 + 1) f31 _ _ _ rfl (by omega) k21 (by omega) (by omega) Y S (lv_sub hl [1, 2, 0] rfl)
    refine lv_istore_n (lv' := [(3, .int (iI 0)), (2, .ref q17), (0, .ref h), (1, .int (iI a1))]) X.1 X.2.1 d_Va_freshKey_17 rfl hl (by decide) rfl (fun ls hl => ?_)
    exact J24 _ q17 32 0 f17 _ _ _ rfl (by omega) k17 (by omega) (by omega) Y S (lv_sub hl [2, 1, 0] rfl)
set_option maxHeartbeats 4000000 in
set_option maxRecDepth 100000 in
theorem c_Va_putSalt (l : Launch) (D : va_G) (E : cE) (T : cT) (κ : tK) (L : List Nat) (f : pF) (sz : Nat) (a1 n1 : Nat) (k1 : κ a1 = (13, n1)) (x1 : n1 ≤ 12288) (a2 n2 : Nat) (k2 : κ a2 = (13, n2)) (x2 : n2 ≤ 12288) (hw : tW E T κ L f) : Met l y_Va_putSalt (k_Va_putSalt :: lw_tg) (kRm 5 112 0 0) (va_Pc [.ref a1, .ref a2] (kPre D E T L f sz)) (va_Qv (nPv E T [1, 13] κ L f (fun (g : pF) => True)) (cPost D E (pA L sz)) (pA L sz)) 0 0 (pA L sz) := by
  refine k_enter (own := R_Va) (by decide) rfl (Nat.le_of_ble_eq_true rfl) (fun p e s m below meth c ls AV QQ H locs hQQ X Y hA hin hr hlk hml hl KS KR => ?_)
  have hl : lv_has ls 6 [(0, .ref a1), (1, .ref a2)] := hl
  have S : tS E T (tFr κ L [1, 13] []) κ L f κ L f := tS_rf hw
  refine lv_aload_n X.1 X.2.1 d_Va_putSalt_0 rfl (lv_at hl 0 rfl) ?_
  refine k_ldcS (i := 2) X KR (by decide) ⟨by decide, by decide⟩ d_Va_putSalt_1 ?_
  refine t_nv (t_runV (As := [.ref ((T.2.1 2))]) (rest := []) (n := 1) X Y S k1 hml hl.1 (c_By_putLetters l D E T κ L f H.size a1 n1 k1 (by omega) 2 (show 2 < nY by decide) S.1) (ok_k X Y hA KS KR) rfl kl_Va_By_putLetters ks_By_putLetters kx_By_putLetters ki_By_putLetters ini_By ⟨rfl, rfl⟩ hd_By_putLetters ⟨Nat.le_of_ble_eq_true rfl, Nat.le_of_ble_eq_true rfl⟩ rfl (Nat.le_of_ble_eq_true rfl) d_Va_putSalt_3 ⟨Nat.le_of_ble_eq_true rfl, Nat.le_of_ble_eq_true rfl⟩) X Y hA S (by decide) (fun f1 H locs Y S s1 p1 => ?_)
  refine lv_iconst (v := iI 0) X.1 X.2.1 d_Va_putSalt_6 (by decide) ?_
  refine lv_istore_n (lv' := [(2, .int (iI 0)), (0, .ref a1), (1, .ref a2)]) X.1 X.2.1 d_Va_putSalt_7 rfl hl (by decide) rfl (fun ls hl => ?_)
  refine lv_iconst (v := iI 0) X.1 X.2.1 d_Va_putSalt_8 (by decide) ?_
  have J5 : ∀ (n7 : Nat) (z3 : Int) (z4 : Int) (f2 : pF) (H : Heap) (locs : List Loc) (ls : Array Slot), (2 - z4).toNat = n7 → ((-1) ≤ z3) → (z3 ≤ 12288) → (0 ≤ z4) → (z4 ≤ 2) → pH D cCl (pA L sz) s.heap L f2 H locs → tS E T (tFr κ L [1, 13] []) κ L f κ L f2 → lv_has ls 6 [(0, .ref a1), (1, .ref a2), (2, .int (iI z3)), (3, .int (iI z4))] → W p l e (kRm 5 112 0 0) s m AV below meth c H locs 0 0 QQ (F0 m 10 ls []) := by
    intro n7
    induction n7 using Nat.strongRecOn with
    | ind n7 ih6 =>
      intro z3 z4 f2 H locs ls hm8 l3 u3 l4 u4 Y S hl
      refine lv_iload_n X.1 X.2.1 d_Va_putSalt_10 rfl (lv_at hl 3 rfl) ?_
      refine lv_iconst (v := iI 2) X.1 X.2.1 d_Va_putSalt_11 (by decide) ?_
      refine z_icmp_ge (tgt := 65) X.1 X.2.1 d_Va_putSalt_12 (by decide) ⟨by omega, by omega⟩ ⟨by omega, by omega⟩ (fun h9 => ?_) (fun h9 => ?_)
      · exact c_retv hQQ X Y hr hlk ⟨rfl, S, trivial⟩ d_Va_putSalt_65
      · refine lv_iload_n X.1 X.2.1 d_Va_putSalt_15 rfl (lv_at hl 2 rfl) ?_
        refine lv_aload_n X.1 X.2.1 d_Va_putSalt_16 rfl (lv_at hl 1 rfl) ?_
        refine t_gets (ci := 3) X Y S k2 rfl i_By 1 (by decide) rfl lk_Va_77 (fun _ h9 => h9) d_Va_putSalt_17 (fun z10 e10 l10 u10 => ?_)
        refine z_icmp_ge (tgt := 65) X.1 X.2.1 d_Va_putSalt_20 (by decide) ⟨by omega, by omega⟩ ⟨by omega, by omega⟩ (fun h11 => ?_) (fun h11 => ?_)
        · exact c_retv hQQ X Y hr hlk ⟨rfl, S, trivial⟩ d_Va_putSalt_65
        · refine lv_aload_n X.1 X.2.1 d_Va_putSalt_23 rfl (lv_at hl 1 rfl) ?_
          refine lv_iload_n X.1 X.2.1 d_Va_putSalt_24 rfl (lv_at hl 2 rfl) ?_
          refine t_ui (t_runV (As := [.int (iI z3)]) (rest := []) (n := 1) X Y S k2 hml hl.1 (c_By_body l D E T κ L f2 H.size a2 n2 k2 (by omega) z3 (by omega) (by omega) S.1 z10 e10 (by omega) (by omega)) (ok_k X Y hA KS KR) rfl kl_Va_By_body ks_By_body kx_By_body ki_By_body ini_By ⟨rfl, rfl⟩ hd_By_body ⟨Nat.le_of_ble_eq_true rfl, Nat.le_of_ble_eq_true rfl⟩ rfl (Nat.le_of_ble_eq_true rfl) d_Va_putSalt_25 ⟨Nat.le_of_ble_eq_true rfl, Nat.le_of_ble_eq_true rfl⟩) X Y hA (fun z12 H locs Y p12 => ?_)
          obtain ⟨l12, u12, x12⟩ := p12
          refine lv_istore (lv' := [(4, .int (iI z12)), (0, .ref a1), (1, .ref a2), (2, .int (iI z3)), (3, .int (iI z4))]) X.1 X.2.1 d_Va_putSalt_28 hl (by decide) rfl (fun ls hl => ?_)
          refine lv_aload_n X.1 X.2.1 d_Va_putSalt_30 rfl (lv_at hl 2 rfl) ?_
          refine lv_iload_n X.1 X.2.1 d_Va_putSalt_31 rfl (lv_at hl 3 rfl) ?_
          refine lv_aload_n X.1 X.2.1 d_Va_putSalt_32 rfl (lv_at hl 2 rfl) ?_
          refine t_get0 (ci := 3) X Y S k2 rfl i_By 1 (by decide) rfl lk_Va_77 (fun _ h9 => h9) d_Va_putSalt_33 e10 ?_
          refine t_ui (t_runV (As := [.int (iI z3), .int (iI z10)]) (rest := []) (n := 2) X Y S k2 hml hl.1 (c_By_stop l D E T κ L f2 H.size a2 n2 k2 (by omega) z3 (by omega) (by omega) z10 (by omega) (by omega) S.1 z10 e10 (by omega) (by omega)) (ok_k X Y hA KS KR) rfl kl_Va_By_stop ks_By_stop kx_By_stop ki_By_stop ini_By ⟨rfl, rfl⟩ hd_By_stop ⟨Nat.le_of_ble_eq_true rfl, Nat.le_of_ble_eq_true rfl⟩ rfl (Nat.le_of_ble_eq_true rfl) d_Va_putSalt_36 ⟨Nat.le_of_ble_eq_true rfl, Nat.le_of_ble_eq_true rfl⟩) X Y hA (fun z13 H locs Y p13 => ?_)
          obtain ⟨l13, u13, x13⟩ := p13
          refine lv_istore (lv' := [(5, .int (iI z13)), (4, .int (iI z12)), (0, .ref a1), (1, .ref a2), (2, .int (iI z3)), (3, .int (iI z4))]) X.1 X.2.1 d_Va_putSalt_39 hl (by decide) rfl (fun ls hl => ?_)
          refine lv_aload_n X.1 X.2.1 d_Va_putSalt_41 rfl (lv_at hl 2 rfl) ?_
          refine lv_aload_n X.1 X.2.1 d_Va_putSalt_42 rfl (lv_at hl 3 rfl) ?_
          refine t_getrow (ci := 3) X Y S k2 rfl i_By 0 (by decide) rfl lk_Va_86 (fun _ h9 => h9) d_Va_putSalt_43 (fun b14 e14 k14 => ?_)
          refine lv_iload X.1 X.2.1 d_Va_putSalt_46 (lv_at hl 1 rfl) ?_
          refine lv_iload X.1 X.2.1 d_Va_putSalt_48 (lv_at hl 0 rfl) ?_
          refine lv_iload X.1 X.2.1 d_Va_putSalt_50 (lv_at hl 1 rfl) ?_
          refine z_isub X.1 X.2.1 d_Va_putSalt_52 ?_
          refine t_nv (t_runV (As := [.ref b14, .int (iI z12), .int (iI (z13 - z12))]) (rest := []) (n := 3) X Y S k1 hml hl.1 (c_By_append l D E T κ L f2 H.size a1 n1 k1 (by omega) b14 n2 (Or.inl k14) (by omega) z12 (by omega) (by omega) (z13 - z12) (by omega) (by omega) S.1) (ok_k X Y hA KS KR) rfl kl_Va_By_append ks_By_append kx_By_append ki_By_append ini_By ⟨rfl, rfl⟩ hd_By_append ⟨Nat.le_of_ble_eq_true rfl, Nat.le_of_ble_eq_true rfl⟩ rfl (Nat.le_of_ble_eq_true rfl) d_Va_putSalt_53 ⟨Nat.le_of_ble_eq_true rfl, Nat.le_of_ble_eq_true rfl⟩) X Y hA S (by decide) (fun f15 H locs Y S s15 p15 => ?_)
          refine lv_iload X.1 X.2.1 d_Va_putSalt_56 (lv_at hl 0 rfl) ?_
          refine lv_istore_n (lv' := [(2, .int (iI z13)), (5, .int (iI z13)), (4, .int (iI z12)), (0, .ref a1), (1, .ref a2), (3, .int (iI z4))]) X.1 X.2.1 d_Va_putSalt_58 rfl hl (by decide) rfl (fun ls hl => ?_)
          refine lv_iinc (v := iI (z4 + 1)) (lv' := [(3, .int (iI (z4 + 1))), (2, .int (iI z13)), (5, .int (iI z13)), (4, .int (iI z12)), (0, .ref a1), (1, .ref a2)]) X.1 X.2.1 d_Va_putSalt_59 hl (k := 5) rfl ((iI_add _ _).trans (congrArg iI (by omega))) (by decide) rfl (fun ls hl => ?_)
          refine lv_goto (tgt := 10) X.1 X.2.1 d_Va_putSalt_62 (by decide) ?_
          exact ih6 ((2 - (z4 + 1)).toNat) (by omega) z13 (z4 + 1) f15 _ _ _ rfl (by omega) (by omega) (by omega) (by omega) Y S (lv_sub hl [4, 5, 1, 0] rfl)
  refine lv_istore_n (lv' := [(3, .int (iI 0)), (2, .int (iI 0)), (0, .ref a1), (1, .ref a2)]) X.1 X.2.1 d_Va_putSalt_9 rfl hl (by decide) rfl (fun ls hl => ?_)
  exact J5 _ 0 0 f1 _ _ _ rfl (by omega) (by omega) (by omega) (by omega) Y S (lv_sub hl [2, 3, 1, 0] rfl)
set_option maxHeartbeats 4000000 in
set_option maxRecDepth 100000 in
theorem c_Va_stretch (l : Launch) (D : va_G) (E : cE) (T : cT) (κ : tK) (L : List Nat) (f : pF) (sz : Nat) (h : Nat) (k0 : κ h = (21, 0)) (a1 : Int) (l_a1 : (-2147483648) ≤ a1) (u_a1 : a1 ≤ 2147483647) (hw : tW E T κ L f) : Met l y_Va_stretch (k_Va_stretch :: lw_tg) (kRm 4 130 0 0) (va_Pc [.ref h, .int (iI a1)] (kPre D E T L f sz)) (va_Qv (nPv E T [1, 2, 3, 4, 16] κ L f (fun (g : pF) => True)) (cPost D E (pA L sz)) (pA L sz)) 0 0 (pA L sz) := by
  refine k_enter (own := R_Va) (by decide) rfl (Nat.le_of_ble_eq_true rfl) (fun p e s m below meth c ls AV QQ H locs hQQ X Y hA hin hr hlk hml hl KS KR => ?_)
  have hl : lv_has ls 4 [(0, .ref h), (1, .int (iI a1))] := hl
  have S : tS E T (tFr κ L [1, 2, 3, 4, 16] []) κ L f κ L f := tS_rf hw
  refine lv_aload_n X.1 X.2.1 d_Va_stretch_0 rfl (lv_at hl 0 rfl) ?_
  refine t_getr (ci := 11) X Y S k0 rfl i_Va 3 (by decide) rfl (k1 := 16) (k2 := 0) rfl rfl lk_Va_31 (fun _ h9 => h9) d_Va_stretch_1 (fun b1 e1 k1 => ?_)
  refine t_nv (t_runV (As := []) (rest := []) (n := 0) X Y S k1 hml hl.1 (c_Ha_begin l D E T κ L f H.size b1 k1 S.1) (ok_k X Y hA KS KR) rfl kl_Va_Ha_begin ks_Ha_begin kx_Ha_begin ki_Ha_begin ini_Ha ⟨rfl, rfl⟩ hd_Ha_begin ⟨Nat.le_of_ble_eq_true rfl, Nat.le_of_ble_eq_true rfl⟩ rfl (Nat.le_of_ble_eq_true rfl) d_Va_stretch_4 ⟨Nat.le_of_ble_eq_true rfl, Nat.le_of_ble_eq_true rfl⟩) X Y hA S (by decide) (fun f2 H locs Y S s2 p2 => ?_)
  obtain x2 := p2
  obtain ⟨z3, e3, l3, u3⟩ := x2
  refine lv_aload_n X.1 X.2.1 d_Va_stretch_7 rfl (lv_at hl 0 rfl) ?_
  refine t_get0 (ci := 11) X Y S k0 rfl i_Va 3 (by decide) rfl lk_Va_31 (fun _ h9 => h9) d_Va_stretch_8 ((gF_same (s2.2.2.2 _ ⟨(t_obj S.1 k0).1, by rw [k0]; decide, by simp⟩).1 3).trans e1) ?_
  refine lv_aload_n X.1 X.2.1 d_Va_stretch_11 rfl (lv_at hl 0 rfl) ?_
  refine t_getr (ci := 11) X Y S k0 rfl i_Va 12 (by decide) rfl (k1 := 13) (k2 := 64) rfl rfl lk_Va_58 (fun _ h9 => h9) d_Va_stretch_12 (fun b4 e4 k4 => ?_)
  refine t_getrow (ci := 3) X Y S k4 rfl i_By 0 (by decide) rfl lk_Va_86 (fun _ h9 => h9) d_Va_stretch_15 (fun b5 e5 k5 => ?_)
  refine lv_iconst (v := iI 0) X.1 X.2.1 d_Va_stretch_18 (by decide) ?_
  refine lv_aload_n X.1 X.2.1 d_Va_stretch_19 rfl (lv_at hl 0 rfl) ?_
  refine t_get0 (ci := 11) X Y S k0 rfl i_Va 12 (by decide) rfl lk_Va_58 (fun _ h9 => h9) d_Va_stretch_20 e4 ?_
  refine t_gets (ci := 3) X Y S k4 rfl i_By 1 (by decide) rfl lk_Va_77 (fun _ h9 => h9) d_Va_stretch_23 (fun z6 e6 l6 u6 => ?_)
  refine t_nv (t_runV (As := [.ref b5, .int (iI 0), .int (iI z6)]) (rest := []) (n := 3) X Y S k1 hml hl.1 (c_Ha_add l D E T κ L f2 H.size b1 k1 b5 64 (Or.inl k5) (by omega) 0 (by omega) (by omega) z6 (by omega) (by omega) S.1 z3 e3 (by omega) (by omega)) (ok_k X Y hA KS KR) rfl kl_Va_Ha_add ks_Ha_add kx_Ha_add ki_Ha_add ini_Ha ⟨rfl, rfl⟩ hd_Ha_add ⟨Nat.le_of_ble_eq_true rfl, Nat.le_of_ble_eq_true rfl⟩ rfl (Nat.le_of_ble_eq_true rfl) d_Va_stretch_26 ⟨Nat.le_of_ble_eq_true rfl, Nat.le_of_ble_eq_true rfl⟩) X Y hA S (by decide) (fun f7 H locs Y S s7 p7 => ?_)
  obtain x7 := p7
  obtain ⟨z8, e8, l8, u8⟩ := x7
  refine lv_aload_n X.1 X.2.1 d_Va_stretch_29 rfl (lv_at hl 0 rfl) ?_
  refine t_get0 (ci := 11) X Y S k0 rfl i_Va 3 (by decide) rfl lk_Va_31 (fun _ h9 => h9) d_Va_stretch_30 ((gF_same (s7.2.2.2 _ ⟨(t_obj S.1 k0).1, by rw [k0]; decide, by simp⟩).1 3).trans ((gF_same (s2.2.2.2 _ ⟨(t_obj S.1 k0).1, by rw [k0]; decide, by simp⟩).1 3).trans e1)) ?_
  refine t_nv (t_runV (As := []) (rest := []) (n := 0) X Y S k1 hml hl.1 (c_Ha_finish l D E T κ L f7 H.size b1 k1 S.1 z8 e8 (by omega) (by omega)) (ok_k X Y hA KS KR) rfl kl_Va_Ha_finish ks_Ha_finish kx_Ha_finish ki_Ha_finish ini_Ha ⟨rfl, rfl⟩ hd_Ha_finish ⟨Nat.le_of_ble_eq_true rfl, Nat.le_of_ble_eq_true rfl⟩ rfl (Nat.le_of_ble_eq_true rfl) d_Va_stretch_33 ⟨Nat.le_of_ble_eq_true rfl, Nat.le_of_ble_eq_true rfl⟩) X Y hA S (by decide) (fun f9 H locs Y S s9 p9 => ?_)
  refine lv_aload_n X.1 X.2.1 d_Va_stretch_36 rfl (lv_at hl 0 rfl) ?_
  refine t_get0 (ci := 11) X Y S k0 rfl i_Va 3 (by decide) rfl lk_Va_31 (fun _ h9 => h9) d_Va_stretch_37 ((gF_same (s9.2.2.2 _ ⟨(t_obj S.1 k0).1, by rw [k0]; decide, by simp⟩).1 3).trans ((gF_same (s7.2.2.2 _ ⟨(t_obj S.1 k0).1, by rw [k0]; decide, by simp⟩).1 3).trans ((gF_same (s2.2.2.2 _ ⟨(t_obj S.1 k0).1, by rw [k0]; decide, by simp⟩).1 3).trans e1))) ?_
  refine t_getr (ci := 6) X Y S k1 rfl i_Ha 7 (by decide) rfl (k1 := 1) (k2 := 20) rfl rfl lk_Va_125 (fun _ h9 => h9) d_Va_stretch_40 (fun b10 e10 k10 => ?_)
  refine lv_iconst (v := iI 0) X.1 X.2.1 d_Va_stretch_43 (by decide) ?_
  refine lv_aload_n X.1 X.2.1 d_Va_stretch_44 rfl (lv_at hl 0 rfl) ?_
  refine t_getr (ci := 11) X Y S k0 rfl i_Va 11 (by decide) rfl (k1 := 1) (k2 := 20) rfl rfl lk_Va_55 (fun _ h9 => h9) d_Va_stretch_45 (fun b11 e11 k11 => ?_)
  refine lv_iconst (v := iI 0) X.1 X.2.1 d_Va_stretch_48 (by decide) ?_
  refine lv_bipush (v := iI 20) X.1 X.2.1 d_Va_stretch_49 (by decide) ?_
  refine t_copyB X Y S KS (hml.trans hl.1.symm) kl_Va_copy (Or.inl k10) k11 (by omega) (by omega) (by omega) (by omega) (by omega) (by omega) (by omega) (fun h9 => h9.2.1 (by rw [← (S.2.2.2 _ h9).2, k11]; decide)) (Nat.le_of_ble_eq_true rfl) (Nat.le_of_ble_eq_true rfl) d_Va_stretch_51 (fun f12 H locs Y S w12 => ?_)
  refine lv_iconst (v := iI 1) X.1 X.2.1 d_Va_stretch_54 (by decide) ?_
  have J15 : ∀ (n17 : Nat) (z14 : Int) (f13 : pF) (H : Heap) (locs : List Loc) (ls : Array Slot), (200 - z14).toNat = n17 → (1 ≤ z14) → (z14 ≤ 200) → pH D cCl (pA L sz) s.heap L f13 H locs → tS E T (tFr κ L [1, 2, 3, 4, 16] []) κ L f κ L f13 → lv_has ls 4 [(0, .ref h), (1, .int (iI a1)), (2, .int (iI z14))] → W p l e (kRm 4 130 0 0) s m AV below meth c H locs 0 0 QQ (F0 m 56 ls []) := by
    intro n17
    induction n17 using Nat.strongRecOn with
    | ind n17 ih16 =>
      intro z14 f13 H locs ls hm18 l14 u14 Y S hl
      refine lv_iload_n X.1 X.2.1 d_Va_stretch_56 rfl (lv_at hl 2 rfl) ?_
      refine lv_iload_n X.1 X.2.1 d_Va_stretch_57 rfl (lv_at hl 1 rfl) ?_
      refine z_icmp_ge (tgt := 138) X.1 X.2.1 d_Va_stretch_58 (by decide) ⟨by omega, by omega⟩ ⟨by omega, by omega⟩ (fun h19 => ?_) (fun h19 => ?_)
      · exact c_retv hQQ X Y hr hlk ⟨rfl, S, trivial⟩ d_Va_stretch_138
      · refine lv_iload_n X.1 X.2.1 d_Va_stretch_61 rfl (lv_at hl 2 rfl) ?_
        refine lv_sipush (v := iI 200) X.1 X.2.1 d_Va_stretch_62 (by decide) ?_
        refine z_icmp_ge (tgt := 138) X.1 X.2.1 d_Va_stretch_65 (by decide) ⟨by omega, by omega⟩ ⟨by omega, by omega⟩ (fun h20 => ?_) (fun h20 => ?_)
        · exact c_retv hQQ X Y hr hlk ⟨rfl, S, trivial⟩ d_Va_stretch_138
        · refine lv_aload_n X.1 X.2.1 d_Va_stretch_68 rfl (lv_at hl 0 rfl) ?_
          refine t_getr (ci := 11) X Y S k0 rfl i_Va 3 (by decide) rfl (k1 := 16) (k2 := 0) rfl rfl lk_Va_31 (fun _ h9 => h9) d_Va_stretch_69 (fun b21 e21 k21 => ?_)
          refine t_nv (t_runV (As := []) (rest := []) (n := 0) X Y S k21 hml hl.1 (c_Ha_begin l D E T κ L f13 H.size b21 k21 S.1) (ok_k X Y hA KS KR) rfl kl_Va_Ha_begin ks_Ha_begin kx_Ha_begin ki_Ha_begin ini_Ha ⟨rfl, rfl⟩ hd_Ha_begin ⟨Nat.le_of_ble_eq_true rfl, Nat.le_of_ble_eq_true rfl⟩ rfl (Nat.le_of_ble_eq_true rfl) d_Va_stretch_72 ⟨Nat.le_of_ble_eq_true rfl, Nat.le_of_ble_eq_true rfl⟩) X Y hA S (by decide) (fun f22 H locs Y S s22 p22 => ?_)
          obtain x22 := p22
          obtain ⟨z23, e23, l23, u23⟩ := x22
          refine lv_aload_n X.1 X.2.1 d_Va_stretch_75 rfl (lv_at hl 0 rfl) ?_
          refine t_get0 (ci := 11) X Y S k0 rfl i_Va 3 (by decide) rfl lk_Va_31 (fun _ h9 => h9) d_Va_stretch_76 ((gF_same (s22.2.2.2 _ ⟨(t_obj S.1 k0).1, by rw [k0]; decide, by simp⟩).1 3).trans e21) ?_
          refine lv_aload_n X.1 X.2.1 d_Va_stretch_79 rfl (lv_at hl 0 rfl) ?_
          refine t_get0 (ci := 11) X Y S k0 rfl i_Va 3 (by decide) rfl lk_Va_31 (fun _ h9 => h9) d_Va_stretch_80 ((gF_same (s22.2.2.2 _ ⟨(t_obj S.1 k0).1, by rw [k0]; decide, by simp⟩).1 3).trans e21) ?_
          refine t_getr (ci := 6) X Y S k21 rfl i_Ha 7 (by decide) rfl (k1 := 1) (k2 := 20) rfl rfl lk_Va_125 (fun _ h9 => h9) d_Va_stretch_83 (fun b24 e24 k24 => ?_)
          refine lv_iconst (v := iI 0) X.1 X.2.1 d_Va_stretch_86 (by decide) ?_
          refine lv_bipush (v := iI 20) X.1 X.2.1 d_Va_stretch_87 (by decide) ?_
          refine t_nv (t_runV (As := [.ref b24, .int (iI 0), .int (iI 20)]) (rest := []) (n := 3) X Y S k21 hml hl.1 (c_Ha_add l D E T κ L f22 H.size b21 k21 b24 20 (Or.inl k24) (by omega) 0 (by omega) (by omega) 20 (by omega) (by omega) S.1 z23 e23 (by omega) (by omega)) (ok_k X Y hA KS KR) rfl kl_Va_Ha_add ks_Ha_add kx_Ha_add ki_Ha_add ini_Ha ⟨rfl, rfl⟩ hd_Ha_add ⟨Nat.le_of_ble_eq_true rfl, Nat.le_of_ble_eq_true rfl⟩ rfl (Nat.le_of_ble_eq_true rfl) d_Va_stretch_89 ⟨Nat.le_of_ble_eq_true rfl, Nat.le_of_ble_eq_true rfl⟩) X Y hA S (by decide) (fun f25 H locs Y S s25 p25 => ?_)
          obtain x25 := p25
          obtain ⟨z26, e26, l26, u26⟩ := x25
          refine lv_aload_n X.1 X.2.1 d_Va_stretch_92 rfl (lv_at hl 0 rfl) ?_
          refine t_get0 (ci := 11) X Y S k0 rfl i_Va 3 (by decide) rfl lk_Va_31 (fun _ h9 => h9) d_Va_stretch_93 ((gF_same (s25.2.2.2 _ ⟨(t_obj S.1 k0).1, by rw [k0]; decide, by simp⟩).1 3).trans ((gF_same (s22.2.2.2 _ ⟨(t_obj S.1 k0).1, by rw [k0]; decide, by simp⟩).1 3).trans e21)) ?_
          refine t_nv (t_runV (As := []) (rest := []) (n := 0) X Y S k21 hml hl.1 (c_Ha_finish l D E T κ L f25 H.size b21 k21 S.1 z26 e26 (by omega) (by omega)) (ok_k X Y hA KS KR) rfl kl_Va_Ha_finish ks_Ha_finish kx_Ha_finish ki_Ha_finish ini_Ha ⟨rfl, rfl⟩ hd_Ha_finish ⟨Nat.le_of_ble_eq_true rfl, Nat.le_of_ble_eq_true rfl⟩ rfl (Nat.le_of_ble_eq_true rfl) d_Va_stretch_96 ⟨Nat.le_of_ble_eq_true rfl, Nat.le_of_ble_eq_true rfl⟩) X Y hA S (by decide) (fun f27 H locs Y S s27 p27 => ?_)
          refine lv_iconst (v := iI 0) X.1 X.2.1 d_Va_stretch_99 (by decide) ?_
          have J30 : ∀ (n32 : Nat) (z29 : Int) (f28 : pF) (H : Heap) (locs : List Loc) (ls : Array Slot), (20 - z29).toNat = n32 → (0 ≤ z29) → (z29 ≤ 20) → pH D cCl (pA L sz) s.heap L f28 H locs → tS E T (tFr κ L [1, 2, 3, 4, 16] []) κ L f κ L f28 → lv_has ls 4 [(0, .ref h), (1, .int (iI a1)), (2, .int (iI z6221)), (3, .int (iI z29))] → W p l e (kRm 4 130 0 0) s m AV below meth c H locs 0 0 QQ (F0 m 101 ls []) := by
            intro n32
            induction n32 using Nat.strongRecOn with
            | ind n32 ih31 =>
              intro z29 f28 H locs ls hm33 l29 u29 Y S hl
              refine lv_iload_n X.1 X.2.1 d_Va_stretch_101 rfl (lv_at hl 3 rfl) ?_
              refine lv_bipush (v := iI 20) X.1 X.2.1 d_Va_stretch_102 (by decide) ?_
              refine z_icmp_ge (tgt := 132) X.1 X.2.1 d_Va_stretch_104 (by decide) ⟨by omega, by omega⟩ ⟨by omega, by omega⟩ (fun h34 => ?_) (fun h34 => ?_)
              · refine lv_iinc (v := iI (z6221 + 1)) (lv' := [(2, .int (iI (z6221 + 1))), (0, .ref h), (1, .int (iI a1)), (3, .int (iI z29))]) X.1 X.2.1 d_Va_stretch_132 hl (k := 2) rfl ((iI_add _ _).trans (congrArg iI (by omega))) (by decide) rfl (fun ls hl => ?_)
                refine lv_goto (tgt := 56) X.1 X.2.1 d_Va_stretch_135 (by decide) ?_
                exact ih16 ((200 - (z6221 + 1)).toNat) (by omega) (z6221 + 1) f28 _ _ _ rfl (by omega) (by omega) Y S (lv_sub hl [1, 2, 0] rfl)
              · refine lv_aload_n X.1 X.2.1 d_Va_stretch_107 rfl (lv_at hl 0 rfl) ?_
                refine t_getr (ci := 11) X Y S k0 rfl i_Va 11 (by decide) rfl (k1 := 1) (k2 := 20) rfl rfl lk_Va_55 (fun _ h9 => h9) d_Va_stretch_108 (fun b35 e35 k35 => ?_)
                refine lv_iload_n X.1 X.2.1 d_Va_stretch_111 rfl (lv_at hl 3 rfl) ?_
                refine lv_dup2_11 X.1 X.2.1 d_Va_stretch_112 rfl rfl ?_
                refine t_bald X Y S (Or.inl k35) (by omega) (by omega) (by omega) d_Va_stretch_113 (fun z36 l36 u36 => ?_)
                refine lv_aload_n X.1 X.2.1 d_Va_stretch_114 rfl (lv_at hl 0 rfl) ?_
                refine t_getr (ci := 11) X Y S k0 rfl i_Va 3 (by decide) rfl (k1 := 16) (k2 := 0) rfl rfl lk_Va_31 (fun _ h9 => h9) d_Va_stretch_115 (fun b37 e37 k37 => ?_)
                refine t_getr (ci := 6) X Y S k37 rfl i_Ha 7 (by decide) rfl (k1 := 1) (k2 := 20) rfl rfl lk_Va_125 (fun _ h9 => h9) d_Va_stretch_118 (fun b38 e38 k38 => ?_)
                refine lv_iload_n X.1 X.2.1 d_Va_stretch_121 rfl (lv_at hl 3 rfl) ?_
                refine t_bald X Y S (Or.inl k38) (by omega) (by omega) (by omega) d_Va_stretch_122 (fun z39 l39 u39 => ?_)
                refine lv_ixor X.1 X.2.1 d_Va_stretch_123 ?_
                refine t_u (fun z40 l40 u40 => ?_)
                refine lv_i2b X.1 X.2.1 d_Va_stretch_124 rfl ?_
                refine t_u (fun z41 l41 u41 => ?_)
                refine t_bast X Y S k35 (by omega) (by omega) (by omega) (fun h9 => h9.2.1 (by rw [← (S.2.2.2 _ h9).2, k35]; decide)) d_Va_stretch_125 (fun f42 H locs Y S w42 => ?_)
                refine lv_iinc (v := iI (z29 + 1)) (lv' := [(3, .int (iI (z29 + 1))), (0, .ref h), (1, .int (iI a1)), (2, .int (iI z6221))]) X.1 X.2.1 d_Va_stretch_126 hl (k := 3) rfl ((iI_add _ _).trans (congrArg iI (by omega))) (by decide) rfl (fun ls hl => ?_)
                refine lv_goto (tgt := 101) X.1 X.2.1 d_Va_stretch_129 (by decide) ?_
                exact ih31 ((20 - (z29 + 1)).toNat) (by omega) (z29 + 1) f42 _ _ _ rfl (by omega) (by omega) Y S (lv_sub hl [1, 2, 3, 0] rfl)
          refine lv_istore_n (lv' := [(3, .int (iI 0)), (0, .ref h), (1, .int (iI a1)), (2, .int (iI z14))]) X.1 X.2.1 d_Va_stretch_100 rfl hl (by decide) rfl (fun ls hl => ?_)
          exact J30 _ 0 f27 _ _ _ rfl (by omega) (by omega) Y S (lv_sub hl [1, 2, 3, 0] rfl)
  refine lv_istore_n (lv' := [(2, .int (iI 1)), (0, .ref h), (1, .int (iI a1))]) X.1 X.2.1 d_Va_stretch_55 rfl hl (by decide) rfl (fun ls hl => ?_)
  exact J15 _ 1 f12 _ _ _ rfl (by omega) (by omega) Y S (lv_sub hl [1, 2, 0] rfl)
set_option maxHeartbeats 4000000 in
set_option maxRecDepth 100000 in
theorem c_Va_chain (l : Launch) (D : va_G) (E : cE) (T : cT) (κ : tK) (L : List Nat) (f : pF) (sz : Nat) (h : Nat) (k0 : κ h = (21, 0)) (a1 n1 : Nat) (k1 : κ a1 = (1, n1)) (x1 : n1 ≤ 12288) (a2 : Int) (l_a2 : 0 ≤ a2) (u_a2 : a2 ≤ 64) (hw : tW E T κ L f) : Met l y_Va_chain (k_Va_chain :: lw_tg) (kRm 3 110 0 0) (va_Pc [.ref h, .ref a1, .int (iI a2)] (kPre D E T L f sz)) (va_Qv (nPv E T [1, 2, 3, 4] κ L f (fun (g : pF) => True)) (cPost D E (pA L sz)) (pA L sz)) 0 0 (pA L sz) := by
  refine k_enter (own := R_Va) (by decide) rfl (Nat.le_of_ble_eq_true rfl) (fun p e s m below meth c ls AV QQ H locs hQQ X Y hA hin hr hlk hml hl KS KR => ?_)
  have hl : lv_has ls 3 [(0, .ref h), (1, .ref a1), (2, .int (iI a2))] := hl
  have S : tS E T (tFr κ L [1, 2, 3, 4] []) κ L f κ L f := tS_rf hw
  refine lv_aload_n X.1 X.2.1 d_Va_chain_0 rfl (lv_at hl 0 rfl) ?_
  refine t_getr (ci := 11) X Y S k0 rfl i_Va 4 (by decide) rfl (k1 := 11) (k2 := 0) rfl rfl lk_Va_38 (fun _ h9 => h9) d_Va_chain_1 (fun b1 e1 k1 => ?_)
  refine lv_aload_n X.1 X.2.1 d_Va_chain_4 rfl (lv_at hl 1 rfl) ?_
  refine lv_iconst (v := iI 0) X.1 X.2.1 d_Va_chain_5 (by decide) ?_
  refine t_nv (t_runV (As := [.ref a1, .int (iI 0)]) (rest := []) (n := 2) X Y S k1 hml hl.1 (c_Ae_encrypt l D E T κ L f H.size b1 k1 a1 n1 k1 (by omega) 0 (by omega) (by omega) S.1) (ok_k X Y hA KS KR) rfl kl_Va_Ae_encrypt ks_Ae_encrypt kx_Ae_encrypt ki_Ae_encrypt ini_Ae ⟨rfl, rfl⟩ hd_Ae_encrypt ⟨Nat.le_of_ble_eq_true rfl, Nat.le_of_ble_eq_true rfl⟩ rfl (Nat.le_of_ble_eq_true rfl) d_Va_chain_6 ⟨Nat.le_of_ble_eq_true rfl, Nat.le_of_ble_eq_true rfl⟩) X Y hA S (by decide) (fun f2 H locs Y S s2 p2 => ?_)
  refine lv_iload_n X.1 X.2.1 d_Va_chain_9 rfl (lv_at hl 2 rfl) ?_
  refine lv_bipush (v := iI 32) X.1 X.2.1 d_Va_chain_10 (by decide) ?_
  refine z_icmp_ne (tgt := 42) X.1 X.2.1 d_Va_chain_12 (by decide) ⟨by omega, by omega⟩ ⟨by omega, by omega⟩ (fun h3 => ?_) (fun h3 => ?_)
  · exact c_retv hQQ X Y hr hlk ⟨rfl, S, trivial⟩ d_Va_chain_42
  · refine lv_aload_n X.1 X.2.1 d_Va_chain_15 rfl (lv_at hl 1 rfl) ?_
    refine t_alen X Y S KS (Or.inl k1) (by omega) d_Va_chain_16 ?_
    refine lv_bipush (v := iI 32) X.1 X.2.1 d_Va_chain_17 (by decide) ?_
    refine z_icmp_lt (tgt := 42) X.1 X.2.1 d_Va_chain_19 (by decide) ⟨by omega, by omega⟩ ⟨by omega, by omega⟩ (fun h4 => ?_) (fun h4 => ?_)
    · exact c_retv hQQ X Y hr hlk ⟨rfl, S, trivial⟩ d_Va_chain_42
    · refine lv_aload_n X.1 X.2.1 d_Va_chain_22 rfl (lv_at hl 1 rfl) ?_
      refine lv_iconst (v := iI 0) X.1 X.2.1 d_Va_chain_23 (by decide) ?_
      refine lv_aload_n X.1 X.2.1 d_Va_chain_24 rfl (lv_at hl 1 rfl) ?_
      refine lv_bipush (v := iI 16) X.1 X.2.1 d_Va_chain_25 (by decide) ?_
      refine lv_bipush (v := iI 16) X.1 X.2.1 d_Va_chain_27 (by decide) ?_
      refine t_copyB X Y S KS (hml.trans hl.1.symm) kl_Va_copy (Or.inl k1) k1 (by omega) (by omega) (by omega) (by omega) (by omega) (by omega) (by omega) (fun h9 => h9.2.1 (by rw [← (S.2.2.2 _ h9).2, k1]; decide)) (Nat.le_of_ble_eq_true rfl) (Nat.le_of_ble_eq_true rfl) d_Va_chain_29 (fun f5 H locs Y S w5 => ?_)
      refine lv_aload_n X.1 X.2.1 d_Va_chain_32 rfl (lv_at hl 0 rfl) ?_
      refine t_get0 (ci := 11) X Y S k0 rfl i_Va 4 (by decide) rfl lk_Va_38 (fun _ h9 => h9) d_Va_chain_33 ((gF_same (w5 _ (k_ne k0 k1 (by decide))) 4).trans ((gF_same (s2.2.2.2 _ ⟨(t_obj S.1 k0).1, by rw [k0]; decide, by simp⟩).1 4).trans e1)) ?_
      refine lv_aload_n X.1 X.2.1 d_Va_chain_36 rfl (lv_at hl 1 rfl) ?_
      refine lv_bipush (v := iI 16) X.1 X.2.1 d_Va_chain_37 (by decide) ?_
      refine t_nv (t_runV (As := [.ref a1, .int (iI 16)]) (rest := []) (n := 2) X Y S k1 hml hl.1 (c_Ae_encrypt l D E T κ L f5 H.size b1 k1 a1 n1 k1 (by omega) 16 (by omega) (by omega) S.1) (ok_k X Y hA KS KR) rfl kl_Va_Ae_encrypt ks_Ae_encrypt kx_Ae_encrypt ki_Ae_encrypt ini_Ae ⟨rfl, rfl⟩ hd_Ae_encrypt ⟨Nat.le_of_ble_eq_true rfl, Nat.le_of_ble_eq_true rfl⟩ rfl (Nat.le_of_ble_eq_true rfl) d_Va_chain_39 ⟨Nat.le_of_ble_eq_true rfl, Nat.le_of_ble_eq_true rfl⟩) X Y hA S (by decide) (fun f6 H locs Y S s6 p6 => ?_)
      exact c_retv hQQ X Y hr hlk ⟨rfl, S, trivial⟩ d_Va_chain_42
set_option maxHeartbeats 4000000 in
set_option maxRecDepth 100000 in
theorem c_Va_passwordKey (l : Launch) (D : va_G) (E : cE) (T : cT) (κ : tK) (L : List Nat) (f : pF) (sz : Nat) (h : Nat) (k0 : κ h = (21, 0)) (a1 : Int) (l_a1 : (-2147483648) ≤ a1) (u_a1 : a1 ≤ 2147483647) (a2 n2 : Nat) (k2 : κ a2 = (13, n2)) (x2 : n2 ≤ 12288) (a3 n3 : Nat) (k3 : κ a3 = (13, n3)) (x3 : n3 ≤ 12288) (a4 : Int) (l_a4 : (-1) ≤ a4) (u_a4 : a4 ≤ 20200) (a5 : Int) (l_a5 : (-2147483648) ≤ a5) (u_a5 : a5 ≤ 2147483647) (hw : tW E T κ L f) : Met l y_Va_passwordKey (k_Va_passwordKey :: lw_tg) (kRm 6 153 1 32) (va_Pc [.ref h, .int (iI a1), .ref a2, .ref a3, .int (iI a4), .int (iI a5)] (kPre D E T L f sz)) (va_Qr (fun _ : cU => True) (fun u r t => aPr E T [1, 2, 3, 4, 5, 6, 7, 8, 9, 10, 11, 12, 13, 14, 15, 16, 17, 18, 19, 20, 21] [] κ L f (fun (z : Nat) (k : tK) (g : pF) => (∃ n : Nat, tKey T k z n)) r u ∧ cPost D E (pA L sz) u t) (pA L sz)) 1 32 (pA L sz) := by
  refine k_enter (own := R_Va) (by decide) rfl (Nat.le_of_ble_eq_true rfl) (fun p e s m below meth c ls AV QQ H locs hQQ X Y hA hin hr hlk hml hl KS KR => ?_)
  have hl : lv_has ls 9 [(0, .ref h), (1, .int (iI a1)), (2, .ref a2), (3, .ref a3), (4, .int (iI a4)), (5, .int (iI a5))] := hl
  have S : tS E T (tFr κ L [1, 2, 3, 4, 5, 6, 7, 8, 9, 10, 11, 12, 13, 14, 15, 16, 17, 18, 19, 20, 21] []) κ L f κ L f := tS_rf hw
  have hF0 : ∀ b, tFr κ L [1, 2, 3, 4, 5, 6, 7, 8, 9, 10, 11, 12, 13, 14, 15, 16, 17, 18, 19, 20, 21] [] b → b ∈ L := fun b h9 => h9.1
  refine lv_iload_n X.1 X.2.1 d_Va_passwordKey_0 rfl (lv_at hl 1 rfl) ?_
  refine lv_bipush (v := iI 18) X.1 X.2.1 d_Va_passwordKey_1 (by decide) ?_
  refine z_icmp_ne (tgt := 11) X.1 X.2.1 d_Va_passwordKey_3 (by decide) ⟨by omega, by omega⟩ ⟨by omega, by omega⟩ (fun h1 => ?_) (fun h1 => ?_)
  · refine lv_bipush (v := iI 16) X.1 X.2.1 d_Va_passwordKey_11 (by decide) ?_
    refine t_newB X Y S hA hF0 (N := 16) (mx := 16) (by omega) (by omega) (by decide) (Nat.le_of_ble_eq_true rfl) (Nat.le_of_ble_eq_true rfl) d_Va_passwordKey_13 (fun q2 κ2 L2 f2 H Y S s2 k2 => ?_)
    have k3 : κ2 h = (21, 0) := tLe_k s2.2.2.1 k0
    have k4 : κ2 a2 = (13, n2) := tLe_k s2.2.2.1 k2
    have k5 : κ2 a3 = (13, n3) := tLe_k s2.2.2.1 k3
    refine lv_astore (lv' := [(6, .ref q2), (0, .ref h), (1, .int (iI a1)), (2, .ref a2), (3, .ref a3), (4, .int (iI a4)), (5, .int (iI a5))]) X.1 X.2.1 d_Va_passwordKey_15 hl (by decide) rfl (fun ls hl => ?_)
    refine lv_aload_n X.1 X.2.1 d_Va_passwordKey_17 rfl (lv_at hl 1 rfl) ?_
    refine t_getr (ci := 11) X Y S k3 rfl i_Va 12 (by decide) rfl (k1 := 13) (k2 := 64) rfl rfl lk_Va_58 (fun _ h9 => h9) d_Va_passwordKey_18 (fun b6 e6 k6 => ?_)
    refine t_nv (t_runV (As := []) (rest := []) (n := 0) X Y S k6 hml hl.1 (c_By_clear l D E T κ2 L2 f2 H.size b6 64 k6 (by omega) S.1) (ok_k X Y hA KS KR) rfl kl_Va_By_clear ks_By_clear kx_By_clear ki_By_clear ini_By ⟨rfl, rfl⟩ hd_By_clear ⟨Nat.le_of_ble_eq_true rfl, Nat.le_of_ble_eq_true rfl⟩ rfl (Nat.le_of_ble_eq_true rfl) d_Va_passwordKey_21 ⟨Nat.le_of_ble_eq_true rfl, Nat.le_of_ble_eq_true rfl⟩) X Y hA S (by decide) (fun f7 H locs Y S s7 p7 => ?_)
    refine lv_aload_n X.1 X.2.1 d_Va_passwordKey_24 rfl (lv_at hl 1 rfl) ?_
    refine t_get0 (ci := 11) X Y S k3 rfl i_Va 12 (by decide) rfl lk_Va_58 (fun _ h9 => h9) d_Va_passwordKey_25 ((gF_same (s7.2.2.2 _ ⟨(t_obj S.1 k3).1, by rw [k3]; decide, by simp⟩).1 12).trans e6) ?_
    refine lv_aload_n X.1 X.2.1 d_Va_passwordKey_28 rfl (lv_at hl 3 rfl) ?_
    refine t_nv (x_runS (As := [.ref b6, .ref a2]) (rest := []) (n := 2) X hml hl.1 (c_Va_putSalt l D E T κ2 L2 f7 H.size b6 64 k6 (by omega) a2 n2 k4 (by omega) S.1) (ok_k X Y hA KS KR) kl_Va_Va_putSalt ks_Va_putSalt ki_Va_putSalt ini_Va ⟨rfl, rfl⟩ hd_Va_putSalt.2 ⟨Nat.le_of_ble_eq_true rfl, Nat.le_of_ble_eq_true rfl⟩ rfl (Nat.le_of_ble_eq_true rfl) d_Va_passwordKey_29 ⟨Nat.le_of_ble_eq_true rfl, Nat.le_of_ble_eq_true rfl⟩) X Y hA S (by decide) (fun f8 H locs Y S s8 p8 => ?_)
    refine lv_aload_n X.1 X.2.1 d_Va_passwordKey_32 rfl (lv_at hl 1 rfl) ?_
    refine t_get0 (ci := 11) X Y S k3 rfl i_Va 12 (by decide) rfl lk_Va_58 (fun _ h9 => h9) d_Va_passwordKey_33 ((gF_same (s8.2.2.2 _ ⟨(t_obj S.1 k3).1, by rw [k3]; decide, by simp⟩).1 12).trans ((gF_same (s7.2.2.2 _ ⟨(t_obj S.1 k3).1, by rw [k3]; decide, by simp⟩).1 12).trans e6)) ?_
    refine t_gets (ci := 3) X Y S k6 rfl i_By 1 (by decide) rfl lk_Va_77 (fun _ h9 => h9) d_Va_passwordKey_36 (fun z9 e9 l9 u9 => ?_)
    refine lv_istore (lv' := [(7, .int (iI z9)), (6, .ref q2), (0, .ref h), (1, .int (iI a1)), (2, .ref a2), (3, .ref a3), (4, .int (iI a4)), (5, .int (iI a5))]) X.1 X.2.1 d_Va_passwordKey_39 hl (by decide) rfl (fun ls hl => ?_)
    refine lv_aload_n X.1 X.2.1 d_Va_passwordKey_41 rfl (lv_at hl 2 rfl) ?_
    refine t_getr (ci := 11) X Y S k3 rfl i_Va 3 (by decide) rfl (k1 := 16) (k2 := 0) rfl rfl lk_Va_31 (fun _ h9 => h9) d_Va_passwordKey_42 (fun b10 e10 k10 => ?_)
    refine lv_aload_n X.1 X.2.1 d_Va_passwordKey_45 rfl (lv_at hl 5 rfl) ?_
    refine t_getrow (ci := 3) X Y S k5 rfl i_By 0 (by decide) rfl lk_Va_86 (fun _ h9 => h9) d_Va_passwordKey_46 (fun b11 e11 k11 => ?_)
    refine lv_iload X.1 X.2.1 d_Va_passwordKey_49 (lv_at hl 6 rfl) ?_
    refine lv_aload_n X.1 X.2.1 d_Va_passwordKey_51 rfl (lv_at hl 5 rfl) ?_
    refine t_gets (ci := 3) X Y S k5 rfl i_By 1 (by decide) rfl lk_Va_77 (fun _ h9 => h9) d_Va_passwordKey_52 (fun z12 e12 l12 u12 => ?_)
    refine lv_iload X.1 X.2.1 d_Va_passwordKey_55 (lv_at hl 6 rfl) ?_
    refine z_isub X.1 X.2.1 d_Va_passwordKey_57 ?_
    refine t_nv (t_runV (As := [.ref b11, .int (iI a4), .int (iI (z12 - a4))]) (rest := []) (n := 3) X Y S k10 hml hl.1 (c_Ha_setKey l D E T κ2 L2 f8 H.size b10 k10 b11 n3 (Or.inl k11) (by omega) a4 (by omega) (by omega) (z12 - a4) (by omega) (by omega) S.1) (ok_k X Y hA KS KR) rfl kl_Va_Ha_setKey ks_Ha_setKey kx_Ha_setKey ki_Ha_setKey ini_Ha ⟨rfl, rfl⟩ hd_Ha_setKey ⟨Nat.le_of_ble_eq_true rfl, Nat.le_of_ble_eq_true rfl⟩ rfl (Nat.le_of_ble_eq_true rfl) d_Va_passwordKey_58 ⟨Nat.le_of_ble_eq_true rfl, Nat.le_of_ble_eq_true rfl⟩) X Y hA S (by decide) (fun f13 H locs Y S s13 p13 => ?_)
    refine lv_iconst (v := iI 0) X.1 X.2.1 d_Va_passwordKey_61 (by decide) ?_
    have J20 : ∀ (n22 : Nat) (b15 n17 : Nat) (z18 : Int) (z19 : Int) (f14 : pF) (H : Heap) (locs : List Loc) (ls : Array Slot), (51 - z19).toNat = n22 → (n17 ≤ 32) → (κ2 b15 = (1, n17)) → (0 ≤ z18) → (z18 ≤ 64) → (0 ≤ z19) → (z19 ≤ 51) → pH D cCl (pA L sz) s.heap L2 f14 H locs → tS E T (tFr κ L [1, 2, 3, 4, 5, 6, 7, 8, 9, 10, 11, 12, 13, 14, 15, 16, 17, 18, 19, 20, 21] []) κ L f κ2 L2 f14 → lv_has ls 9 [(0, .ref h), (5, .int (iI a5)), (6, .ref b15), (7, .int (iI z18)), (8, .int (iI z19))] → W p l e (kRm 6 153 1 32) s m AV below meth c H locs 1 32 QQ (F0 m 64 ls []) := by
      intro n22
      induction n22 using Nat.strongRecOn with
      | ind n22 ih21 =>
        intro b15 n17 z18 z19 f14 H locs ls hm23 xn17 k16 l18 u18 l19 u19 Y S hl
        refine lv_iload X.1 X.2.1 d_Va_passwordKey_64 (lv_at hl 4 rfl) ?_
        refine lv_aload X.1 X.2.1 d_Va_passwordKey_66 (lv_at hl 2 rfl) ?_
        refine t_alen X Y S KS (Or.inl k16) (by omega) d_Va_passwordKey_68 ?_
        refine z_icmp_ge (tgt := 130) X.1 X.2.1 d_Va_passwordKey_69 (by decide) ⟨by omega, by omega⟩ ⟨by omega, by omega⟩ (fun h24 => ?_) (fun h24 => ?_)
        · refine lv_aload_n X.1 X.2.1 d_Va_passwordKey_130 rfl (lv_at hl 0 rfl) ?_
          refine t_getr (ci := 11) X Y S k3 rfl i_Va 4 (by decide) rfl (k1 := 11) (k2 := 0) rfl rfl lk_Va_38 (fun _ h9 => h9) d_Va_passwordKey_131 (fun b25 e25 k25 => ?_)
          refine lv_aload X.1 X.2.1 d_Va_passwordKey_134 (lv_at hl 2 rfl) ?_
          refine lv_aload X.1 X.2.1 d_Va_passwordKey_136 (lv_at hl 2 rfl) ?_
          refine t_alen X Y S KS (Or.inl k16) (by omega) d_Va_passwordKey_138 ?_
          refine t_nv (t_runV (As := [.ref b15, .int (iI ((n17 : Int)))]) (rest := []) (n := 2) X Y S k25 hml hl.1 (c_Ae_setKey l D E T κ2 L2 f14 H.size b25 k25 b15 n17 (Or.inl k16) (by omega) ((n17 : Int)) (by omega) (by omega) S.1) (ok_k X Y hA KS KR) rfl kl_Va_Ae_setKey ks_Ae_setKey kx_Ae_setKey ki_Ae_setKey ini_Ae ⟨rfl, rfl⟩ hd_Ae_setKey ⟨Nat.le_of_ble_eq_true rfl, Nat.le_of_ble_eq_true rfl⟩ rfl (Nat.le_of_ble_eq_true rfl) d_Va_passwordKey_139 ⟨Nat.le_of_ble_eq_true rfl, Nat.le_of_ble_eq_true rfl⟩) X Y hA S (by decide) (fun f26 H locs Y S s26 p26 => ?_)
          refine k_gets 2 (by decide) X Y KS sk_Va_151 d_Va_passwordKey_142 ?_
          refine lv_iconst (v := iI 0) X.1 X.2.1 d_Va_passwordKey_145 (by decide) ?_
          refine lv_aload X.1 X.2.1 d_Va_passwordKey_146 (lv_at hl 2 rfl) ?_
          refine lv_iconst (v := iI 0) X.1 X.2.1 d_Va_passwordKey_148 (by decide) ?_
          refine lv_bipush (v := iI 16) X.1 X.2.1 d_Va_passwordKey_149 (by decide) ?_
          refine t_copyK X Y S KS (hml.trans hl.1.symm) kl_Va_copy k16 (by omega) (by omega) (by omega) (by omega) (by omega) (by omega) (fun h9 => h9.2.1 (by rw [← (S.2.2.2 _ h9).2, k16]; decide)) (Nat.le_of_ble_eq_true rfl) (Nat.le_of_ble_eq_true rfl) d_Va_passwordKey_151 (fun f27 H locs Y S w27 => ?_)
          refine lv_aload_n X.1 X.2.1 d_Va_passwordKey_154 rfl (lv_at hl 0 rfl) ?_
          refine lv_aload X.1 X.2.1 d_Va_passwordKey_155 (lv_at hl 2 rfl) ?_
          refine lv_aload X.1 X.2.1 d_Va_passwordKey_157 (lv_at hl 2 rfl) ?_
          refine t_alen X Y S KS (Or.inl k16) (by omega) d_Va_passwordKey_159 ?_
          refine t_nv (t_runV (As := [.ref b15, .int (iI ((n17 : Int)))]) (rest := []) (n := 2) X Y S k3 hml hl.1 (c_Va_chain l D E T κ2 L2 f27 H.size h k3 b15 n17 k16 (by omega) ((n17 : Int)) (by omega) (by omega) S.1) (ok_k X Y hA KS KR) rfl kl_Va_Va_chain ks_Va_chain kx_Va_chain ki_Va_chain ini_Va ⟨rfl, rfl⟩ hd_Va_chain ⟨Nat.le_of_ble_eq_true rfl, Nat.le_of_ble_eq_true rfl⟩ rfl (Nat.le_of_ble_eq_true rfl) d_Va_passwordKey_160 ⟨Nat.le_of_ble_eq_true rfl, Nat.le_of_ble_eq_true rfl⟩) X Y hA S (by decide) (fun f28 H locs Y S s28 p28 => ?_)
          refine lv_aload X.1 X.2.1 d_Va_passwordKey_163 (lv_at hl 2 rfl) ?_
          exact k_retr hQQ X Y hr (Or.inr ⟨_, rfl⟩) hlk ⟨κ2, S, ⟨n17, (Or.inl ⟨k16, by omega⟩)⟩⟩ d_Va_passwordKey_165
        · refine lv_aload_n X.1 X.2.1 d_Va_passwordKey_72 rfl (lv_at hl 0 rfl) ?_
          refine t_getr (ci := 11) X Y S k3 rfl i_Va 12 (by decide) rfl (k1 := 13) (k2 := 64) rfl rfl lk_Va_58 (fun _ h9 => h9) d_Va_passwordKey_73 (fun b29 e29 k29 => ?_)
          refine lv_iload X.1 X.2.1 d_Va_passwordKey_76 (lv_at hl 3 rfl) ?_
          refine t_put (ci := 3) X Y S k29 rfl i_By t_By t_By_ok n_By 1 (by decide) rfl lk_Va_77 (fun _ h9 => h9) rfl (t_By_ok 1 (by decide)) rfl rfl ⟨_, rfl, by omega, by omega⟩ (fun h9 => h9.2.1 (by rw [← (S.2.2.2 _ h9).2, k29]; decide)) d_Va_passwordKey_78 (fun f30 H locs Y S w30 => ?_)
          refine lv_aload_n X.1 X.2.1 d_Va_passwordKey_81 rfl (lv_at hl 0 rfl) ?_
          refine t_get0 (ci := 11) X Y S k3 rfl i_Va 12 (by decide) rfl lk_Va_58 (fun _ h9 => h9) d_Va_passwordKey_82 ((gF_put w30 (Or.inr (by decide))).trans e29) ?_
          refine lv_iload X.1 X.2.1 d_Va_passwordKey_85 (lv_at hl 4 rfl) ?_
          refine lv_bipush (v := iI 20) X.1 X.2.1 d_Va_passwordKey_87 (by decide) ?_
          refine z_idiv X.1 X.2.1 (by omega) (by omega) ⟨by decide, by decide⟩ d_Va_passwordKey_89 ?_
          refine lv_iconst (v := iI 1) X.1 X.2.1 d_Va_passwordKey_90 (by decide) ?_
          refine z_iadd X.1 X.2.1 d_Va_passwordKey_91 ?_
          refine t_nv (t_runV (As := [.int (iI ((z19 / 20) + 1))]) (rest := []) (n := 1) X Y S k29 hml hl.1 (c_By_putWord l D E T κ2 L2 f30 H.size b29 64 k29 (by omega) ((z19 / 20) + 1) (by omega) (by omega) S.1) (ok_k X Y hA KS KR) rfl kl_Va_By_putWord ks_By_putWord kx_By_putWord ki_By_putWord ini_By ⟨rfl, rfl⟩ hd_By_putWord ⟨Nat.le_of_ble_eq_true rfl, Nat.le_of_ble_eq_true rfl⟩ rfl (Nat.le_of_ble_eq_true rfl) d_Va_passwordKey_92 ⟨Nat.le_of_ble_eq_true rfl, Nat.le_of_ble_eq_true rfl⟩) X Y hA S (by decide) (fun f31 H locs Y S s31 p31 => ?_)
          refine lv_aload_n X.1 X.2.1 d_Va_passwordKey_95 rfl (lv_at hl 0 rfl) ?_
          refine lv_iload X.1 X.2.1 d_Va_passwordKey_96 (lv_at hl 1 rfl) ?_
          refine t_nv (t_runV (As := [.int (iI a5)]) (rest := []) (n := 1) X Y S k3 hml hl.1 (c_Va_stretch l D E T κ2 L2 f31 H.size h k3 a5 (by omega) (by omega) S.1) (ok_k X Y hA KS KR) rfl kl_Va_Va_stretch ks_Va_stretch kx_Va_stretch ki_Va_stretch ini_Va ⟨rfl, rfl⟩ hd_Va_stretch ⟨Nat.le_of_ble_eq_true rfl, Nat.le_of_ble_eq_true rfl⟩ rfl (Nat.le_of_ble_eq_true rfl) d_Va_passwordKey_98 ⟨Nat.le_of_ble_eq_true rfl, Nat.le_of_ble_eq_true rfl⟩) X Y hA S (by decide) (fun f32 H locs Y S s32 p32 => ?_)
          refine lv_aload_n X.1 X.2.1 d_Va_passwordKey_101 rfl (lv_at hl 0 rfl) ?_
          refine t_getr (ci := 11) X Y S k3 rfl i_Va 11 (by decide) rfl (k1 := 1) (k2 := 20) rfl rfl lk_Va_55 (fun _ h9 => h9) d_Va_passwordKey_102 (fun b33 e33 k33 => ?_)
          refine lv_iconst (v := iI 0) X.1 X.2.1 d_Va_passwordKey_105 (by decide) ?_
          refine lv_aload X.1 X.2.1 d_Va_passwordKey_106 (lv_at hl 2 rfl) ?_
          refine lv_iload X.1 X.2.1 d_Va_passwordKey_108 (lv_at hl 4 rfl) ?_
          refine lv_bipush (v := iI 20) X.1 X.2.1 d_Va_passwordKey_110 (by decide) ?_
          refine lv_aload X.1 X.2.1 d_Va_passwordKey_112 (lv_at hl 2 rfl) ?_
          refine t_alen X Y S KS (Or.inl k16) (by omega) d_Va_passwordKey_114 ?_
          refine lv_iload X.1 X.2.1 d_Va_passwordKey_115 (lv_at hl 4 rfl) ?_
          refine z_isub X.1 X.2.1 d_Va_passwordKey_117 ?_
          refine z_min X.1 X.2.1 (hml.trans hl.1.symm) X.2.2.2.1 (X.2.2.1 _ kl_Va_mmin) (X.2.2.1 _ ks_mmin) (X.2.2.1 _ ini_Math) (X.2.2.1 _ ki_mmin) (Nat.le_of_ble_eq_true rfl) (Nat.le_of_ble_eq_true rfl) (Nat.le_of_ble_eq_true rfl) (Nat.le_of_ble_eq_true rfl) ⟨by omega, by omega⟩ ⟨by omega, by omega⟩ d_Va_passwordKey_118 (fun z34 l34 u34 x34 => ?_)
          refine t_copyB X Y S KS (hml.trans hl.1.symm) kl_Va_copy (Or.inl k33) k16 (by omega) (by omega) (by omega) (by omega) (by omega) (by omega) (by omega) (fun h9 => h9.2.1 (by rw [← (S.2.2.2 _ h9).2, k16]; decide)) (Nat.le_of_ble_eq_true rfl) (Nat.le_of_ble_eq_true rfl) d_Va_passwordKey_121 (fun f35 H locs Y S w35 => ?_)
          refine lv_iinc (v := iI (z19 + 20)) (lv' := [(8, .int (iI (z19 + 20))), (0, .ref h), (5, .int (iI a5)), (6, .ref b15), (7, .int (iI z18))]) X.1 X.2.1 d_Va_passwordKey_124 hl (k := 4) rfl ((iI_add _ _).trans (congrArg iI (by omega))) (by decide) rfl (fun ls hl => ?_)
          refine lv_goto (tgt := 64) X.1 X.2.1 d_Va_passwordKey_127 (by decide) ?_
          exact ih21 ((51 - (z19 + 20)).toNat) (by omega) b15 n17 z18 (z19 + 20) f35 _ _ _ rfl (by omega) k16 (by omega) (by omega) (by omega) (by omega) Y S (lv_sub hl [1, 2, 3, 4, 0] rfl)
    refine lv_istore (lv' := [(8, .int (iI 0)), (7, .int (iI z9)), (6, .ref q2), (0, .ref h), (1, .int (iI a1)), (2, .ref a2), (3, .ref a3), (4, .int (iI a4)), (5, .int (iI a5))]) X.1 X.2.1 d_Va_passwordKey_62 hl (by decide) rfl (fun ls hl => ?_)
    refine W.widen (k := 1) (n := 32) (Nat.le_of_ble_eq_true rfl) (Nat.le_of_ble_eq_true rfl) ?_
    exact J20 _ q2 16 z9 0 f13 _ _ _ rfl (by omega) k2 (by omega) (by omega) (by omega) (by omega) Y S (lv_sub hl [3, 8, 2, 1, 0] rfl)
  · refine lv_bipush (v := iI 32) X.1 X.2.1 d_Va_passwordKey_6 (by decide) ?_
    refine lv_goto (tgt := 13) X.1 X.2.1 d_Va_passwordKey_8 (by decide) ?_
    refine t_newB X Y S hA hF0 (N := 32) (mx := 32) (by omega) (by omega) (by decide) (Nat.le_of_ble_eq_true rfl) (Nat.le_of_ble_eq_true rfl) d_Va_passwordKey_13 (fun q36 κ36 L36 f36 H Y S s36 k36 => ?_)
    have k37 : κ36 h = (21, 0) := tLe_k s36.2.2.1 k0
    have k38 : κ36 a2 = (13, n2) := tLe_k s36.2.2.1 k2
    have k39 : κ36 a3 = (13, n3) := tLe_k s36.2.2.1 k3
    refine lv_astore (lv' := [(6, .ref q36), (0, .ref h), (1, .int (iI a1)), (2, .ref a2), (3, .ref a3), (4, .int (iI a4)), (5, .int (iI a5))]) X.1 X.2.1 d_Va_passwordKey_15 hl (by decide) rfl (fun ls hl => ?_)
    refine lv_aload_n X.1 X.2.1 d_Va_passwordKey_17 rfl (lv_at hl 1 rfl) ?_
    refine t_getr (ci := 11) X Y S k37 rfl i_Va 12 (by decide) rfl (k1 := 13) (k2 := 64) rfl rfl lk_Va_58 (fun _ h9 => h9) d_Va_passwordKey_18 (fun b40 e40 k40 => ?_)
    refine t_nv (t_runV (As := []) (rest := []) (n := 0) X Y S k40 hml hl.1 (c_By_clear l D E T κ36 L36 f36 H.size b40 64 k40 (by omega) S.1) (ok_k X Y hA KS KR) rfl kl_Va_By_clear ks_By_clear kx_By_clear ki_By_clear ini_By ⟨rfl, rfl⟩ hd_By_clear ⟨Nat.le_of_ble_eq_true rfl, Nat.le_of_ble_eq_true rfl⟩ rfl (Nat.le_of_ble_eq_true rfl) d_Va_passwordKey_21 ⟨Nat.le_of_ble_eq_true rfl, Nat.le_of_ble_eq_true rfl⟩) X Y hA S (by decide) (fun f41 H locs Y S s41 p41 => ?_)
    refine lv_aload_n X.1 X.2.1 d_Va_passwordKey_24 rfl (lv_at hl 1 rfl) ?_
    refine t_get0 (ci := 11) X Y S k37 rfl i_Va 12 (by decide) rfl lk_Va_58 (fun _ h9 => h9) d_Va_passwordKey_25 ((gF_same (s41.2.2.2 _ ⟨(t_obj S.1 k37).1, by rw [k37]; decide, by simp⟩).1 12).trans e40) ?_
    refine lv_aload_n X.1 X.2.1 d_Va_passwordKey_28 rfl (lv_at hl 3 rfl) ?_
    refine t_nv (x_runS (As := [.ref b40, .ref a2]) (rest := []) (n := 2) X hml hl.1 (c_Va_putSalt l D E T κ36 L36 f41 H.size b40 64 k40 (by omega) a2 n2 k38 (by omega) S.1) (ok_k X Y hA KS KR) kl_Va_Va_putSalt ks_Va_putSalt ki_Va_putSalt ini_Va ⟨rfl, rfl⟩ hd_Va_putSalt.2 ⟨Nat.le_of_ble_eq_true rfl, Nat.le_of_ble_eq_true rfl⟩ rfl (Nat.le_of_ble_eq_true rfl) d_Va_passwordKey_29 ⟨Nat.le_of_ble_eq_true rfl, Nat.le_of_ble_eq_true rfl⟩) X Y hA S (by decide) (fun f42 H locs Y S s42 p42 => ?_)
    refine lv_aload_n X.1 X.2.1 d_Va_passwordKey_32 rfl (lv_at hl 1 rfl) ?_
    refine t_get0 (ci := 11) X Y S k37 rfl i_Va 12 (by decide) rfl lk_Va_58 (fun _ h9 => h9) d_Va_passwordKey_33 ((gF_same (s42.2.2.2 _ ⟨(t_obj S.1 k37).1, by rw [k37]; decide, by simp⟩).1 12).trans ((gF_same (s41.2.2.2 _ ⟨(t_obj S.1 k37).1, by rw [k37]; decide, by simp⟩).1 12).trans e40)) ?_
    refine t_gets (ci := 3) X Y S k40 rfl i_By 1 (by decide) rfl lk_Va_77 (fun _ h9 => h9) d_Va_passwordKey_36 (fun z43 e43 l43 u43 => ?_)
    refine lv_istore (lv' := [(7, .int (iI z43)), (6, .ref q36), (0, .ref h), (1, .int (iI a1)), (2, .ref a2), (3, .ref a3), (4, .int (iI a4)), (5, .int (iI a5))]) X.1 X.2.1 d_Va_passwordKey_39 hl (by decide) rfl (fun ls hl => ?_)
    refine lv_aload_n X.1 X.2.1 d_Va_passwordKey_41 rfl (lv_at hl 2 rfl) ?_
    refine t_getr (ci := 11) X Y S k37 rfl i_Va 3 (by decide) rfl (k1 := 16) (k2 := 0) rfl rfl lk_Va_31 (fun _ h9 => h9) d_Va_passwordKey_42 (fun b44 e44 k44 => ?_)
    refine lv_aload_n X.1 X.2.1 d_Va_passwordKey_45 rfl (lv_at hl 5 rfl) ?_
    refine t_getrow (ci := 3) X Y S k39 rfl i_By 0 (by decide) rfl lk_Va_86 (fun _ h9 => h9) d_Va_passwordKey_46 (fun b45 e45 k45 => ?_)
    refine lv_iload X.1 X.2.1 d_Va_passwordKey_49 (lv_at hl 6 rfl) ?_
    refine lv_aload_n X.1 X.2.1 d_Va_passwordKey_51 rfl (lv_at hl 5 rfl) ?_
    refine t_gets (ci := 3) X Y S k39 rfl i_By 1 (by decide) rfl lk_Va_77 (fun _ h9 => h9) d_Va_passwordKey_52 (fun z46 e46 l46 u46 => ?_)
    refine lv_iload X.1 X.2.1 d_Va_passwordKey_55 (lv_at hl 6 rfl) ?_
    refine z_isub X.1 X.2.1 d_Va_passwordKey_57 ?_
    refine t_nv (t_runV (As := [.ref b45, .int (iI a4), .int (iI (z46 - a4))]) (rest := []) (n := 3) X Y S k44 hml hl.1 (c_Ha_setKey l D E T κ36 L36 f42 H.size b44 k44 b45 n3 (Or.inl k45) (by omega) a4 (by omega) (by omega) (z46 - a4) (by omega) (by omega) S.1) (ok_k X Y hA KS KR) rfl kl_Va_Ha_setKey ks_Ha_setKey kx_Ha_setKey ki_Ha_setKey ini_Ha ⟨rfl, rfl⟩ hd_Ha_setKey ⟨Nat.le_of_ble_eq_true rfl, Nat.le_of_ble_eq_true rfl⟩ rfl (Nat.le_of_ble_eq_true rfl) d_Va_passwordKey_58 ⟨Nat.le_of_ble_eq_true rfl, Nat.le_of_ble_eq_true rfl⟩) X Y hA S (by decide) (fun f47 H locs Y S s47 p47 => ?_)
    refine lv_iconst (v := iI 0) X.1 X.2.1 d_Va_passwordKey_61 (by decide) ?_
    have J54 : ∀ (n56 : Nat) (b49 n51 : Nat) (z52 : Int) (z53 : Int) (f48 : pF) (H : Heap) (locs : List Loc) (ls : Array Slot), (51 - z53).toNat = n56 → (n51 ≤ 32) → (κ36 b49 = (1, n51)) → (0 ≤ z52) → (z52 ≤ 64) → (0 ≤ z53) → (z53 ≤ 51) → pH D cCl (pA L sz) s.heap L36 f48 H locs → tS E T (tFr κ L [1, 2, 3, 4, 5, 6, 7, 8, 9, 10, 11, 12, 13, 14, 15, 16, 17, 18, 19, 20, 21] []) κ L f κ36 L36 f48 → lv_has ls 9 [(0, .ref h), (5, .int (iI a5)), (6, .ref b49), (7, .int (iI z52)), (8, .int (iI z53))] → W p l e (kRm 6 153 1 32) s m AV below meth c H locs 1 32 QQ (F0 m 64 ls []) := by
      intro n56
      induction n56 using Nat.strongRecOn with
      | ind n56 ih55 =>
        intro b49 n51 z52 z53 f48 H locs ls hm57 xn51 k50 l52 u52 l53 u53 Y S hl
        refine lv_iload X.1 X.2.1 d_Va_passwordKey_64 (lv_at hl 4 rfl) ?_
        refine lv_aload X.1 X.2.1 d_Va_passwordKey_66 (lv_at hl 2 rfl) ?_
        refine t_alen X Y S KS (Or.inl k50) (by omega) d_Va_passwordKey_68 ?_
        refine z_icmp_ge (tgt := 130) X.1 X.2.1 d_Va_passwordKey_69 (by decide) ⟨by omega, by omega⟩ ⟨by omega, by omega⟩ (fun h58 => ?_) (fun h58 => ?_)
        · refine lv_aload_n X.1 X.2.1 d_Va_passwordKey_130 rfl (lv_at hl 0 rfl) ?_
          refine t_getr (ci := 11) X Y S k3 rfl i_Va 4 (by decide) rfl (k1 := 11) (k2 := 0) rfl rfl lk_Va_38 (fun _ h9 => h9) d_Va_passwordKey_131 (fun b59 e59 k59 => ?_)
          refine lv_aload X.1 X.2.1 d_Va_passwordKey_134 (lv_at hl 2 rfl) ?_
          refine lv_aload X.1 X.2.1 d_Va_passwordKey_136 (lv_at hl 2 rfl) ?_
          refine t_alen X Y S KS (Or.inl k50) (by omega) d_Va_passwordKey_138 ?_
          refine t_nv (t_runV (As := [.ref b49, .int (iI ((n51 : Int)))]) (rest := []) (n := 2) X Y S k59 hml hl.1 (c_Ae_setKey l D E T κ36 L36 f48 H.size b59 k59 b49 n51 (Or.inl k50) (by omega) ((n51 : Int)) (by omega) (by omega) S.1) (ok_k X Y hA KS KR) rfl kl_Va_Ae_setKey ks_Ae_setKey kx_Ae_setKey ki_Ae_setKey ini_Ae ⟨rfl, rfl⟩ hd_Ae_setKey ⟨Nat.le_of_ble_eq_true rfl, Nat.le_of_ble_eq_true rfl⟩ rfl (Nat.le_of_ble_eq_true rfl) d_Va_passwordKey_139 ⟨Nat.le_of_ble_eq_true rfl, Nat.le_of_ble_eq_true rfl⟩) X Y hA S (by decide) (fun f60 H locs Y S s60 p60 => ?_)
          refine k_gets 2 (by decide) X Y KS sk_Va_151 d_Va_passwordKey_142 ?_
          refine lv_iconst (v := iI 0) X.1 X.2.1 d_Va_passwordKey_145 (by decide) ?_
          refine lv_aload X.1 X.2.1 d_Va_passwordKey_146 (lv_at hl 2 rfl) ?_
          refine lv_iconst (v := iI 0) X.1 X.2.1 d_Va_passwordKey_148 (by decide) ?_
          refine lv_bipush (v := iI 16) X.1 X.2.1 d_Va_passwordKey_149 (by decide) ?_
          refine t_copyK X Y S KS (hml.trans hl.1.symm) kl_Va_copy k50 (by omega) (by omega) (by omega) (by omega) (by omega) (by omega) (fun h9 => h9.2.1 (by rw [← (S.2.2.2 _ h9).2, k50]; decide)) (Nat.le_of_ble_eq_true rfl) (Nat.le_of_ble_eq_true rfl) d_Va_passwordKey_151 (fun f61 H locs Y S w61 => ?_)
          refine lv_aload_n X.1 X.2.1 d_Va_passwordKey_154 rfl (lv_at hl 0 rfl) ?_
          refine lv_aload X.1 X.2.1 d_Va_passwordKey_155 (lv_at hl 2 rfl) ?_
          refine lv_aload X.1 X.2.1 d_Va_passwordKey_157 (lv_at hl 2 rfl) ?_
          refine t_alen X Y S KS (Or.inl k50) (by omega) d_Va_passwordKey_159 ?_
          refine t_nv (t_runV (As := [.ref b49, .int (iI ((n51 : Int)))]) (rest := []) (n := 2) X Y S k3 hml hl.1 (c_Va_chain l D E T κ36 L36 f61 H.size h k3 b49 n51 k50 (by omega) ((n51 : Int)) (by omega) (by omega) S.1) (ok_k X Y hA KS KR) rfl kl_Va_Va_chain ks_Va_chain kx_Va_chain ki_Va_chain ini_Va ⟨rfl, rfl⟩ hd_Va_chain ⟨Nat.le_of_ble_eq_true rfl, Nat.le_of_ble_eq_true rfl⟩ rfl (Nat.le_of_ble_eq_true rfl) d_Va_passwordKey_160 ⟨Nat.le_of_ble_eq_true rfl, Nat.le_of_ble_eq_true rfl⟩) X Y hA S (by decide) (fun f62 H locs Y S s62 p62 => ?_)
          refine lv_aload X.1 X.2.1 d_Va_passwordKey_163 (lv_at hl 2 rfl) ?_
          exact k_retr hQQ X Y hr (Or.inr ⟨_, rfl⟩) hlk ⟨κ36, S, ⟨n51, (Or.inl ⟨k50, by omega⟩)⟩⟩ d_Va_passwordKey_165
        · refine lv_aload_n X.1 X.2.1 d_Va_passwordKey_72 rfl (lv_at hl 0 rfl) ?_
          refine t_getr (ci := 11) X Y S k3 rfl i_Va 12 (by decide) rfl (k1 := 13) (k2 := 64) rfl rfl lk_Va_58 (fun _ h9 => h9) d_Va_passwordKey_73 (fun b63 e63 k63 => ?_)
          refine lv_iload X.1 X.2.1 d_Va_passwordKey_76 (lv_at hl 3 rfl) ?_
          refine t_put (ci := 3) X Y S k63 rfl i_By t_By t_By_ok n_By 1 (by decide) rfl lk_Va_77 (fun _ h9 => h9) rfl (t_By_ok 1 (by decide)) rfl rfl ⟨_, rfl, by omega, by omega⟩ (fun h9 => h9.2.1 (by rw [← (S.2.2.2 _ h9).2, k63]; decide)) d_Va_passwordKey_78 (fun f64 H locs Y S w64 => ?_)
          refine lv_aload_n X.1 X.2.1 d_Va_passwordKey_81 rfl (lv_at hl 0 rfl) ?_
          refine t_get0 (ci := 11) X Y S k3 rfl i_Va 12 (by decide) rfl lk_Va_58 (fun _ h9 => h9) d_Va_passwordKey_82 ((gF_put w64 (Or.inr (by decide))).trans e63) ?_
          refine lv_iload X.1 X.2.1 d_Va_passwordKey_85 (lv_at hl 4 rfl) ?_
          refine lv_bipush (v := iI 20) X.1 X.2.1 d_Va_passwordKey_87 (by decide) ?_
          refine z_idiv X.1 X.2.1 (by omega) (by omega) ⟨by decide, by decide⟩ d_Va_passwordKey_89 ?_
          refine lv_iconst (v := iI 1) X.1 X.2.1 d_Va_passwordKey_90 (by decide) ?_
          refine z_iadd X.1 X.2.1 d_Va_passwordKey_91 ?_
          refine t_nv (t_runV (As := [.int (iI ((z53 / 20) + 1))]) (rest := []) (n := 1) X Y S k63 hml hl.1 (c_By_putWord l D E T κ36 L36 f64 H.size b63 64 k63 (by omega) ((z53 / 20) + 1) (by omega) (by omega) S.1) (ok_k X Y hA KS KR) rfl kl_Va_By_putWord ks_By_putWord kx_By_putWord ki_By_putWord ini_By ⟨rfl, rfl⟩ hd_By_putWord ⟨Nat.le_of_ble_eq_true rfl, Nat.le_of_ble_eq_true rfl⟩ rfl (Nat.le_of_ble_eq_true rfl) d_Va_passwordKey_92 ⟨Nat.le_of_ble_eq_true rfl, Nat.le_of_ble_eq_true rfl⟩) X Y hA S (by decide) (fun f65 H locs Y S s65 p65 => ?_)
          refine lv_aload_n X.1 X.2.1 d_Va_passwordKey_95 rfl (lv_at hl 0 rfl) ?_
          refine lv_iload X.1 X.2.1 d_Va_passwordKey_96 (lv_at hl 1 rfl) ?_
          refine t_nv (t_runV (As := [.int (iI a5)]) (rest := []) (n := 1) X Y S k3 hml hl.1 (c_Va_stretch l D E T κ36 L36 f65 H.size h k3 a5 (by omega) (by omega) S.1) (ok_k X Y hA KS KR) rfl kl_Va_Va_stretch ks_Va_stretch kx_Va_stretch ki_Va_stretch ini_Va ⟨rfl, rfl⟩ hd_Va_stretch ⟨Nat.le_of_ble_eq_true rfl, Nat.le_of_ble_eq_true rfl⟩ rfl (Nat.le_of_ble_eq_true rfl) d_Va_passwordKey_98 ⟨Nat.le_of_ble_eq_true rfl, Nat.le_of_ble_eq_true rfl⟩) X Y hA S (by decide) (fun f66 H locs Y S s66 p66 => ?_)
          refine lv_aload_n X.1 X.2.1 d_Va_passwordKey_101 rfl (lv_at hl 0 rfl) ?_
          refine t_getr (ci := 11) X Y S k3 rfl i_Va 11 (by decide) rfl (k1 := 1) (k2 := 20) rfl rfl lk_Va_55 (fun _ h9 => h9) d_Va_passwordKey_102 (fun b67 e67 k67 => ?_)
          refine lv_iconst (v := iI 0) X.1 X.2.1 d_Va_passwordKey_105 (by decide) ?_
          refine lv_aload X.1 X.2.1 d_Va_passwordKey_106 (lv_at hl 2 rfl) ?_
          refine lv_iload X.1 X.2.1 d_Va_passwordKey_108 (lv_at hl 4 rfl) ?_
          refine lv_bipush (v := iI 20) X.1 X.2.1 d_Va_passwordKey_110 (by decide) ?_
          refine lv_aload X.1 X.2.1 d_Va_passwordKey_112 (lv_at hl 2 rfl) ?_
          refine t_alen X Y S KS (Or.inl k50) (by omega) d_Va_passwordKey_114 ?_
          refine lv_iload X.1 X.2.1 d_Va_passwordKey_115 (lv_at hl 4 rfl) ?_
          refine z_isub X.1 X.2.1 d_Va_passwordKey_117 ?_
          refine z_min X.1 X.2.1 (hml.trans hl.1.symm) X.2.2.2.1 (X.2.2.1 _ kl_Va_mmin) (X.2.2.1 _ ks_mmin) (X.2.2.1 _ ini_Math) (X.2.2.1 _ ki_mmin) (Nat.le_of_ble_eq_true rfl) (Nat.le_of_ble_eq_true rfl) (Nat.le_of_ble_eq_true rfl) (Nat.le_of_ble_eq_true rfl) ⟨by omega, by omega⟩ ⟨by omega, by omega⟩ d_Va_passwordKey_118 (fun z68 l68 u68 x68 => ?_)
          refine t_copyB X Y S KS (hml.trans hl.1.symm) kl_Va_copy (Or.inl k67) k50 (by omega) (by omega) (by omega) (by omega) (by omega) (by omega) (by omega) (fun h9 => h9.2.1 (by rw [← (S.2.2.2 _ h9).2, k50]; decide)) (Nat.le_of_ble_eq_true rfl) (Nat.le_of_ble_eq_true rfl) d_Va_passwordKey_121 (fun f69 H locs Y S w69 => ?_)
          refine lv_iinc (v := iI (z53 + 20)) (lv' := [(8, .int (iI (z53 + 20))), (0, .ref h), (5, .int (iI a5)), (6, .ref b49), (7, .int (iI z52))]) X.1 X.2.1 d_Va_passwordKey_124 hl (k := 4) rfl ((iI_add _ _).trans (congrArg iI (by omega))) (by decide) rfl (fun ls hl => ?_)
          refine lv_goto (tgt := 64) X.1 X.2.1 d_Va_passwordKey_127 (by decide) ?_
          exact ih55 ((51 - (z53 + 20)).toNat) (by omega) b49 n51 z52 (z53 + 20) f69 _ _ _ rfl (by omega) k50 (by omega) (by omega) (by omega) (by omega) Y S (lv_sub hl [1, 2, 3, 4, 0] rfl)
    refine lv_istore (lv' := [(8, .int (iI 0)), (7, .int (iI z43)), (6, .ref q36), (0, .ref h), (1, .int (iI a1)), (2, .ref a2), (3, .ref a3), (4, .int (iI a4)), (5, .int (iI a5))]) X.1 X.2.1 d_Va_passwordKey_62 hl (by decide) rfl (fun ls hl => ?_)
    exact J54 _ q36 32 z43 0 f47 _ _ _ rfl (by omega) k36 (by omega) (by omega) (by omega) (by omega) Y S (lv_sub hl [3, 8, 2, 1, 0] rfl)
set_option maxHeartbeats 4000000 in
set_option maxRecDepth 100000 in
theorem c_Va_fold (l : Launch) (D : va_G) (E : cE) (T : cT) (κ : tK) (L : List Nat) (f : pF) (sz : Nat) (h : Nat) (k0 : κ h = (21, 0)) (a1 : Int) (l_a1 : (-2147483648) ≤ a1) (u_a1 : a1 ≤ 2147483647) (a2 : Int) (l_a2 : (-2147483648) ≤ a2) (u_a2 : a2 ≤ 2147483647) (hw : tW E T κ L f) : Met l y_Va_fold (k_Va_fold :: lw_tg) (kRm 1 60 0 0) (va_Pc [.ref h, .int (iI a1), .int (iI a2)] (kPre D E T L f sz)) (va_Qv (nPv E T [1] κ L f (fun (g : pF) => True)) (cPost D E (pA L sz)) (pA L sz)) 0 0 (pA L sz) := by
  refine k_enter (own := R_Va) (by decide) rfl (Nat.le_of_ble_eq_true rfl) (fun p e s m below meth c ls AV QQ H locs hQQ X Y hA hin hr hlk hml hl KS KR => ?_)
  have hl : lv_has ls 10 [(0, .ref h), (1, .int (iI a1)), (2, .int (iI a2))] := hl
  have S : tS E T (tFr κ L [1] []) κ L f κ L f := tS_rf hw
  refine lv_iload_n X.1 X.2.1 d_Va_fold_0 rfl (lv_at hl 1 rfl) ?_
  refine lv_i2l X.1 X.2.1 d_Va_fold_1 rfl ?_
  refine t_anyl (fun v1 => ?_)
  refine lv_bipush (v := iI 8) X.1 X.2.1 d_Va_fold_2 (by decide) ?_
  refine lv_lshl X.1 X.2.1 d_Va_fold_4 rfl ?_
  refine t_anyl (fun v2 => ?_)
  refine lv_iload_n X.1 X.2.1 d_Va_fold_5 rfl (lv_at hl 2 rfl) ?_
  refine lv_i2l X.1 X.2.1 d_Va_fold_6 rfl ?_
  refine t_anyl (fun v3 => ?_)
  refine lv_lor X.1 X.2.1 d_Va_fold_7 ?_
  refine t_anyl (fun v4 => ?_)
  refine lv_lstore_n (lv' := [(3, .long v4), (0, .ref h), (1, .int (iI a1)), (2, .int (iI a2))]) X.1 X.2.1 d_Va_fold_8 rfl hl (by decide) rfl (fun ls hl => ?_)
  refine lv_iconst (v := iI 0) X.1 X.2.1 d_Va_fold_9 (by decide) ?_
  have J7 : ∀ (n9 : Nat) (z6 : Int) (f5 : pF) (H : Heap) (locs : List Loc) (ls : Array Slot), (16 - z6).toNat = n9 → (0 ≤ z6) → (z6 ≤ 16) → pH D cCl (pA L sz) s.heap L f5 H locs → tS E T (tFr κ L [1] []) κ L f κ L f5 → lv_has ls 10 [(0, .ref h), (3, .long v4), (5, .int (iI z6))] → W p l e (kRm 1 60 0 0) s m AV below meth c H locs 0 0 QQ (F0 m 12 ls []) := by
    intro n9
    induction n9 using Nat.strongRecOn with
    | ind n9 ih8 =>
      intro z6 f5 H locs ls hm10 l6 u6 Y S hl
      refine lv_iload X.1 X.2.1 d_Va_fold_12 (lv_at hl 2 rfl) ?_
      refine lv_bipush (v := iI 16) X.1 X.2.1 d_Va_fold_14 (by decide) ?_
      refine z_icmp_ge (tgt := 33) X.1 X.2.1 d_Va_fold_16 (by decide) ⟨by omega, by omega⟩ ⟨by omega, by omega⟩ (fun h11 => ?_) (fun h11 => ?_)
      · refine lv_iconst (v := iI 0) X.1 X.2.1 d_Va_fold_33 (by decide) ?_
        refine lv_istore (lv' := [(5, .int (iI 0)), (0, .ref h), (3, .long v4)]) X.1 X.2.1 d_Va_fold_34 hl (by decide) rfl (fun ls hl => ?_)
        refine lv_bipush (v := iI 79) X.1 X.2.1 d_Va_fold_36 (by decide) ?_
        have J15 : ∀ (n17 : Nat) (z13 : Int) (z14 : Int) (f12 : pF) (H : Heap) (locs : List Loc) (ls : Array Slot), (z14 - (-1)).toNat = n17 → ((-2147483648) ≤ z13) → (z13 ≤ 2147483647) → ((-1) ≤ z14) → (z14 ≤ 79) → pH D cCl (pA L sz) s.heap L f12 H locs → tS E T (tFr κ L [1] []) κ L f κ L f12 → lv_has ls 10 [(0, .ref h), (3, .long v4), (5, .int (iI z13)), (6, .int (iI z14))] → W p l e (kRm 1 60 0 0) s m AV below meth c H locs 0 0 QQ (F0 m 40 ls []) := by
          intro n17
          induction n17 using Nat.strongRecOn with
          | ind n17 ih16 =>
            intro z13 z14 f12 H locs ls hm18 l13 u13 l14 u14 Y S hl
            refine lv_iload X.1 X.2.1 d_Va_fold_40 (lv_at hl 3 rfl) ?_
            refine z_if_lt (tgt := 134) X.1 X.2.1 d_Va_fold_42 (by decide) ⟨by omega, by omega⟩ (fun h19 => ?_) (fun h19 => ?_)
            · refine lv_bipush (v := iI 15) X.1 X.2.1 d_Va_fold_134 (by decide) ?_
              have J23 : ∀ (n25 : Nat) (z21 : Int) (z22 : Int) (f20 : pF) (H : Heap) (locs : List Loc) (ls : Array Slot), (z22 - (-1)).toNat = n25 → ((-2147483648) ≤ z21) → (z21 ≤ 2147483647) → ((-1) ≤ z22) → (z22 ≤ 15) → pH D cCl (pA L sz) s.heap L f20 H locs → tS E T (tFr κ L [1] []) κ L f κ L f20 → lv_has ls 10 [(0, .ref h), (5, .int (iI z21)), (6, .int (iI z22))] → W p l e (kRm 1 60 0 0) s m AV below meth c H locs 0 0 QQ (F0 m 138 ls []) := by
                intro n25
                induction n25 using Nat.strongRecOn with
                | ind n25 ih24 =>
                  intro z21 z22 f20 H locs ls hm26 l21 u21 l22 u22 Y S hl
                  refine lv_iload X.1 X.2.1 d_Va_fold_138 (lv_at hl 2 rfl) ?_
                  refine z_if_lt (tgt := 187) X.1 X.2.1 d_Va_fold_140 (by decide) ⟨by omega, by omega⟩ (fun h27 => ?_) (fun h27 => ?_)
                  · exact c_retv hQQ X Y hr hlk ⟨rfl, S, trivial⟩ d_Va_fold_187
                  · refine lv_iload X.1 X.2.1 d_Va_fold_143 (lv_at hl 1 rfl) ?_
                    refine z_if_le (tgt := 187) X.1 X.2.1 d_Va_fold_145 (by decide) ⟨by omega, by omega⟩ (fun h28 => ?_) (fun h28 => ?_)
                    · exact c_retv hQQ X Y hr hlk ⟨rfl, S, trivial⟩ d_Va_fold_187
                    · refine lv_iload X.1 X.2.1 d_Va_fold_148 (lv_at hl 1 rfl) ?_
                      refine lv_aload_n X.1 X.2.1 d_Va_fold_150 rfl (lv_at hl 0 rfl) ?_
                      refine t_getr (ci := 11) X Y S k0 rfl i_Va 10 (by decide) rfl (k1 := 1) (k2 := 32) rfl rfl lk_Va_52 (fun _ h9 => h9) d_Va_fold_151 (fun b29 e29 k29 => ?_)
                      refine lv_iload X.1 X.2.1 d_Va_fold_154 (lv_at hl 2 rfl) ?_
                      refine t_bald X Y S (Or.inl k29) (by omega) (by omega) (by omega) d_Va_fold_156 (fun z30 l30 u30 => ?_)
                      refine lv_sipush (v := iI 255) X.1 X.2.1 d_Va_fold_157 (by decide) ?_
                      refine z_iand X.1 X.2.1 (by omega) (by omega) d_Va_fold_160 (fun z31 l31 u31 => ?_)
                      refine lv_iadd X.1 X.2.1 d_Va_fold_161 ?_
                      refine t_u (fun z32 l32 u32 => ?_)
                      refine lv_istore (lv' := [(5, .int (iI z32)), (0, .ref h), (6, .int (iI z22))]) X.1 X.2.1 d_Va_fold_162 hl (by decide) rfl (fun ls hl => ?_)
                      refine lv_aload_n X.1 X.2.1 d_Va_fold_164 rfl (lv_at hl 1 rfl) ?_
                      refine t_get0 (ci := 11) X Y S k0 rfl i_Va 10 (by decide) rfl lk_Va_52 (fun _ h9 => h9) d_Va_fold_165 e29 ?_
                      refine lv_iload X.1 X.2.1 d_Va_fold_168 (lv_at hl 2 rfl) ?_
                      refine lv_iload X.1 X.2.1 d_Va_fold_170 (lv_at hl 0 rfl) ?_
                      refine lv_i2b X.1 X.2.1 d_Va_fold_172 rfl ?_
                      refine t_u (fun z33 l33 u33 => ?_)
                      refine t_bast X Y S k29 (by omega) (by omega) (by omega) (fun h9 => h9.2.1 (by rw [← (S.2.2.2 _ h9).2, k29]; decide)) d_Va_fold_173 (fun f34 H locs Y S w34 => ?_)
                      refine lv_iload X.1 X.2.1 d_Va_fold_174 (lv_at hl 0 rfl) ?_
                      refine lv_bipush (v := iI 8) X.1 X.2.1 d_Va_fold_176 (by decide) ?_
                      refine lv_ishr X.1 X.2.1 d_Va_fold_178 ?_
                      refine t_u (fun z35 l35 u35 => ?_)
                      refine lv_istore (lv' := [(5, .int (iI z35)), (0, .ref h), (6, .int (iI z22))]) X.1 X.2.1 d_Va_fold_179 hl (by decide) rfl (fun ls hl => ?_)
                      refine lv_iinc (v := iI (z22 - 1)) (lv' := [(6, .int (iI (z22 - 1))), (5, .int (iI z35)), (0, .ref h)]) X.1 X.2.1 d_Va_fold_181 hl (k := 2) rfl ((iI_add _ _).trans (congrArg iI (by omega))) (by decide) rfl (fun ls hl => ?_)
                      refine lv_goto (tgt := 138) X.1 X.2.1 d_Va_fold_184 (by decide) ?_
                      exact ih24 (((z22 - 1) - (-1)).toNat) (by omega) z35 (z22 - 1) f34 _ _ _ rfl (by omega) (by omega) (by omega) (by omega) Y S (lv_sub hl [2, 1, 0] rfl)
              refine lv_istore (lv' := [(6, .int (iI 15)), (0, .ref h), (3, .long v4), (5, .int (iI z13))]) X.1 X.2.1 d_Va_fold_136 hl (by decide) rfl (fun ls hl => ?_)
              exact J23 _ z13 15 f12 _ _ _ rfl (by omega) (by omega) (by omega) (by omega) Y S (lv_sub hl [1, 3, 0] rfl)
            · refine lv_iload X.1 X.2.1 d_Va_fold_45 (lv_at hl 3 rfl) ?_
              refine lv_iconst (v := iI 5) X.1 X.2.1 d_Va_fold_47 (by decide) ?_
              refine z_idiv X.1 X.2.1 (by omega) (by omega) ⟨by decide, by decide⟩ d_Va_fold_48 ?_
              refine lv_bipush (v := iI 13) X.1 X.2.1 d_Va_fold_49 (by decide) ?_
              refine z_imul X.1 X.2.1 d_Va_fold_51 ?_
              refine lv_bipush (v := iI 8) X.1 X.2.1 d_Va_fold_52 (by decide) ?_
              refine lv_iconst (v := iI 4) X.1 X.2.1 d_Va_fold_54 (by decide) ?_
              refine lv_iload X.1 X.2.1 d_Va_fold_55 (lv_at hl 3 rfl) ?_
              refine lv_iconst (v := iI 5) X.1 X.2.1 d_Va_fold_57 (by decide) ?_
              refine z_irem X.1 X.2.1 (by omega) (by omega) ⟨by decide, by decide⟩ d_Va_fold_58 ?_
              refine z_isub X.1 X.2.1 d_Va_fold_59 ?_
              refine z_imul X.1 X.2.1 d_Va_fold_60 ?_
              refine z_iadd X.1 X.2.1 d_Va_fold_61 ?_
              refine lv_bipush (v := iI 40) X.1 X.2.1 d_Va_fold_62 (by decide) ?_
              refine z_irem X.1 X.2.1 (by omega) (by omega) ⟨by decide, by decide⟩ d_Va_fold_64 ?_
              refine lv_istore (lv' := [(7, .int (iI ((((z14 / 5) * 13) + (8 * (4 - (z14 % 5)))) % 40))), (0, .ref h), (3, .long v4), (5, .int (iI z13)), (6, .int (iI z14))]) X.1 X.2.1 d_Va_fold_65 hl (by decide) rfl (fun ls hl => ?_)
              refine lv_lload_n X.1 X.2.1 d_Va_fold_67 rfl (lv_at hl 2 rfl) ?_
              refine lv_iload X.1 X.2.1 d_Va_fold_68 (lv_at hl 0 rfl) ?_
              refine lv_lushr X.1 X.2.1 d_Va_fold_70 rfl ?_
              refine t_anyl (fun v36 => ?_)
              refine lv_lload_n X.1 X.2.1 d_Va_fold_71 rfl (lv_at hl 2 rfl) ?_
              refine lv_bipush (v := iI 40) X.1 X.2.1 d_Va_fold_72 (by decide) ?_
              refine lv_iload X.1 X.2.1 d_Va_fold_74 (lv_at hl 0 rfl) ?_
              refine z_isub X.1 X.2.1 d_Va_fold_76 ?_
              refine lv_lshl X.1 X.2.1 d_Va_fold_77 rfl ?_
              refine t_anyl (fun v37 => ?_)
              refine lv_lor X.1 X.2.1 d_Va_fold_78 ?_
              refine t_anyl (fun v38 => ?_)
              refine lv_lstore (lv' := [(8, .long v38), (7, .int (iI ((((z14 / 5) * 13) + (8 * (4 - (z14 % 5)))) % 40))), (0, .ref h), (3, .long v4), (5, .int (iI z13)), (6, .int (iI z14))]) X.1 X.2.1 d_Va_fold_79 hl (by decide) rfl (fun ls hl => ?_)
              refine lv_iload X.1 X.2.1 d_Va_fold_81 (lv_at hl 4 rfl) ?_
              refine lv_lload X.1 X.2.1 d_Va_fold_83 (lv_at hl 0 rfl) ?_
              refine lv_ldc2 (v := (255)) X.1 X.2.1 X.2.2.2.1 (X.2.2.1 _ cl_Va_164) d_Va_fold_85 ?_
              refine lv_land X.1 X.2.1 d_Va_fold_88 ?_
              refine t_anyl (fun v39 => ?_)
              refine lv_l2i X.1 X.2.1 d_Va_fold_89 rfl ?_
              refine t_u (fun z40 l40 u40 => ?_)
              refine lv_aload_n X.1 X.2.1 d_Va_fold_90 rfl (lv_at hl 2 rfl) ?_
              refine t_getr (ci := 11) X Y S k0 rfl i_Va 10 (by decide) rfl (k1 := 1) (k2 := 32) rfl rfl lk_Va_52 (fun _ h9 => h9) d_Va_fold_91 (fun b41 e41 k41 => ?_)
              refine lv_iload X.1 X.2.1 d_Va_fold_94 (lv_at hl 5 rfl) ?_
              refine lv_bipush (v := iI 16) X.1 X.2.1 d_Va_fold_96 (by decide) ?_
              refine z_irem X.1 X.2.1 (by omega) (by omega) ⟨by decide, by decide⟩ d_Va_fold_98 ?_
              refine t_bald X Y S (Or.inl k41) (by omega) (by omega) (by omega) d_Va_fold_99 (fun z42 l42 u42 => ?_)
              refine lv_sipush (v := iI 255) X.1 X.2.1 d_Va_fold_100 (by decide) ?_
              refine z_iand X.1 X.2.1 (by omega) (by omega) d_Va_fold_103 (fun z43 l43 u43 => ?_)
              refine lv_iadd X.1 X.2.1 d_Va_fold_104 ?_
              refine t_u (fun z44 l44 u44 => ?_)
              refine lv_iadd X.1 X.2.1 d_Va_fold_105 ?_
              refine t_u (fun z45 l45 u45 => ?_)
              refine lv_istore (lv' := [(5, .int (iI z45)), (8, .long v38), (7, .int (iI ((((z14 / 5) * 13) + (8 * (4 - (z14 % 5)))) % 40))), (0, .ref h), (3, .long v4), (6, .int (iI z14))]) X.1 X.2.1 d_Va_fold_106 hl (by decide) rfl (fun ls hl => ?_)
              refine lv_aload_n X.1 X.2.1 d_Va_fold_108 rfl (lv_at hl 3 rfl) ?_
              refine t_get0 (ci := 11) X Y S k0 rfl i_Va 10 (by decide) rfl lk_Va_52 (fun _ h9 => h9) d_Va_fold_109 e41 ?_
              refine lv_iload X.1 X.2.1 d_Va_fold_112 (lv_at hl 5 rfl) ?_
              refine lv_bipush (v := iI 16) X.1 X.2.1 d_Va_fold_114 (by decide) ?_
              refine z_irem X.1 X.2.1 (by omega) (by omega) ⟨by decide, by decide⟩ d_Va_fold_116 ?_
              refine lv_iload X.1 X.2.1 d_Va_fold_117 (lv_at hl 0 rfl) ?_
              refine lv_i2b X.1 X.2.1 d_Va_fold_119 rfl ?_
              refine t_u (fun z46 l46 u46 => ?_)
              refine t_bast X Y S k41 (by omega) (by omega) (by omega) (fun h9 => h9.2.1 (by rw [← (S.2.2.2 _ h9).2, k41]; decide)) d_Va_fold_120 (fun f47 H locs Y S w47 => ?_)
              refine lv_iload X.1 X.2.1 d_Va_fold_121 (lv_at hl 0 rfl) ?_
              refine lv_bipush (v := iI 8) X.1 X.2.1 d_Va_fold_123 (by decide) ?_
              refine lv_ishr X.1 X.2.1 d_Va_fold_125 ?_
              refine t_u (fun z48 l48 u48 => ?_)
              refine lv_istore (lv' := [(5, .int (iI z48)), (8, .long v38), (7, .int (iI ((((z14 / 5) * 13) + (8 * (4 - (z14 % 5)))) % 40))), (0, .ref h), (3, .long v4), (6, .int (iI z14))]) X.1 X.2.1 d_Va_fold_126 hl (by decide) rfl (fun ls hl => ?_)
              refine lv_iinc (v := iI (z14 - 1)) (lv' := [(6, .int (iI (z14 - 1))), (5, .int (iI z48)), (8, .long v38), (7, .int (iI ((((z14 / 5) * 13) + (8 * (4 - (z14 % 5)))) % 40))), (0, .ref h), (3, .long v4)]) X.1 X.2.1 d_Va_fold_128 hl (k := 5) rfl ((iI_add _ _).trans (congrArg iI (by omega))) (by decide) rfl (fun ls hl => ?_)
              refine lv_goto (tgt := 40) X.1 X.2.1 d_Va_fold_131 (by decide) ?_
              exact ih16 (((z14 - 1) - (-1)).toNat) (by omega) z48 (z14 - 1) f47 _ _ _ rfl (by omega) (by omega) (by omega) (by omega) Y S (lv_sub hl [4, 5, 1, 0] rfl)
        refine lv_istore (lv' := [(6, .int (iI 79)), (5, .int (iI 0)), (0, .ref h), (3, .long v4)]) X.1 X.2.1 d_Va_fold_38 hl (by decide) rfl (fun ls hl => ?_)
        exact J15 _ 0 79 f5 _ _ _ rfl (by omega) (by omega) (by omega) (by omega) Y S (lv_sub hl [2, 3, 1, 0] rfl)
      · refine lv_aload_n X.1 X.2.1 d_Va_fold_19 rfl (lv_at hl 0 rfl) ?_
        refine t_getr (ci := 11) X Y S k0 rfl i_Va 10 (by decide) rfl (k1 := 1) (k2 := 32) rfl rfl lk_Va_52 (fun _ h9 => h9) d_Va_fold_20 (fun b49 e49 k49 => ?_)
        refine lv_iload X.1 X.2.1 d_Va_fold_23 (lv_at hl 2 rfl) ?_
        refine lv_iconst (v := iI 0) X.1 X.2.1 d_Va_fold_25 (by decide) ?_
        refine t_bast X Y S k49 (by omega) (by omega) (by omega) (fun h9 => h9.2.1 (by rw [← (S.2.2.2 _ h9).2, k49]; decide)) d_Va_fold_26 (fun f50 H locs Y S w50 => ?_)
        refine lv_iinc (v := iI (z6 + 1)) (lv' := [(5, .int (iI (z6 + 1))), (0, .ref h), (3, .long v4)]) X.1 X.2.1 d_Va_fold_27 hl (k := 2) rfl ((iI_add _ _).trans (congrArg iI (by omega))) (by decide) rfl (fun ls hl => ?_)
        refine lv_goto (tgt := 12) X.1 X.2.1 d_Va_fold_30 (by decide) ?_
        exact ih8 ((16 - (z6 + 1)).toNat) (by omega) (z6 + 1) f50 _ _ _ rfl (by omega) (by omega) Y S (lv_sub hl [1, 2, 0] rfl)
  refine lv_istore (lv' := [(5, .int (iI 0)), (3, .long v4), (0, .ref h), (1, .int (iI a1)), (2, .int (iI a2))]) X.1 X.2.1 d_Va_fold_10 hl (by decide) rfl (fun ls hl => ?_)
  exact J7 _ 0 f _ _ _ rfl (by omega) (by omega) Y S (lv_sub hl [2, 1, 0] rfl)
set_option maxHeartbeats 4000000 in
set_option maxRecDepth 100000 in
theorem c_Va_derive (l : Launch) (D : va_G) (E : cE) (T : cT) (κ : tK) (L : List Nat) (f : pF) (sz : Nat) (h : Nat) (k0 : κ h = (21, 0)) (a1 n1 : Nat) (k1 : tKey T κ a1 n1) (x1 : n1 = 0 ∨ n1 = 16 ∨ n1 = 32) (a2 : Int) (l_a2 : (-2147483648) ≤ a2) (u_a2 : a2 ≤ 2147483647) (a3 : Int) (l_a3 : (-2147483648) ≤ a3) (u_a3 : a3 ≤ 2147483647) (hw : tW E T κ L f) : Met l y_Va_derive (k_Va_derive :: lw_tg) (kRm 4 132 0 0) (va_Pc [.ref h, .ref a1, .int (iI a2), .int (iI a3)] (kPre D E T L f sz)) (va_Qv (nPv E T [1, 2, 3, 4, 11] κ L f (fun (g : pF) => True)) (cPost D E (pA L sz)) (pA L sz)) 0 0 (pA L sz) := by
  refine k_enter (own := R_Va) (by decide) rfl (Nat.le_of_ble_eq_true rfl) (fun p e s m below meth c ls AV QQ H locs hQQ X Y hA hin hr hlk hml hl KS KR => ?_)
  have hl : lv_has ls 4 [(0, .ref h), (1, .ref a1), (2, .int (iI a2)), (3, .int (iI a3))] := hl
  have S : tS E T (tFr κ L [1, 2, 3, 4, 11] []) κ L f κ L f := tS_rf hw
  refine lv_aload_n X.1 X.2.1 d_Va_derive_0 rfl (lv_at hl 0 rfl) ?_
  refine lv_iload_n X.1 X.2.1 d_Va_derive_1 rfl (lv_at hl 2 rfl) ?_
  refine lv_iload_n X.1 X.2.1 d_Va_derive_2 rfl (lv_at hl 3 rfl) ?_
  refine t_nv (t_runV (As := [.int (iI a2), .int (iI a3)]) (rest := []) (n := 2) X Y S k0 hml hl.1 (c_Va_fold l D E T κ L f H.size h k0 a2 (by omega) (by omega) a3 (by omega) (by omega) S.1) (ok_k X Y hA KS KR) rfl kl_Va_Va_fold ks_Va_fold kx_Va_fold ki_Va_fold ini_Va ⟨rfl, rfl⟩ hd_Va_fold ⟨Nat.le_of_ble_eq_true rfl, Nat.le_of_ble_eq_true rfl⟩ rfl (Nat.le_of_ble_eq_true rfl) d_Va_derive_3 ⟨Nat.le_of_ble_eq_true rfl, Nat.le_of_ble_eq_true rfl⟩) X Y hA S (by decide) (fun f1 H locs Y S s1 p1 => ?_)
  refine lv_aload_n X.1 X.2.1 d_Va_derive_6 rfl (lv_at hl 0 rfl) ?_
  refine t_getr (ci := 11) X Y S k0 rfl i_Va 4 (by decide) rfl (k1 := 11) (k2 := 0) rfl rfl lk_Va_38 (fun _ h9 => h9) d_Va_derive_7 (fun b2 e2 k2 => ?_)
  refine lv_aload_n X.1 X.2.1 d_Va_derive_10 rfl (lv_at hl 1 rfl) ?_
  refine lv_aload_n X.1 X.2.1 d_Va_derive_11 rfl (lv_at hl 1 rfl) ?_
  refine t_alen X Y S KS (tKey_src k1) (by omega) d_Va_derive_12 ?_
  refine t_nv (t_runV (As := [.ref a1, .int (iI ((n1 : Int)))]) (rest := []) (n := 2) X Y S k2 hml hl.1 (c_Ae_setKey l D E T κ L f1 H.size b2 k2 a1 n1 (tKey_src k1) (by omega) ((n1 : Int)) (by omega) (by omega) S.1) (ok_k X Y hA KS KR) rfl kl_Va_Ae_setKey ks_Ae_setKey kx_Ae_setKey ki_Ae_setKey ini_Ae ⟨rfl, rfl⟩ hd_Ae_setKey ⟨Nat.le_of_ble_eq_true rfl, Nat.le_of_ble_eq_true rfl⟩ rfl (Nat.le_of_ble_eq_true rfl) d_Va_derive_13 ⟨Nat.le_of_ble_eq_true rfl, Nat.le_of_ble_eq_true rfl⟩) X Y hA S (by decide) (fun f3 H locs Y S s3 p3 => ?_)
  refine lv_aload_n X.1 X.2.1 d_Va_derive_16 rfl (lv_at hl 0 rfl) ?_
  refine lv_aload_n X.1 X.2.1 d_Va_derive_17 rfl (lv_at hl 0 rfl) ?_
  refine t_getr (ci := 11) X Y S k0 rfl i_Va 10 (by decide) rfl (k1 := 1) (k2 := 32) rfl rfl lk_Va_52 (fun _ h9 => h9) d_Va_derive_18 (fun b4 e4 k4 => ?_)
  refine lv_aload_n X.1 X.2.1 d_Va_derive_21 rfl (lv_at hl 1 rfl) ?_
  refine t_alen X Y S KS (tKey_src k1) (by omega) d_Va_derive_22 ?_
  refine t_nv (t_runV (As := [.ref b4, .int (iI ((n1 : Int)))]) (rest := []) (n := 2) X Y S k0 hml hl.1 (c_Va_chain l D E T κ L f3 H.size h k0 b4 32 k4 (by omega) ((n1 : Int)) (by omega) (by omega) S.1) (ok_k X Y hA KS KR) rfl kl_Va_Va_chain ks_Va_chain kx_Va_chain ki_Va_chain ini_Va ⟨rfl, rfl⟩ hd_Va_chain ⟨Nat.le_of_ble_eq_true rfl, Nat.le_of_ble_eq_true rfl⟩ rfl (Nat.le_of_ble_eq_true rfl) d_Va_derive_23 ⟨Nat.le_of_ble_eq_true rfl, Nat.le_of_ble_eq_true rfl⟩) X Y hA S (by decide) (fun f5 H locs Y S s5 p5 => ?_)
  exact c_retv hQQ X Y hr hlk ⟨rfl, S, trivial⟩ d_Va_derive_26
set_option maxHeartbeats 4000000 in
set_option maxRecDepth 100000 in
theorem c_Va_digest (l : Launch) (D : va_G) (E : cE) (T : cT) (κ : tK) (L : List Nat) (f : pF) (sz : Nat) (h : Nat) (k0 : κ h = (21, 0)) (a1 n1 : Nat) (k1 : κ a1 = (13, n1)) (x1 : n1 ≤ 12288) (a2 : Int) (l_a2 : (-1) ≤ a2) (u_a2 : a2 ≤ 20200) (a3 : Int) (l_a3 : (-1) ≤ a3) (u_a3 : a3 ≤ 20200) (hw : tW E T κ L f) : Met l y_Va_digest (k_Va_digest :: lw_tg) (kRm 4 130 0 0) (va_Pc [.ref h, .ref a1, .int (iI a2), .int (iI a3)] (kPre D E T L f sz)) (va_Qv (nPv E T [1, 2, 3, 4, 16] κ L f (fun (g : pF) => True)) (cPost D E (pA L sz)) (pA L sz)) 0 0 (pA L sz) := by
  refine k_enter (own := R_Va) (by decide) rfl (Nat.le_of_ble_eq_true rfl) (fun p e s m below meth c ls AV QQ H locs hQQ X Y hA hin hr hlk hml hl KS KR => ?_)
  have hl : lv_has ls 4 [(0, .ref h), (1, .ref a1), (2, .int (iI a2)), (3, .int (iI a3))] := hl
  have S : tS E T (tFr κ L [1, 2, 3, 4, 16] []) κ L f κ L f := tS_rf hw
  refine lv_aload_n X.1 X.2.1 d_Va_digest_0 rfl (lv_at hl 0 rfl) ?_
  refine t_getr (ci := 11) X Y S k0 rfl i_Va 3 (by decide) rfl (k1 := 16) (k2 := 0) rfl rfl lk_Va_31 (fun _ h9 => h9) d_Va_digest_1 (fun b1 e1 k1 => ?_)
  refine t_nv (t_runV (As := []) (rest := []) (n := 0) X Y S k1 hml hl.1 (c_Ha_begin l D E T κ L f H.size b1 k1 S.1) (ok_k X Y hA KS KR) rfl kl_Va_Ha_begin ks_Ha_begin kx_Ha_begin ki_Ha_begin ini_Ha ⟨rfl, rfl⟩ hd_Ha_begin ⟨Nat.le_of_ble_eq_true rfl, Nat.le_of_ble_eq_true rfl⟩ rfl (Nat.le_of_ble_eq_true rfl) d_Va_digest_4 ⟨Nat.le_of_ble_eq_true rfl, Nat.le_of_ble_eq_true rfl⟩) X Y hA S (by decide) (fun f2 H locs Y S s2 p2 => ?_)
  obtain x2 := p2
  obtain ⟨z3, e3, l3, u3⟩ := x2
  refine lv_aload_n X.1 X.2.1 d_Va_digest_7 rfl (lv_at hl 0 rfl) ?_
  refine t_get0 (ci := 11) X Y S k0 rfl i_Va 3 (by decide) rfl lk_Va_31 (fun _ h9 => h9) d_Va_digest_8 ((gF_same (s2.2.2.2 _ ⟨(t_obj S.1 k0).1, by rw [k0]; decide, by simp⟩).1 3).trans e1) ?_
  refine lv_aload_n X.1 X.2.1 d_Va_digest_11 rfl (lv_at hl 1 rfl) ?_
  refine t_getrow (ci := 3) X Y S k1 rfl i_By 0 (by decide) rfl lk_Va_86 (fun _ h9 => h9) d_Va_digest_12 (fun b4 e4 k4 => ?_)
  refine lv_iload_n X.1 X.2.1 d_Va_digest_15 rfl (lv_at hl 2 rfl) ?_
  refine lv_iload_n X.1 X.2.1 d_Va_digest_16 rfl (lv_at hl 3 rfl) ?_
  refine lv_iload_n X.1 X.2.1 d_Va_digest_17 rfl (lv_at hl 2 rfl) ?_
  refine z_isub X.1 X.2.1 d_Va_digest_18 ?_
  refine t_nv (t_runV (As := [.ref b4, .int (iI a2), .int (iI (a3 - a2))]) (rest := []) (n := 3) X Y S k1 hml hl.1 (c_Ha_add l D E T κ L f2 H.size b1 k1 b4 n1 (Or.inl k4) (by omega) a2 (by omega) (by omega) (a3 - a2) (by omega) (by omega) S.1 z3 e3 (by omega) (by omega)) (ok_k X Y hA KS KR) rfl kl_Va_Ha_add ks_Ha_add kx_Ha_add ki_Ha_add ini_Ha ⟨rfl, rfl⟩ hd_Ha_add ⟨Nat.le_of_ble_eq_true rfl, Nat.le_of_ble_eq_true rfl⟩ rfl (Nat.le_of_ble_eq_true rfl) d_Va_digest_19 ⟨Nat.le_of_ble_eq_true rfl, Nat.le_of_ble_eq_true rfl⟩) X Y hA S (by decide) (fun f5 H locs Y S s5 p5 => ?_)
  obtain x5 := p5
  obtain ⟨z6, e6, l6, u6⟩ := x5
  refine lv_aload_n X.1 X.2.1 d_Va_digest_22 rfl (lv_at hl 0 rfl) ?_
  refine t_get0 (ci := 11) X Y S k0 rfl i_Va 3 (by decide) rfl lk_Va_31 (fun _ h9 => h9) d_Va_digest_23 ((gF_same (s5.2.2.2 _ ⟨(t_obj S.1 k0).1, by rw [k0]; decide, by simp⟩).1 3).trans ((gF_same (s2.2.2.2 _ ⟨(t_obj S.1 k0).1, by rw [k0]; decide, by simp⟩).1 3).trans e1)) ?_
  refine t_nv (t_runV (As := []) (rest := []) (n := 0) X Y S k1 hml hl.1 (c_Ha_finish l D E T κ L f5 H.size b1 k1 S.1 z6 e6 (by omega) (by omega)) (ok_k X Y hA KS KR) rfl kl_Va_Ha_finish ks_Ha_finish kx_Ha_finish ki_Ha_finish ini_Ha ⟨rfl, rfl⟩ hd_Ha_finish ⟨Nat.le_of_ble_eq_true rfl, Nat.le_of_ble_eq_true rfl⟩ rfl (Nat.le_of_ble_eq_true rfl) d_Va_digest_26 ⟨Nat.le_of_ble_eq_true rfl, Nat.le_of_ble_eq_true rfl⟩) X Y hA S (by decide) (fun f7 H locs Y S s7 p7 => ?_)
  exact c_retv hQQ X Y hr hlk ⟨rfl, S, trivial⟩ d_Va_digest_29
set_option maxHeartbeats 4000000 in
set_option maxRecDepth 100000 in
theorem c_Va_isMac (l : Launch) (D : va_G) (E : cE) (T : cT) (κ : tK) (L : List Nat) (f : pF) (sz : Nat) (h : Nat) (k0 : κ h = (21, 0)) (a1 n1 : Nat) (k1 : κ a1 = (13, n1)) (x1 : n1 ≤ 12288) (a2 : Int) (l_a2 : (-20300) ≤ a2) (u_a2 : a2 ≤ 20300) (hw : tW E T κ L f) : Met l y_Va_isMac (k_Va_isMac :: lw_tg) (kRm 2 81 0 0) (va_Pc [.ref h, .ref a1, .int (iI a2)] (kPre D E T L f sz)) (va_Qi (uPi L f (fun (z : Int) => 0 ≤ z ∧ z ≤ 1)) (cPost D E (pA L sz)) (pA L sz)) 0 0 (pA L sz) := by
  refine k_enter (own := R_Va) (by decide) rfl (Nat.le_of_ble_eq_true rfl) (fun p e s m below meth c ls AV QQ H locs hQQ X Y hA hin hr hlk hml hl KS KR => ?_)
  have hl : lv_has ls 4 [(0, .ref h), (1, .ref a1), (2, .int (iI a2))] := hl
  have S : tS E T (tFr κ L [] []) κ L f κ L f := tS_rf hw
  refine lv_iconst (v := iI 0) X.1 X.2.1 d_Va_isMac_0 (by decide) ?_
  have J2 : ∀ (n4 : Nat) (z1 : Int) (H : Heap) (locs : List Loc) (ls : Array Slot), (12 - z1).toNat = n4 → (0 ≤ z1) → (z1 ≤ 12) → pH D cCl (pA L sz) s.heap L f H locs → tS E T (tFr κ L [] []) κ L f κ L f → lv_has ls 4 [(0, .ref h), (1, .ref a1), (2, .int (iI a2)), (3, .int (iI z1))] → W p l e (kRm 2 81 0 0) s m AV below meth c H locs 0 0 QQ (F0 m 2 ls []) := by
    intro n4
    induction n4 using Nat.strongRecOn with
    | ind n4 ih3 =>
      intro z1 H locs ls hm5 l1 u1 Y S hl
      refine lv_iload_n X.1 X.2.1 d_Va_isMac_2 rfl (lv_at hl 3 rfl) ?_
      refine lv_bipush (v := iI 12) X.1 X.2.1 d_Va_isMac_3 (by decide) ?_
      refine z_icmp_ge (tgt := 39) X.1 X.2.1 d_Va_isMac_5 (by decide) ⟨by omega, by omega⟩ ⟨by omega, by omega⟩ (fun h6 => ?_) (fun h6 => ?_)
      · refine lv_iconst (v := iI 1) X.1 X.2.1 d_Va_isMac_39 (by decide) ?_
        exact c_retz hQQ X Y hr hlk (iI_bool (by omega) (by omega)).1 ⟨rfl, rfl, 1, rfl, ⟨by omega, by omega⟩⟩ d_Va_isMac_40
      · refine lv_aload_n X.1 X.2.1 d_Va_isMac_8 rfl (lv_at hl 1 rfl) ?_
        refine lv_iload_n X.1 X.2.1 d_Va_isMac_9 rfl (lv_at hl 2 rfl) ?_
        refine lv_iload_n X.1 X.2.1 d_Va_isMac_10 rfl (lv_at hl 3 rfl) ?_
        refine z_iadd X.1 X.2.1 d_Va_isMac_11 ?_
        refine t_ui (t_runV (As := [.int (iI (a2 + z1))]) (rest := []) (n := 1) X Y S k1 hml hl.1 (c_By_at l D E T κ L f H.size a1 n1 k1 (by omega) (a2 + z1) (by omega) (by omega) S.1) (ok_k X Y hA KS KR) rfl kl_Va_By_at ks_By_at kx_By_at ki_By_at ini_By ⟨rfl, rfl⟩ hd_By_at ⟨Nat.le_of_ble_eq_true rfl, Nat.le_of_ble_eq_true rfl⟩ rfl (Nat.le_of_ble_eq_true rfl) d_Va_isMac_12 ⟨Nat.le_of_ble_eq_true rfl, Nat.le_of_ble_eq_true rfl⟩) X Y hA (fun z7 H locs Y p7 => ?_)
        obtain ⟨l7, u7⟩ := p7
        refine lv_aload_n X.1 X.2.1 d_Va_isMac_15 rfl (lv_at hl 0 rfl) ?_
        refine t_getr (ci := 11) X Y S k0 rfl i_Va 3 (by decide) rfl (k1 := 16) (k2 := 0) rfl rfl lk_Va_31 (fun _ h9 => h9) d_Va_isMac_16 (fun b8 e8 k8 => ?_)
        refine t_getr (ci := 6) X Y S k8 rfl i_Ha 7 (by decide) rfl (k1 := 1) (k2 := 20) rfl rfl lk_Va_125 (fun _ h9 => h9) d_Va_isMac_19 (fun b9 e9 k9 => ?_)
        refine lv_iload_n X.1 X.2.1 d_Va_isMac_22 rfl (lv_at hl 3 rfl) ?_
        refine t_bald X Y S (Or.inl k9) (by omega) (by omega) (by omega) d_Va_isMac_23 (fun z10 l10 u10 => ?_)
        refine lv_sipush (v := iI 255) X.1 X.2.1 d_Va_isMac_24 (by decide) ?_
        refine z_iand X.1 X.2.1 (by omega) (by omega) d_Va_isMac_27 (fun z11 l11 u11 => ?_)
        refine z_icmp_eq (tgt := 33) X.1 X.2.1 d_Va_isMac_28 (by decide) ⟨by omega, by omega⟩ ⟨by omega, by omega⟩ (fun h12 => ?_) (fun h12 => ?_)
        · refine lv_iinc (v := iI (z1 + 1)) (lv' := [(3, .int (iI (z1 + 1))), (0, .ref h), (1, .ref a1), (2, .int (iI a2))]) X.1 X.2.1 d_Va_isMac_33 hl (k := 3) rfl ((iI_add _ _).trans (congrArg iI (by omega))) (by decide) rfl (fun ls hl => ?_)
          refine lv_goto (tgt := 2) X.1 X.2.1 d_Va_isMac_36 (by decide) ?_
          exact ih3 ((12 - (z1 + 1)).toNat) (by omega) (z1 + 1) _ _ _ rfl (by omega) (by omega) Y S (lv_sub hl [1, 2, 3, 0] rfl)
        · refine lv_iconst (v := iI 0) X.1 X.2.1 d_Va_isMac_31 (by decide) ?_
          exact c_retz hQQ X Y hr hlk (iI_bool (by omega) (by omega)).1 ⟨rfl, rfl, 0, rfl, ⟨by omega, by omega⟩⟩ d_Va_isMac_32
  refine lv_istore_n (lv' := [(3, .int (iI 0)), (0, .ref h), (1, .ref a1), (2, .int (iI a2))]) X.1 X.2.1 d_Va_isMac_1 rfl hl (by decide) rfl (fun ls hl => ?_)
  exact J2 _ 0 _ _ _ rfl (by omega) (by omega) Y S (lv_sub hl [1, 2, 3, 0] rfl)
set_option maxHeartbeats 4000000 in
set_option maxRecDepth 100000 in
theorem c_Va_putSealed (l : Launch) (D : va_G) (E : cE) (T : cT) (κ : tK) (L : List Nat) (f : pF) (sz : Nat) (h : Nat) (k0 : κ h = (21, 0)) (a1 n1 : Nat) (k1 : κ a1 = (13, n1)) (x1 : n1 ≤ 12288) (a2 n2 : Nat) (k2 : tKey T κ a2 n2) (x2 : n2 = 0 ∨ n2 = 16 ∨ n2 = 32) (a3 : Int) (l_a3 : (-2147483648) ≤ a3) (u_a3 : a3 ≤ 2147483647) (a4 : Int) (l_a4 : (-2147483648) ≤ a4) (u_a4 : a4 ≤ 2147483647) (hw : tW E T κ L f) : Met l y_Va_putSealed (k_Va_putSealed :: lw_tg) (kRm 5 158 0 0) (va_Pc [.ref h, .ref a1, .ref a2, .int (iI a3), .int (iI a4)] (kPre D E T L f sz)) (va_Qv (nPv E T [1, 2, 3, 4, 11, 13, 16, 21] κ L f (fun (g : pF) => True)) (cPost D E (pA L sz)) (pA L sz)) 0 0 (pA L sz) := by
  refine k_enter (own := R_Va) (by decide) rfl (Nat.le_of_ble_eq_true rfl) (fun p e s m below meth c ls AV QQ H locs hQQ X Y hA hin hr hlk hml hl KS KR => ?_)
  have hl : lv_has ls 10 [(0, .ref h), (1, .ref a1), (2, .ref a2), (3, .int (iI a3)), (4, .int (iI a4))] := hl
  have S : tS E T (tFr κ L [1, 2, 3, 4, 11, 13, 16, 21] []) κ L f κ L f := tS_rf hw
  refine lv_aload_n X.1 X.2.1 d_Va_putSealed_0 rfl (lv_at hl 1 rfl) ?_
  refine lv_bipush (v := iI 48) X.1 X.2.1 d_Va_putSealed_1 (by decide) ?_
  refine t_ni (t_runV (As := [.int (iI 48)]) (rest := []) (n := 1) X Y S k1 hml hl.1 (c_By_open l D E T κ L f H.size a1 n1 k1 (by omega) 48 (by omega) (by omega) S.1) (ok_k X Y hA KS KR) rfl kl_Va_By_open ks_By_open kx_By_open ki_By_open ini_By ⟨rfl, rfl⟩ hd_By_open ⟨Nat.le_of_ble_eq_true rfl, Nat.le_of_ble_eq_true rfl⟩ rfl (Nat.le_of_ble_eq_true rfl) d_Va_putSealed_3 ⟨Nat.le_of_ble_eq_true rfl, Nat.le_of_ble_eq_true rfl⟩) X Y hA S (by decide) (fun z1 f1 H locs Y S s1 p1 => ?_)
  obtain ⟨l1, u1⟩ := p1
  refine lv_istore (lv' := [(5, .int (iI z1)), (0, .ref h), (1, .ref a1), (2, .ref a2), (3, .int (iI a3)), (4, .int (iI a4))]) X.1 X.2.1 d_Va_putSealed_6 hl (by decide) rfl (fun ls hl => ?_)
  refine lv_aload_n X.1 X.2.1 d_Va_putSealed_8 rfl (lv_at hl 2 rfl) ?_
  refine lv_iconst (v := iI 0) X.1 X.2.1 d_Va_putSealed_9 (by decide) ?_
  refine lv_aload_n X.1 X.2.1 d_Va_putSealed_10 rfl (lv_at hl 3 rfl) ?_
  refine t_ui (x_runS (As := [.ref a2]) (rest := [.int (iI 0), .ref a1]) (n := 1) X hml hl.1 (c_Va_typeOf l D E T κ L f1 H.size a2 n2 k2 (by omega) S.1) (ok_k X Y hA KS KR) kl_Va_Va_typeOf ks_Va_typeOf ki_Va_typeOf ini_Va ⟨rfl, rfl⟩ hd_Va_typeOf.2 ⟨Nat.le_of_ble_eq_true rfl, Nat.le_of_ble_eq_true rfl⟩ rfl (Nat.le_of_ble_eq_true rfl) d_Va_putSealed_11 ⟨Nat.le_of_ble_eq_true rfl, Nat.le_of_ble_eq_true rfl⟩) X Y hA (fun z2 H locs Y p2 => ?_)
  obtain ⟨l2, u2⟩ := p2
  refine lv_i2l X.1 X.2.1 d_Va_putSealed_14 rfl ?_
  refine t_anyl (fun v3 => ?_)
  refine t_nv (t_runV (As := [.int (iI 0), .long v3]) (rest := []) (n := 2) X Y S k1 hml hl.1 (c_By_putNumber l D E T κ L f1 H.size a1 n1 k1 (by omega) 0 (by omega) (by omega) v3 S.1) (ok_k X Y hA KS KR) rfl kl_Va_By_putNumber ks_By_putNumber kx_By_putNumber ki_By_putNumber ini_By ⟨rfl, rfl⟩ hd_By_putNumber ⟨Nat.le_of_ble_eq_true rfl, Nat.le_of_ble_eq_true rfl⟩ rfl (Nat.le_of_ble_eq_true rfl) d_Va_putSealed_15 ⟨Nat.le_of_ble_eq_true rfl, Nat.le_of_ble_eq_true rfl⟩) X Y hA S (by decide) (fun f4 H locs Y S s4 p4 => ?_)
  refine lv_iload X.1 X.2.1 d_Va_putSealed_18 (lv_at hl 5 rfl) ?_
  have J6 : ∀ (f5 : pF) (H : Heap) (locs : List Loc) (ls : Array Slot), pH D cCl (pA L sz) s.heap L f5 H locs → tS E T (tFr κ L [1, 2, 3, 4, 11, 13, 16, 21] []) κ L f κ L f5 → lv_has ls 10 [(0, .ref h), (1, .ref a1), (2, .ref a2), (3, .int (iI a3)), (5, .int (iI z1))] → W p l e (kRm 5 158 0 0) s m AV below meth c H locs 0 0 QQ (F0 m 31 ls []) := by
    intro f5 H locs ls  Y S hl
    refine lv_aload_n X.1 X.2.1 d_Va_putSealed_31 rfl (lv_at hl 1 rfl) ?_
    refine lv_iconst (v := iI 2) X.1 X.2.1 d_Va_putSealed_32 (by decide) ?_
    refine t_ni (t_runV (As := [.int (iI 2)]) (rest := []) (n := 1) X Y S k1 hml hl.1 (c_By_openField l D E T κ L f5 H.size a1 n1 k1 (by omega) 2 (by omega) (by omega) S.1) (ok_k X Y hA KS KR) rfl kl_Va_By_openField ks_By_openField kx_By_openField ki_By_openField ini_By ⟨rfl, rfl⟩ hd_By_openField ⟨Nat.le_of_ble_eq_true rfl, Nat.le_of_ble_eq_true rfl⟩ rfl (Nat.le_of_ble_eq_true rfl) d_Va_putSealed_33 ⟨Nat.le_of_ble_eq_true rfl, Nat.le_of_ble_eq_true rfl⟩) X Y hA S (by decide) (fun z10 f10 H locs Y S s10 p10 => ?_)
    obtain ⟨l10, u10⟩ := p10
    refine lv_istore (lv' := [(6, .int (iI z10)), (0, .ref h), (1, .ref a1), (2, .ref a2), (3, .int (iI a3)), (5, .int (iI z1))]) X.1 X.2.1 d_Va_putSealed_36 hl (by decide) rfl (fun ls hl => ?_)
    refine lv_aload_n X.1 X.2.1 d_Va_putSealed_38 rfl (lv_at hl 2 rfl) ?_
    refine lv_iconst (v := iI 4) X.1 X.2.1 d_Va_putSealed_39 (by decide) ?_
    refine t_ni (t_runV (As := [.int (iI 4)]) (rest := []) (n := 1) X Y S k1 hml hl.1 (c_By_open l D E T κ L f10 H.size a1 n1 k1 (by omega) 4 (by omega) (by omega) S.1) (ok_k X Y hA KS KR) rfl kl_Va_By_open ks_By_open kx_By_open ki_By_open ini_By ⟨rfl, rfl⟩ hd_By_open ⟨Nat.le_of_ble_eq_true rfl, Nat.le_of_ble_eq_true rfl⟩ rfl (Nat.le_of_ble_eq_true rfl) d_Va_putSealed_40 ⟨Nat.le_of_ble_eq_true rfl, Nat.le_of_ble_eq_true rfl⟩) X Y hA S (by decide) (fun z11 f11 H locs Y S s11 p11 => ?_)
    obtain ⟨l11, u11⟩ := p11
    refine lv_istore (lv' := [(7, .int (iI z11)), (6, .int (iI z10)), (0, .ref h), (1, .ref a1), (2, .ref a2), (3, .int (iI a3)), (5, .int (iI z1))]) X.1 X.2.1 d_Va_putSealed_43 hl (by decide) rfl (fun ls hl => ?_)
    refine lv_aload_n X.1 X.2.1 d_Va_putSealed_45 rfl (lv_at hl 3 rfl) ?_
    refine t_gets (ci := 3) X Y S k1 rfl i_By 1 (by decide) rfl lk_Va_77 (fun _ h9 => h9) d_Va_putSealed_46 (fun z12 e12 l12 u12 => ?_)
    refine lv_istore (lv' := [(8, .int (iI z12)), (7, .int (iI z11)), (6, .int (iI z10)), (0, .ref h), (1, .ref a1), (2, .ref a2), (3, .int (iI a3)), (5, .int (iI z1))]) X.1 X.2.1 d_Va_putSealed_49 hl (by decide) rfl (fun ls hl => ?_)
    refine lv_iconst (v := iI 0) X.1 X.2.1 d_Va_putSealed_51 (by decide) ?_
    have J15 : ∀ (n17 : Nat) (z14 : Int) (f13 : pF) (H : Heap) (locs : List Loc) (ls : Array Slot), (16 - z14).toNat = n17 → (0 ≤ z14) → (z14 ≤ 16) → pH D cCl (pA L sz) s.heap L f13 H locs → tS E T (tFr κ L [1, 2, 3, 4, 11, 13, 16, 21] []) κ L f κ L f13 → lv_has ls 10 [(0, .ref h), (1, .ref a1), (2, .ref a2), (3, .int (iI a3)), (5, .int (iI z1)), (6, .int (iI z9)), (7, .int (iI z10)), (8, .int (iI z11)), (9, .int (iI z14))] → W p l e (kRm 5 158 0 0) s m AV below meth c H locs 0 0 QQ (F0 m 54 ls []) := by
      intro n17
      induction n17 using Nat.strongRecOn with
      | ind n17 ih16 =>
        intro z14 f13 H locs ls hm18 l14 u14 Y S hl
        refine lv_iload X.1 X.2.1 d_Va_putSealed_54 (lv_at hl 8 rfl) ?_
        refine lv_bipush (v := iI 16) X.1 X.2.1 d_Va_putSealed_56 (by decide) ?_
        refine z_icmp_ge (tgt := 75) X.1 X.2.1 d_Va_putSealed_58 (by decide) ⟨by omega, by omega⟩ ⟨by omega, by omega⟩ (fun h19 => ?_) (fun h19 => ?_)
        · refine lv_aload_n X.1 X.2.1 d_Va_putSealed_75 rfl (lv_at hl 1 rfl) ?_
          refine lv_aload_n X.1 X.2.1 d_Va_putSealed_76 rfl (lv_at hl 0 rfl) ?_
          refine t_getr (ci := 11) X Y S k0 rfl i_Va 1 (by decide) rfl (k1 := 13) (k2 := 6144) rfl rfl lk_Va_21 (fun _ h9 => h9) d_Va_putSealed_77 (fun b20 e20 k20 => ?_)
          refine t_getrow (ci := 3) X Y S k20 rfl i_By 0 (by decide) rfl lk_Va_86 (fun _ h9 => h9) d_Va_putSealed_80 (fun b21 e21 k21 => ?_)
          refine lv_iconst (v := iI 0) X.1 X.2.1 d_Va_putSealed_83 (by decide) ?_
          refine lv_aload_n X.1 X.2.1 d_Va_putSealed_84 rfl (lv_at hl 0 rfl) ?_
          refine t_get0 (ci := 11) X Y S k0 rfl i_Va 1 (by decide) rfl lk_Va_21 (fun _ h9 => h9) d_Va_putSealed_85 e20 ?_
          refine t_gets (ci := 3) X Y S k20 rfl i_By 1 (by decide) rfl lk_Va_77 (fun _ h9 => h9) d_Va_putSealed_88 (fun z22 e22 l22 u22 => ?_)
          refine t_nv (t_runV (As := [.ref b21, .int (iI 0), .int (iI z22)]) (rest := []) (n := 3) X Y S k1 hml hl.1 (c_By_append l D E T κ L f13 H.size a1 n1 k1 (by omega) b21 6144 (Or.inl k21) (by omega) 0 (by omega) (by omega) z22 (by omega) (by omega) S.1) (ok_k X Y hA KS KR) rfl kl_Va_By_append ks_By_append kx_By_append ki_By_append ini_By ⟨rfl, rfl⟩ hd_By_append ⟨Nat.le_of_ble_eq_true rfl, Nat.le_of_ble_eq_true rfl⟩ rfl (Nat.le_of_ble_eq_true rfl) d_Va_putSealed_91 ⟨Nat.le_of_ble_eq_true rfl, Nat.le_of_ble_eq_true rfl⟩) X Y hA S (by decide) (fun f23 H locs Y S s23 p23 => ?_)
          refine lv_aload_n X.1 X.2.1 d_Va_putSealed_94 rfl (lv_at hl 0 rfl) ?_
          refine lv_aload_n X.1 X.2.1 d_Va_putSealed_95 rfl (lv_at hl 2 rfl) ?_
          refine lv_iload_n X.1 X.2.1 d_Va_putSealed_96 rfl (lv_at hl 3 rfl) ?_
          refine lv_bipush (v := iI 85) X.1 X.2.1 d_Va_putSealed_97 (by decide) ?_
          refine t_nv (t_runV (As := [.ref a2, .int (iI a3), .int (iI 85)]) (rest := []) (n := 3) X Y S k0 hml hl.1 (c_Va_derive l D E T κ L f23 H.size h k0 a2 n2 k2 (by omega) a3 (by omega) (by omega) 85 (by omega) (by omega) S.1) (ok_k X Y hA KS KR) rfl kl_Va_Va_derive ks_Va_derive kx_Va_derive ki_Va_derive ini_Va ⟨rfl, rfl⟩ hd_Va_derive ⟨Nat.le_of_ble_eq_true rfl, Nat.le_of_ble_eq_true rfl⟩ rfl (Nat.le_of_ble_eq_true rfl) d_Va_putSealed_99 ⟨Nat.le_of_ble_eq_true rfl, Nat.le_of_ble_eq_true rfl⟩) X Y hA S (by decide) (fun f24 H locs Y S s24 p24 => ?_)
          refine lv_aload_n X.1 X.2.1 d_Va_putSealed_102 rfl (lv_at hl 0 rfl) ?_
          refine t_getr (ci := 11) X Y S k0 rfl i_Va 3 (by decide) rfl (k1 := 16) (k2 := 0) rfl rfl lk_Va_31 (fun _ h9 => h9) d_Va_putSealed_103 (fun b25 e25 k25 => ?_)
          refine lv_aload_n X.1 X.2.1 d_Va_putSealed_106 rfl (lv_at hl 0 rfl) ?_
          refine t_getr (ci := 11) X Y S k0 rfl i_Va 10 (by decide) rfl (k1 := 1) (k2 := 32) rfl rfl lk_Va_52 (fun _ h9 => h9) d_Va_putSealed_107 (fun b26 e26 k26 => ?_)
          refine lv_iconst (v := iI 0) X.1 X.2.1 d_Va_putSealed_110 (by decide) ?_
          refine lv_aload_n X.1 X.2.1 d_Va_putSealed_111 rfl (lv_at hl 2 rfl) ?_
          refine t_alen X Y S KS (tKey_src k2) (by omega) d_Va_putSealed_112 ?_
          refine t_nv (t_runV (As := [.ref b26, .int (iI 0), .int (iI ((n2 : Int)))]) (rest := []) (n := 3) X Y S k25 hml hl.1 (c_Ha_setKey l D E T κ L f24 H.size b25 k25 b26 32 (Or.inl k26) (by omega) 0 (by omega) (by omega) ((n2 : Int)) (by omega) (by omega) S.1) (ok_k X Y hA KS KR) rfl kl_Va_Ha_setKey ks_Ha_setKey kx_Ha_setKey ki_Ha_setKey ini_Ha ⟨rfl, rfl⟩ hd_Ha_setKey ⟨Nat.le_of_ble_eq_true rfl, Nat.le_of_ble_eq_true rfl⟩ rfl (Nat.le_of_ble_eq_true rfl) d_Va_putSealed_113 ⟨Nat.le_of_ble_eq_true rfl, Nat.le_of_ble_eq_true rfl⟩) X Y hA S (by decide) (fun f27 H locs Y S s27 p27 => ?_)
          refine lv_aload_n X.1 X.2.1 d_Va_putSealed_116 rfl (lv_at hl 0 rfl) ?_
          refine lv_aload_n X.1 X.2.1 d_Va_putSealed_117 rfl (lv_at hl 1 rfl) ?_
          refine lv_iload X.1 X.2.1 d_Va_putSealed_118 (lv_at hl 7 rfl) ?_
          refine lv_aload_n X.1 X.2.1 d_Va_putSealed_120 rfl (lv_at hl 1 rfl) ?_
          refine t_gets (ci := 3) X Y S k1 rfl i_By 1 (by decide) rfl lk_Va_77 (fun _ h9 => h9) d_Va_putSealed_121 (fun z28 e28 l28 u28 => ?_)
          refine t_nv (t_runV (As := [.ref a1, .int (iI z11), .int (iI z28)]) (rest := []) (n := 3) X Y S k0 hml hl.1 (c_Va_digest l D E T κ L f27 H.size h k0 a1 n1 k1 (by omega) z11 (by omega) (by omega) z28 (by omega) (by omega) S.1) (ok_k X Y hA KS KR) rfl kl_Va_Va_digest ks_Va_digest kx_Va_digest ki_Va_digest ini_Va ⟨rfl, rfl⟩ hd_Va_digest ⟨Nat.le_of_ble_eq_true rfl, Nat.le_of_ble_eq_true rfl⟩ rfl (Nat.le_of_ble_eq_true rfl) d_Va_putSealed_124 ⟨Nat.le_of_ble_eq_true rfl, Nat.le_of_ble_eq_true rfl⟩) X Y hA S (by decide) (fun f29 H locs Y S s29 p29 => ?_)
          refine lv_aload_n X.1 X.2.1 d_Va_putSealed_127 rfl (lv_at hl 0 rfl) ?_
          refine lv_aload_n X.1 X.2.1 d_Va_putSealed_128 rfl (lv_at hl 2 rfl) ?_
          refine lv_iload_n X.1 X.2.1 d_Va_putSealed_129 rfl (lv_at hl 3 rfl) ?_
          refine lv_sipush (v := iI 170) X.1 X.2.1 d_Va_putSealed_130 (by decide) ?_
          refine t_nv (t_runV (As := [.ref a2, .int (iI a3), .int (iI 170)]) (rest := []) (n := 3) X Y S k0 hml hl.1 (c_Va_derive l D E T κ L f29 H.size h k0 a2 n2 k2 (by omega) a3 (by omega) (by omega) 170 (by omega) (by omega) S.1) (ok_k X Y hA KS KR) rfl kl_Va_Va_derive ks_Va_derive kx_Va_derive ki_Va_derive ini_Va ⟨rfl, rfl⟩ hd_Va_derive ⟨Nat.le_of_ble_eq_true rfl, Nat.le_of_ble_eq_true rfl⟩ rfl (Nat.le_of_ble_eq_true rfl) d_Va_putSealed_133 ⟨Nat.le_of_ble_eq_true rfl, Nat.le_of_ble_eq_true rfl⟩) X Y hA S (by decide) (fun f30 H locs Y S s30 p30 => ?_)
          refine lv_aload_n X.1 X.2.1 d_Va_putSealed_136 rfl (lv_at hl 0 rfl) ?_
          refine t_getr (ci := 11) X Y S k0 rfl i_Va 4 (by decide) rfl (k1 := 11) (k2 := 0) rfl rfl lk_Va_38 (fun _ h9 => h9) d_Va_putSealed_137 (fun b31 e31 k31 => ?_)
          refine lv_aload_n X.1 X.2.1 d_Va_putSealed_140 rfl (lv_at hl 0 rfl) ?_
          refine t_get0 (ci := 11) X Y S k0 rfl i_Va 10 (by decide) rfl lk_Va_52 (fun _ h9 => h9) d_Va_putSealed_141 ((gF_same (s30.2.2.2 _ ⟨(t_obj S.1 k0).1, by rw [k0]; decide, by simp⟩).1 10).trans ((gF_same (s29.2.2.2 _ ⟨(t_obj S.1 k0).1, by rw [k0]; decide, by simp⟩).1 10).trans ((gF_same (s27.2.2.2 _ ⟨(t_obj S.1 k0).1, by rw [k0]; decide, by simp⟩).1 10).trans e26))) ?_
          refine lv_aload_n X.1 X.2.1 d_Va_putSealed_144 rfl (lv_at hl 2 rfl) ?_
          refine t_alen X Y S KS (tKey_src k2) (by omega) d_Va_putSealed_145 ?_
          refine t_nv (t_runV (As := [.ref b26, .int (iI ((n2 : Int)))]) (rest := []) (n := 2) X Y S k31 hml hl.1 (c_Ae_setKey l D E T κ L f30 H.size b31 k31 b26 32 (Or.inl k26) (by omega) ((n2 : Int)) (by omega) (by omega) S.1) (ok_k X Y hA KS KR) rfl kl_Va_Ae_setKey ks_Ae_setKey kx_Ae_setKey ki_Ae_setKey ini_Ae ⟨rfl, rfl⟩ hd_Ae_setKey ⟨Nat.le_of_ble_eq_true rfl, Nat.le_of_ble_eq_true rfl⟩ rfl (Nat.le_of_ble_eq_true rfl) d_Va_putSealed_146 ⟨Nat.le_of_ble_eq_true rfl, Nat.le_of_ble_eq_true rfl⟩) X Y hA S (by decide) (fun f32 H locs Y S s32 p32 => ?_)
          refine lv_aload_n X.1 X.2.1 d_Va_putSealed_149 rfl (lv_at hl 0 rfl) ?_
          refine t_get0 (ci := 11) X Y S k0 rfl i_Va 4 (by decide) rfl lk_Va_38 (fun _ h9 => h9) d_Va_putSealed_150 ((gF_same (s32.2.2.2 _ ⟨(t_obj S.1 k0).1, by rw [k0]; decide, by simp⟩).1 4).trans e31) ?_
          refine lv_aload_n X.1 X.2.1 d_Va_putSealed_153 rfl (lv_at hl 1 rfl) ?_
          refine t_getrow (ci := 3) X Y S k1 rfl i_By 0 (by decide) rfl lk_Va_86 (fun _ h9 => h9) d_Va_putSealed_154 (fun b33 e33 k33 => ?_)
          refine lv_iload X.1 X.2.1 d_Va_putSealed_157 (lv_at hl 7 rfl) ?_
          refine lv_aload_n X.1 X.2.1 d_Va_putSealed_159 rfl (lv_at hl 1 rfl) ?_
          refine t_get0 (ci := 3) X Y S k1 rfl i_By 1 (by decide) rfl lk_Va_77 (fun _ h9 => h9) d_Va_putSealed_160 ((gF_same (s32.2.2.2 _ ⟨(t_obj S.1 k1).1, by rw [k1]; decide, by simp⟩).1 1).trans ((gF_same (s30.2.2.2 _ ⟨(t_obj S.1 k1).1, by rw [k1]; decide, by simp⟩).1 1).trans ((gF_same (s29.2.2.2 _ ⟨(t_obj S.1 k1).1, by rw [k1]; decide, by simp⟩).1 1).trans e28))) ?_
          refine lv_iload X.1 X.2.1 d_Va_putSealed_163 (lv_at hl 7 rfl) ?_
          refine z_isub X.1 X.2.1 d_Va_putSealed_165 ?_
          refine t_nv (t_runV (As := [.ref b33, .int (iI z11), .int (iI (z28 - z11))]) (rest := []) (n := 3) X Y S k31 hml hl.1 (c_Ae_lock l D E T κ L f32 H.size b31 k31 b33 n1 k33 (by omega) z11 (by omega) (by omega) (z28 - z11) (by omega) (by omega) S.1) (ok_k X Y hA KS KR) rfl kl_Va_Ae_lock ks_Ae_lock kx_Ae_lock ki_Ae_lock ini_Ae ⟨rfl, rfl⟩ hd_Ae_lock ⟨Nat.le_of_ble_eq_true rfl, Nat.le_of_ble_eq_true rfl⟩ rfl (Nat.le_of_ble_eq_true rfl) d_Va_putSealed_166 ⟨Nat.le_of_ble_eq_true rfl, Nat.le_of_ble_eq_true rfl⟩) X Y hA S (by decide) (fun f34 H locs Y S s34 p34 => ?_)
          refine lv_aload_n X.1 X.2.1 d_Va_putSealed_169 rfl (lv_at hl 1 rfl) ?_
          refine lv_aload_n X.1 X.2.1 d_Va_putSealed_170 rfl (lv_at hl 0 rfl) ?_
          refine t_get0 (ci := 11) X Y S k0 rfl i_Va 3 (by decide) rfl lk_Va_31 (fun _ h9 => h9) d_Va_putSealed_171 ((gF_same (s34.2.2.2 _ ⟨(t_obj S.1 k0).1, by rw [k0]; decide, by simp⟩).1 3).trans ((gF_same (s32.2.2.2 _ ⟨(t_obj S.1 k0).1, by rw [k0]; decide, by simp⟩).1 3).trans ((gF_same (s30.2.2.2 _ ⟨(t_obj S.1 k0).1, by rw [k0]; decide, by simp⟩).1 3).trans ((gF_same (s29.2.2.2 _ ⟨(t_obj S.1 k0).1, by rw [k0]; decide, by simp⟩).1 3).trans ((gF_same (s27.2.2.2 _ ⟨(t_obj S.1 k0).1, by rw [k0]; decide, by simp⟩).1 3).trans e25))))) ?_
          refine t_getr (ci := 6) X Y S k25 rfl i_Ha 7 (by decide) rfl (k1 := 1) (k2 := 20) rfl rfl lk_Va_125 (fun _ h9 => h9) d_Va_putSealed_174 (fun b35 e35 k35 => ?_)
          refine lv_iconst (v := iI 0) X.1 X.2.1 d_Va_putSealed_177 (by decide) ?_
          refine lv_bipush (v := iI 12) X.1 X.2.1 d_Va_putSealed_178 (by decide) ?_
          refine t_nv (t_runV (As := [.ref b35, .int (iI 0), .int (iI 12)]) (rest := []) (n := 3) X Y S k1 hml hl.1 (c_By_append l D E T κ L f34 H.size a1 n1 k1 (by omega) b35 20 (Or.inl k35) (by omega) 0 (by omega) (by omega) 12 (by omega) (by omega) S.1) (ok_k X Y hA KS KR) rfl kl_Va_By_append ks_By_append kx_By_append ki_By_append ini_By ⟨rfl, rfl⟩ hd_By_append ⟨Nat.le_of_ble_eq_true rfl, Nat.le_of_ble_eq_true rfl⟩ rfl (Nat.le_of_ble_eq_true rfl) d_Va_putSealed_180 ⟨Nat.le_of_ble_eq_true rfl, Nat.le_of_ble_eq_true rfl⟩) X Y hA S (by decide) (fun f36 H locs Y S s36 p36 => ?_)
          refine lv_aload_n X.1 X.2.1 d_Va_putSealed_183 rfl (lv_at hl 1 rfl) ?_
          refine lv_iload X.1 X.2.1 d_Va_putSealed_184 (lv_at hl 6 rfl) ?_
          refine t_nv (t_runV (As := [.int (iI z10)]) (rest := []) (n := 1) X Y S k1 hml hl.1 (c_By_close l D E T κ L f36 H.size a1 n1 k1 (by omega) z10 (by omega) (by omega) S.1) (ok_k X Y hA KS KR) rfl kl_Va_By_close ks_By_close kx_By_close ki_By_close ini_By ⟨rfl, rfl⟩ hd_By_close ⟨Nat.le_of_ble_eq_true rfl, Nat.le_of_ble_eq_true rfl⟩ rfl (Nat.le_of_ble_eq_true rfl) d_Va_putSealed_186 ⟨Nat.le_of_ble_eq_true rfl, Nat.le_of_ble_eq_true rfl⟩) X Y hA S (by decide) (fun f37 H locs Y S s37 p37 => ?_)
          refine lv_aload_n X.1 X.2.1 d_Va_putSealed_189 rfl (lv_at hl 1 rfl) ?_
          refine lv_iload X.1 X.2.1 d_Va_putSealed_190 (lv_at hl 5 rfl) ?_
          refine t_nv (t_runV (As := [.int (iI z9)]) (rest := []) (n := 1) X Y S k1 hml hl.1 (c_By_close l D E T κ L f37 H.size a1 n1 k1 (by omega) z9 (by omega) (by omega) S.1) (ok_k X Y hA KS KR) rfl kl_Va_By_close ks_By_close kx_By_close ki_By_close ini_By ⟨rfl, rfl⟩ hd_By_close ⟨Nat.le_of_ble_eq_true rfl, Nat.le_of_ble_eq_true rfl⟩ rfl (Nat.le_of_ble_eq_true rfl) d_Va_putSealed_192 ⟨Nat.le_of_ble_eq_true rfl, Nat.le_of_ble_eq_true rfl⟩) X Y hA S (by decide) (fun f38 H locs Y S s38 p38 => ?_)
          refine lv_aload_n X.1 X.2.1 d_Va_putSealed_195 rfl (lv_at hl 1 rfl) ?_
          refine lv_iload X.1 X.2.1 d_Va_putSealed_196 (lv_at hl 4 rfl) ?_
          refine t_nv (t_runV (As := [.int (iI z1)]) (rest := []) (n := 1) X Y S k1 hml hl.1 (c_By_close l D E T κ L f38 H.size a1 n1 k1 (by omega) z1 (by omega) (by omega) S.1) (ok_k X Y hA KS KR) rfl kl_Va_By_close ks_By_close kx_By_close ki_By_close ini_By ⟨rfl, rfl⟩ hd_By_close ⟨Nat.le_of_ble_eq_true rfl, Nat.le_of_ble_eq_true rfl⟩ rfl (Nat.le_of_ble_eq_true rfl) d_Va_putSealed_198 ⟨Nat.le_of_ble_eq_true rfl, Nat.le_of_ble_eq_true rfl⟩) X Y hA S (by decide) (fun f39 H locs Y S s39 p39 => ?_)
          exact c_retv hQQ X Y hr hlk ⟨rfl, S, trivial⟩ d_Va_putSealed_201
        · refine lv_aload_n X.1 X.2.1 d_Va_putSealed_61 rfl (lv_at hl 1 rfl) ?_
          refine lv_aload_n X.1 X.2.1 d_Va_putSealed_62 rfl (lv_at hl 0 rfl) ?_
          refine t_ni (t_runV (As := []) (rest := [.ref a1]) (n := 0) X Y S k0 hml hl.1 (c_Va_coin l D E T κ L f13 H.size h k0 S.1) (ok_k X Y hA KS KR) rfl kl_Va_Va_coin ks_Va_coin kx_Va_coin ki_Va_coin ini_Va ⟨rfl, rfl⟩ hd_Va_coin ⟨Nat.le_of_ble_eq_true rfl, Nat.le_of_ble_eq_true rfl⟩ rfl (Nat.le_of_ble_eq_true rfl) d_Va_putSealed_63 ⟨Nat.le_of_ble_eq_true rfl, Nat.le_of_ble_eq_true rfl⟩) X Y hA S (by decide) (fun z40 f40 H locs Y S s40 p40 => ?_)
          obtain ⟨l40, u40⟩ := p40
          refine t_nv (t_runV (As := [.int (iI z40)]) (rest := []) (n := 1) X Y S k1 hml hl.1 (c_By_put l D E T κ L f40 H.size a1 n1 k1 (by omega) z40 (by omega) (by omega) S.1) (ok_k X Y hA KS KR) rfl kl_Va_By_put ks_By_put kx_By_put ki_By_put ini_By ⟨rfl, rfl⟩ hd_By_put ⟨Nat.le_of_ble_eq_true rfl, Nat.le_of_ble_eq_true rfl⟩ rfl (Nat.le_of_ble_eq_true rfl) d_Va_putSealed_66 ⟨Nat.le_of_ble_eq_true rfl, Nat.le_of_ble_eq_true rfl⟩) X Y hA S (by decide) (fun f41 H locs Y S s41 p41 => ?_)
          refine lv_iinc (v := iI (z14 + 1)) (lv' := [(9, .int (iI (z14 + 1))), (0, .ref h), (1, .ref a1), (2, .ref a2), (3, .int (iI a3)), (5, .int (iI z1)), (6, .int (iI z9)), (7, .int (iI z10)), (8, .int (iI z11))]) X.1 X.2.1 d_Va_putSealed_69 hl (k := 8) rfl ((iI_add _ _).trans (congrArg iI (by omega))) (by decide) rfl (fun ls hl => ?_)
          refine lv_goto (tgt := 54) X.1 X.2.1 d_Va_putSealed_72 (by decide) ?_
          exact ih16 ((16 - (z14 + 1)).toNat) (by omega) (z14 + 1) f41 _ _ _ rfl (by omega) (by omega) Y S (lv_sub hl [1, 2, 3, 4, 5, 6, 7, 8, 0] rfl)
    refine lv_istore (lv' := [(9, .int (iI 0)), (8, .int (iI z12)), (7, .int (iI z11)), (6, .int (iI z10)), (0, .ref h), (1, .ref a1), (2, .ref a2), (3, .int (iI a3)), (5, .int (iI z1))]) X.1 X.2.1 d_Va_putSealed_52 hl (by decide) rfl (fun ls hl => ?_)
    exact J15 _ 0 f11 _ _ _ rfl (by omega) (by omega) Y S (lv_sub hl [4, 5, 6, 7, 8, 3, 2, 1, 0] rfl)
  refine z_if_le (tgt := 31) X.1 X.2.1 d_Va_putSealed_20 (by decide) ⟨by omega, by omega⟩ (fun h42 => ?_) (fun h42 => ?_)
  · exact J6 f4 _ _ _  Y S (lv_sub hl [1, 2, 3, 4, 0] rfl)
  · refine lv_aload_n X.1 X.2.1 d_Va_putSealed_23 rfl (lv_at hl 2 rfl) ?_
    refine lv_iconst (v := iI 1) X.1 X.2.1 d_Va_putSealed_24 (by decide) ?_
    refine lv_iload X.1 X.2.1 d_Va_putSealed_25 (lv_at hl 5 rfl) ?_
    refine lv_i2l X.1 X.2.1 d_Va_putSealed_27 rfl ?_
    refine t_anyl (fun v43 => ?_)
    refine t_nv (t_runV (As := [.int (iI 1), .long v43]) (rest := []) (n := 2) X Y S k1 hml hl.1 (c_By_putNumber l D E T κ L f4 H.size a1 n1 k1 (by omega) 1 (by omega) (by omega) v43 S.1) (ok_k X Y hA KS KR) rfl kl_Va_By_putNumber ks_By_putNumber kx_By_putNumber ki_By_putNumber ini_By ⟨rfl, rfl⟩ hd_By_putNumber ⟨Nat.le_of_ble_eq_true rfl, Nat.le_of_ble_eq_true rfl⟩ rfl (Nat.le_of_ble_eq_true rfl) d_Va_putSealed_28 ⟨Nat.le_of_ble_eq_true rfl, Nat.le_of_ble_eq_true rfl⟩) X Y hA S (by decide) (fun f44 H locs Y S s44 p44 => ?_)
    exact J6 f44 _ _ _  Y S (lv_sub hl [1, 2, 3, 4, 0] rfl)
set_option maxHeartbeats 4000000 in
set_option maxRecDepth 100000 in
theorem c_Va_opens (l : Launch) (D : va_G) (E : cE) (T : cT) (κ : tK) (L : List Nat) (f : pF) (sz : Nat) (h : Nat) (k0 : κ h = (21, 0)) (a1 n1 : Nat) (k1 : κ a1 = (13, n1)) (x1 : n1 ≤ 12288) (a2 : Int) (l_a2 : (-1) ≤ a2) (u_a2 : a2 ≤ 20200) (a3 n3 : Nat) (k3 : tKey T κ a3 n3) (x3 : n3 = 0 ∨ n3 = 16 ∨ n3 = 32) (a4 : Int) (l_a4 : (-2147483648) ≤ a4) (u_a4 : a4 ≤ 2147483647) (a5 n5 : Nat) (k5 : κ a5 = (13, n5)) (x5 : n5 ≤ 12288) (hw : tW E T κ L f) : Met l y_Va_opens (k_Va_opens :: lw_tg) (kRm 5 155 0 0) (va_Pc [.ref h, .ref a1, .int (iI a2), .ref a3, .int (iI a4), .ref a5] (kPre D E T L f sz)) (va_Qi (nPi E T [1, 2, 3, 4, 11, 13, 16] κ L f (fun (z : Int) (g : pF) => 0 ≤ z ∧ z ≤ 1)) (cPost D E (pA L sz)) (pA L sz)) 0 0 (pA L sz) := by
  refine k_enter (own := R_Va) (by decide) rfl (Nat.le_of_ble_eq_true rfl) (fun p e s m below meth c ls AV QQ H locs hQQ X Y hA hin hr hlk hml hl KS KR => ?_)
  have hl : lv_has ls 9 [(0, .ref h), (1, .ref a1), (2, .int (iI a2)), (3, .ref a3), (4, .int (iI a4)), (5, .ref a5)] := hl
  have S : tS E T (tFr κ L [1, 2, 3, 4, 11, 13, 16] []) κ L f κ L f := tS_rf hw
  refine lv_aload_n X.1 X.2.1 d_Va_opens_0 rfl (lv_at hl 1 rfl) ?_
  refine lv_iload_n X.1 X.2.1 d_Va_opens_1 rfl (lv_at hl 2 rfl) ?_
  refine lv_iconst (v := iI 2) X.1 X.2.1 d_Va_opens_2 (by decide) ?_
  refine t_ui (t_runV (As := [.int (iI a2), .int (iI 2)]) (rest := []) (n := 2) X Y S k1 hml hl.1 (c_By_field l D E T κ L f H.size a1 n1 k1 (by omega) a2 (by omega) (by omega) 2 (by omega) (by omega) S.1) (ok_k X Y hA KS KR) rfl kl_Va_By_field ks_By_field kx_By_field ki_By_field ini_By ⟨rfl, rfl⟩ hd_By_field ⟨Nat.le_of_ble_eq_true rfl, Nat.le_of_ble_eq_true rfl⟩ rfl (Nat.le_of_ble_eq_true rfl) d_Va_opens_3 ⟨Nat.le_of_ble_eq_true rfl, Nat.le_of_ble_eq_true rfl⟩) X Y hA (fun z1 H locs Y p1 => ?_)
  obtain ⟨l1, u1⟩ := p1
  refine lv_istore (lv' := [(6, .int (iI z1)), (0, .ref h), (1, .ref a1), (2, .int (iI a2)), (3, .ref a3), (4, .int (iI a4)), (5, .ref a5)]) X.1 X.2.1 d_Va_opens_6 hl (by decide) rfl (fun ls hl => ?_)
  refine lv_aload_n X.1 X.2.1 d_Va_opens_8 rfl (lv_at hl 2 rfl) ?_
  refine lv_iload X.1 X.2.1 d_Va_opens_9 (lv_at hl 0 rfl) ?_
  obtain ⟨z2, e2, l2, u2⟩ := t_size S k1
  refine t_ui (t_runV (As := [.int (iI z1)]) (rest := []) (n := 1) X Y S k1 hml hl.1 (c_By_body l D E T κ L f H.size a1 n1 k1 (by omega) z1 (by omega) (by omega) S.1 z2 e2 (by omega) (by omega)) (ok_k X Y hA KS KR) rfl kl_Va_By_body ks_By_body kx_By_body ki_By_body ini_By ⟨rfl, rfl⟩ hd_By_body ⟨Nat.le_of_ble_eq_true rfl, Nat.le_of_ble_eq_true rfl⟩ rfl (Nat.le_of_ble_eq_true rfl) d_Va_opens_11 ⟨Nat.le_of_ble_eq_true rfl, Nat.le_of_ble_eq_true rfl⟩) X Y hA (fun z3 H locs Y p3 => ?_)
  obtain ⟨l3, u3, x3⟩ := p3
  refine lv_istore (lv' := [(7, .int (iI z3)), (6, .int (iI z1)), (0, .ref h), (1, .ref a1), (2, .int (iI a2)), (3, .ref a3), (4, .int (iI a4)), (5, .ref a5)]) X.1 X.2.1 d_Va_opens_14 hl (by decide) rfl (fun ls hl => ?_)
  refine lv_aload_n X.1 X.2.1 d_Va_opens_16 rfl (lv_at hl 3 rfl) ?_
  refine lv_iload X.1 X.2.1 d_Va_opens_17 (lv_at hl 1 rfl) ?_
  refine lv_aload_n X.1 X.2.1 d_Va_opens_19 rfl (lv_at hl 3 rfl) ?_
  refine t_get0 (ci := 3) X Y S k1 rfl i_By 1 (by decide) rfl lk_Va_77 (fun _ h9 => h9) d_Va_opens_20 e2 ?_
  refine t_ui (t_runV (As := [.int (iI z1), .int (iI z2)]) (rest := []) (n := 2) X Y S k1 hml hl.1 (c_By_stop l D E T κ L f H.size a1 n1 k1 (by omega) z1 (by omega) (by omega) z2 (by omega) (by omega) S.1 z2 e2 (by omega) (by omega)) (ok_k X Y hA KS KR) rfl kl_Va_By_stop ks_By_stop kx_By_stop ki_By_stop ini_By ⟨rfl, rfl⟩ hd_By_stop ⟨Nat.le_of_ble_eq_true rfl, Nat.le_of_ble_eq_true rfl⟩ rfl (Nat.le_of_ble_eq_true rfl) d_Va_opens_23 ⟨Nat.le_of_ble_eq_true rfl, Nat.le_of_ble_eq_true rfl⟩) X Y hA (fun z4 H locs Y p4 => ?_)
  obtain ⟨l4, u4, x4⟩ := p4
  refine lv_iload X.1 X.2.1 d_Va_opens_26 (lv_at hl 0 rfl) ?_
  refine z_isub X.1 X.2.1 d_Va_opens_28 ?_
  refine lv_bipush (v := iI 12) X.1 X.2.1 d_Va_opens_29 (by decide) ?_
  refine z_isub X.1 X.2.1 d_Va_opens_31 ?_
  refine lv_istore (lv' := [(8, .int (iI ((z4 - z3) - 12))), (7, .int (iI z3)), (6, .int (iI z1)), (0, .ref h), (1, .ref a1), (2, .int (iI a2)), (3, .ref a3), (4, .int (iI a4)), (5, .ref a5)]) X.1 X.2.1 d_Va_opens_32 hl (by decide) rfl (fun ls hl => ?_)
  refine lv_iload X.1 X.2.1 d_Va_opens_34 (lv_at hl 2 rfl) ?_
  refine z_if_lt (tgt := 70) X.1 X.2.1 d_Va_opens_36 (by decide) ⟨by omega, by omega⟩ (fun h5 => ?_) (fun h5 => ?_)
  · refine lv_iconst (v := iI 0) X.1 X.2.1 d_Va_opens_70 (by decide) ?_
    exact c_retz hQQ X Y hr hlk (iI_bool (by omega) (by omega)).1 ⟨rfl, S, 0, rfl, ⟨by omega, by omega⟩⟩ d_Va_opens_71
  · refine lv_iload X.1 X.2.1 d_Va_opens_39 (lv_at hl 0 rfl) ?_
    refine lv_bipush (v := iI 16) X.1 X.2.1 d_Va_opens_41 (by decide) ?_
    refine z_icmp_lt (tgt := 70) X.1 X.2.1 d_Va_opens_43 (by decide) ⟨by omega, by omega⟩ ⟨by omega, by omega⟩ (fun h6 => ?_) (fun h6 => ?_)
    · refine lv_iconst (v := iI 0) X.1 X.2.1 d_Va_opens_70 (by decide) ?_
      exact c_retz hQQ X Y hr hlk (iI_bool (by omega) (by omega)).1 ⟨rfl, S, 0, rfl, ⟨by omega, by omega⟩⟩ d_Va_opens_71
    · refine lv_aload_n X.1 X.2.1 d_Va_opens_46 rfl (lv_at hl 6 rfl) ?_
      refine t_alen X Y S KS (tKey_src k3) (by omega) d_Va_opens_47 ?_
      refine z_if_eq (tgt := 70) X.1 X.2.1 d_Va_opens_48 (by decide) ⟨by omega, by omega⟩ (fun h7 => ?_) (fun h7 => ?_)
      · refine lv_iconst (v := iI 0) X.1 X.2.1 d_Va_opens_70 (by decide) ?_
        exact c_retz hQQ X Y hr hlk (iI_bool (by omega) (by omega)).1 ⟨rfl, S, 0, rfl, ⟨by omega, by omega⟩⟩ d_Va_opens_71
      · refine lv_aload_n X.1 X.2.1 d_Va_opens_51 rfl (lv_at hl 4 rfl) ?_
        refine lv_aload_n X.1 X.2.1 d_Va_opens_52 rfl (lv_at hl 4 rfl) ?_
        refine lv_iload_n X.1 X.2.1 d_Va_opens_53 rfl (lv_at hl 5 rfl) ?_
        refine lv_iconst (v := iI 0) X.1 X.2.1 d_Va_opens_54 (by decide) ?_
        refine t_ui (t_runV (As := [.int (iI a2), .int (iI 0)]) (rest := [.ref a1]) (n := 2) X Y S k1 hml hl.1 (c_By_field l D E T κ L f H.size a1 n1 k1 (by omega) a2 (by omega) (by omega) 0 (by omega) (by omega) S.1) (ok_k X Y hA KS KR) rfl kl_Va_By_field ks_By_field kx_By_field ki_By_field ini_By ⟨rfl, rfl⟩ hd_By_field ⟨Nat.le_of_ble_eq_true rfl, Nat.le_of_ble_eq_true rfl⟩ rfl (Nat.le_of_ble_eq_true rfl) d_Va_opens_55 ⟨Nat.le_of_ble_eq_true rfl, Nat.le_of_ble_eq_true rfl⟩) X Y hA (fun z8 H locs Y p8 => ?_)
        obtain ⟨l8, u8⟩ := p8
        refine t_ul (t_runV (As := [.int (iI z8)]) (rest := []) (n := 1) X Y S k1 hml hl.1 (c_By_numberAt l D E T κ L f H.size a1 n1 k1 (by omega) z8 (by omega) (by omega) S.1) (ok_k X Y hA KS KR) rfl kl_Va_By_numberAt ks_By_numberAt kx_By_numberAt ki_By_numberAt ini_By ⟨rfl, rfl⟩ hd_By_numberAt ⟨Nat.le_of_ble_eq_true rfl, Nat.le_of_ble_eq_true rfl⟩ rfl (Nat.le_of_ble_eq_true rfl) d_Va_opens_58 ⟨Nat.le_of_ble_eq_true rfl, Nat.le_of_ble_eq_true rfl⟩) X Y hA (fun v9 H locs Y p9 => ?_)
        refine lv_aload_n X.1 X.2.1 d_Va_opens_61 rfl (lv_at hl 6 rfl) ?_
        refine t_ui (x_runS (As := [.ref a3]) (rest := [.long v9]) (n := 1) X hml hl.1 (c_Va_typeOf l D E T κ L f H.size a3 n3 k3 (by omega) S.1) (ok_k X Y hA KS KR) kl_Va_Va_typeOf ks_Va_typeOf ki_Va_typeOf ini_Va ⟨rfl, rfl⟩ hd_Va_typeOf.2 ⟨Nat.le_of_ble_eq_true rfl, Nat.le_of_ble_eq_true rfl⟩ rfl (Nat.le_of_ble_eq_true rfl) d_Va_opens_62 ⟨Nat.le_of_ble_eq_true rfl, Nat.le_of_ble_eq_true rfl⟩) X Y hA (fun z10 H locs Y p10 => ?_)
        obtain ⟨l10, u10⟩ := p10
        refine lv_i2l X.1 X.2.1 d_Va_opens_65 rfl ?_
        refine t_anyl (fun v11 => ?_)
        refine W.lcmp X.1 X.2.1 d_Va_opens_66 ?_
        refine t_u (fun z12 l12 u12 => ?_)
        refine z_if_eq (tgt := 72) X.1 X.2.1 d_Va_opens_67 (by decide) ⟨by omega, by omega⟩ (fun h13 => ?_) (fun h13 => ?_)
        · refine lv_aload X.1 X.2.1 d_Va_opens_72 (lv_at hl 8 rfl) ?_
          refine t_nv (t_runV (As := []) (rest := []) (n := 0) X Y S k5 hml hl.1 (c_By_clear l D E T κ L f H.size a5 n5 k5 (by omega) S.1) (ok_k X Y hA KS KR) rfl kl_Va_By_clear ks_By_clear kx_By_clear ki_By_clear ini_By ⟨rfl, rfl⟩ hd_By_clear ⟨Nat.le_of_ble_eq_true rfl, Nat.le_of_ble_eq_true rfl⟩ rfl (Nat.le_of_ble_eq_true rfl) d_Va_opens_74 ⟨Nat.le_of_ble_eq_true rfl, Nat.le_of_ble_eq_true rfl⟩) X Y hA S (by decide) (fun f14 H locs Y S s14 p14 => ?_)
          refine lv_aload X.1 X.2.1 d_Va_opens_77 (lv_at hl 8 rfl) ?_
          refine lv_aload_n X.1 X.2.1 d_Va_opens_79 rfl (lv_at hl 4 rfl) ?_
          refine t_getrow (ci := 3) X Y S k1 rfl i_By 0 (by decide) rfl lk_Va_86 (fun _ h9 => h9) d_Va_opens_80 (fun b15 e15 k15 => ?_)
          refine lv_iload X.1 X.2.1 d_Va_opens_83 (lv_at hl 1 rfl) ?_
          refine lv_iload X.1 X.2.1 d_Va_opens_85 (lv_at hl 0 rfl) ?_
          refine t_nv (t_runV (As := [.ref b15, .int (iI z3), .int (iI ((z4 - z3) - 12))]) (rest := []) (n := 3) X Y S k5 hml hl.1 (c_By_append l D E T κ L f14 H.size a5 n5 k5 (by omega) b15 n1 (Or.inl k15) (by omega) z3 (by omega) (by omega) ((z4 - z3) - 12) (by omega) (by omega) S.1) (ok_k X Y hA KS KR) rfl kl_Va_By_append ks_By_append kx_By_append ki_By_append ini_By ⟨rfl, rfl⟩ hd_By_append ⟨Nat.le_of_ble_eq_true rfl, Nat.le_of_ble_eq_true rfl⟩ rfl (Nat.le_of_ble_eq_true rfl) d_Va_opens_87 ⟨Nat.le_of_ble_eq_true rfl, Nat.le_of_ble_eq_true rfl⟩) X Y hA S (by decide) (fun f16 H locs Y S s16 p16 => ?_)
          refine lv_aload_n X.1 X.2.1 d_Va_opens_90 rfl (lv_at hl 3 rfl) ?_
          refine lv_aload_n X.1 X.2.1 d_Va_opens_91 rfl (lv_at hl 6 rfl) ?_
          refine lv_iload X.1 X.2.1 d_Va_opens_92 (lv_at hl 7 rfl) ?_
          refine lv_sipush (v := iI 170) X.1 X.2.1 d_Va_opens_94 (by decide) ?_
          refine t_nv (t_runV (As := [.ref a3, .int (iI a4), .int (iI 170)]) (rest := []) (n := 3) X Y S k0 hml hl.1 (c_Va_derive l D E T κ L f16 H.size h k0 a3 n3 k3 (by omega) a4 (by omega) (by omega) 170 (by omega) (by omega) S.1) (ok_k X Y hA KS KR) rfl kl_Va_Va_derive ks_Va_derive kx_Va_derive ki_Va_derive ini_Va ⟨rfl, rfl⟩ hd_Va_derive ⟨Nat.le_of_ble_eq_true rfl, Nat.le_of_ble_eq_true rfl⟩ rfl (Nat.le_of_ble_eq_true rfl) d_Va_opens_97 ⟨Nat.le_of_ble_eq_true rfl, Nat.le_of_ble_eq_true rfl⟩) X Y hA S (by decide) (fun f17 H locs Y S s17 p17 => ?_)
          refine lv_aload_n X.1 X.2.1 d_Va_opens_100 rfl (lv_at hl 3 rfl) ?_
          refine t_getr (ci := 11) X Y S k0 rfl i_Va 4 (by decide) rfl (k1 := 11) (k2 := 0) rfl rfl lk_Va_38 (fun _ h9 => h9) d_Va_opens_101 (fun b18 e18 k18 => ?_)
          refine lv_aload_n X.1 X.2.1 d_Va_opens_104 rfl (lv_at hl 3 rfl) ?_
          refine t_getr (ci := 11) X Y S k0 rfl i_Va 10 (by decide) rfl (k1 := 1) (k2 := 32) rfl rfl lk_Va_52 (fun _ h9 => h9) d_Va_opens_105 (fun b19 e19 k19 => ?_)
          refine lv_aload_n X.1 X.2.1 d_Va_opens_108 rfl (lv_at hl 6 rfl) ?_
          refine t_alen X Y S KS (tKey_src k3) (by omega) d_Va_opens_109 ?_
          refine t_nv (t_runV (As := [.ref b19, .int (iI ((n3 : Int)))]) (rest := []) (n := 2) X Y S k18 hml hl.1 (c_Ae_setKey l D E T κ L f17 H.size b18 k18 b19 32 (Or.inl k19) (by omega) ((n3 : Int)) (by omega) (by omega) S.1) (ok_k X Y hA KS KR) rfl kl_Va_Ae_setKey ks_Ae_setKey kx_Ae_setKey ki_Ae_setKey ini_Ae ⟨rfl, rfl⟩ hd_Ae_setKey ⟨Nat.le_of_ble_eq_true rfl, Nat.le_of_ble_eq_true rfl⟩ rfl (Nat.le_of_ble_eq_true rfl) d_Va_opens_110 ⟨Nat.le_of_ble_eq_true rfl, Nat.le_of_ble_eq_true rfl⟩) X Y hA S (by decide) (fun f20 H locs Y S s20 p20 => ?_)
          refine lv_aload_n X.1 X.2.1 d_Va_opens_113 rfl (lv_at hl 3 rfl) ?_
          refine t_get0 (ci := 11) X Y S k0 rfl i_Va 4 (by decide) rfl lk_Va_38 (fun _ h9 => h9) d_Va_opens_114 ((gF_same (s20.2.2.2 _ ⟨(t_obj S.1 k0).1, by rw [k0]; decide, by simp⟩).1 4).trans e18) ?_
          refine lv_aload X.1 X.2.1 d_Va_opens_117 (lv_at hl 8 rfl) ?_
          refine t_getrow (ci := 3) X Y S k5 rfl i_By 0 (by decide) rfl lk_Va_86 (fun _ h9 => h9) d_Va_opens_119 (fun b21 e21 k21 => ?_)
          refine lv_iconst (v := iI 0) X.1 X.2.1 d_Va_opens_122 (by decide) ?_
          refine lv_aload X.1 X.2.1 d_Va_opens_123 (lv_at hl 8 rfl) ?_
          refine t_gets (ci := 3) X Y S k5 rfl i_By 1 (by decide) rfl lk_Va_77 (fun _ h9 => h9) d_Va_opens_125 (fun z22 e22 l22 u22 => ?_)
          refine t_nv (t_runV (As := [.ref b21, .int (iI 0), .int (iI z22)]) (rest := []) (n := 3) X Y S k18 hml hl.1 (c_Ae_unlock l D E T κ L f20 H.size b18 k18 b21 n5 k21 (by omega) 0 (by omega) (by omega) z22 (by omega) (by omega) S.1) (ok_k X Y hA KS KR) rfl kl_Va_Ae_unlock ks_Ae_unlock kx_Ae_unlock ki_Ae_unlock ini_Ae ⟨rfl, rfl⟩ hd_Ae_unlock ⟨Nat.le_of_ble_eq_true rfl, Nat.le_of_ble_eq_true rfl⟩ rfl (Nat.le_of_ble_eq_true rfl) d_Va_opens_128 ⟨Nat.le_of_ble_eq_true rfl, Nat.le_of_ble_eq_true rfl⟩) X Y hA S (by decide) (fun f23 H locs Y S s23 p23 => ?_)
          refine lv_aload_n X.1 X.2.1 d_Va_opens_131 rfl (lv_at hl 3 rfl) ?_
          refine lv_aload_n X.1 X.2.1 d_Va_opens_132 rfl (lv_at hl 6 rfl) ?_
          refine lv_iload X.1 X.2.1 d_Va_opens_133 (lv_at hl 7 rfl) ?_
          refine lv_bipush (v := iI 85) X.1 X.2.1 d_Va_opens_135 (by decide) ?_
          refine t_nv (t_runV (As := [.ref a3, .int (iI a4), .int (iI 85)]) (rest := []) (n := 3) X Y S k0 hml hl.1 (c_Va_derive l D E T κ L f23 H.size h k0 a3 n3 k3 (by omega) a4 (by omega) (by omega) 85 (by omega) (by omega) S.1) (ok_k X Y hA KS KR) rfl kl_Va_Va_derive ks_Va_derive kx_Va_derive ki_Va_derive ini_Va ⟨rfl, rfl⟩ hd_Va_derive ⟨Nat.le_of_ble_eq_true rfl, Nat.le_of_ble_eq_true rfl⟩ rfl (Nat.le_of_ble_eq_true rfl) d_Va_opens_137 ⟨Nat.le_of_ble_eq_true rfl, Nat.le_of_ble_eq_true rfl⟩) X Y hA S (by decide) (fun f24 H locs Y S s24 p24 => ?_)
          refine lv_aload_n X.1 X.2.1 d_Va_opens_140 rfl (lv_at hl 3 rfl) ?_
          refine t_getr (ci := 11) X Y S k0 rfl i_Va 3 (by decide) rfl (k1 := 16) (k2 := 0) rfl rfl lk_Va_31 (fun _ h9 => h9) d_Va_opens_141 (fun b25 e25 k25 => ?_)
          refine lv_aload_n X.1 X.2.1 d_Va_opens_144 rfl (lv_at hl 3 rfl) ?_
          refine t_get0 (ci := 11) X Y S k0 rfl i_Va 10 (by decide) rfl lk_Va_52 (fun _ h9 => h9) d_Va_opens_145 ((gF_same (s24.2.2.2 _ ⟨(t_obj S.1 k0).1, by rw [k0]; decide, by simp⟩).1 10).trans ((gF_same (s23.2.2.2 _ ⟨(t_obj S.1 k0).1, by rw [k0]; decide, by simp⟩).1 10).trans ((gF_same (s20.2.2.2 _ ⟨(t_obj S.1 k0).1, by rw [k0]; decide, by simp⟩).1 10).trans e19))) ?_
          refine lv_iconst (v := iI 0) X.1 X.2.1 d_Va_opens_148 (by decide) ?_
          refine lv_aload_n X.1 X.2.1 d_Va_opens_149 rfl (lv_at hl 6 rfl) ?_
          refine t_alen X Y S KS (tKey_src k3) (by omega) d_Va_opens_150 ?_
          refine t_nv (t_runV (As := [.ref b19, .int (iI 0), .int (iI ((n3 : Int)))]) (rest := []) (n := 3) X Y S k25 hml hl.1 (c_Ha_setKey l D E T κ L f24 H.size b25 k25 b19 32 (Or.inl k19) (by omega) 0 (by omega) (by omega) ((n3 : Int)) (by omega) (by omega) S.1) (ok_k X Y hA KS KR) rfl kl_Va_Ha_setKey ks_Ha_setKey kx_Ha_setKey ki_Ha_setKey ini_Ha ⟨rfl, rfl⟩ hd_Ha_setKey ⟨Nat.le_of_ble_eq_true rfl, Nat.le_of_ble_eq_true rfl⟩ rfl (Nat.le_of_ble_eq_true rfl) d_Va_opens_151 ⟨Nat.le_of_ble_eq_true rfl, Nat.le_of_ble_eq_true rfl⟩) X Y hA S (by decide) (fun f26 H locs Y S s26 p26 => ?_)
          refine lv_aload_n X.1 X.2.1 d_Va_opens_154 rfl (lv_at hl 3 rfl) ?_
          refine lv_aload X.1 X.2.1 d_Va_opens_155 (lv_at hl 8 rfl) ?_
          refine lv_iconst (v := iI 0) X.1 X.2.1 d_Va_opens_157 (by decide) ?_
          refine lv_aload X.1 X.2.1 d_Va_opens_158 (lv_at hl 8 rfl) ?_
          refine t_get0 (ci := 3) X Y S k5 rfl i_By 1 (by decide) rfl lk_Va_77 (fun _ h9 => h9) d_Va_opens_160 ((gF_same (s26.2.2.2 _ ⟨(t_obj S.1 k5).1, by rw [k5]; decide, by simp⟩).1 1).trans ((gF_same (s24.2.2.2 _ ⟨(t_obj S.1 k5).1, by rw [k5]; decide, by simp⟩).1 1).trans ((gF_same (s23.2.2.2 _ ⟨(t_obj S.1 k5).1, by rw [k5]; decide, by simp⟩).1 1).trans e22))) ?_
          refine t_nv (t_runV (As := [.ref a5, .int (iI 0), .int (iI z22)]) (rest := []) (n := 3) X Y S k0 hml hl.1 (c_Va_digest l D E T κ L f26 H.size h k0 a5 n5 k5 (by omega) 0 (by omega) (by omega) z22 (by omega) (by omega) S.1) (ok_k X Y hA KS KR) rfl kl_Va_Va_digest ks_Va_digest kx_Va_digest ki_Va_digest ini_Va ⟨rfl, rfl⟩ hd_Va_digest ⟨Nat.le_of_ble_eq_true rfl, Nat.le_of_ble_eq_true rfl⟩ rfl (Nat.le_of_ble_eq_true rfl) d_Va_opens_163 ⟨Nat.le_of_ble_eq_true rfl, Nat.le_of_ble_eq_true rfl⟩) X Y hA S (by decide) (fun f27 H locs Y S s27 p27 => ?_)
          refine lv_aload X.1 X.2.1 d_Va_opens_166 (lv_at hl 8 rfl) ?_
          refine lv_bipush (v := iI 16) X.1 X.2.1 d_Va_opens_168 (by decide) ?_
          refine t_nv (t_runV (As := [.int (iI 16)]) (rest := []) (n := 1) X Y S k5 hml hl.1 (c_By_skip l D E T κ L f27 H.size a5 n5 k5 (by omega) 16 (by omega) (by omega) S.1) (ok_k X Y hA KS KR) rfl kl_Va_By_skip ks_By_skip kx_By_skip ki_By_skip ini_By ⟨rfl, rfl⟩ hd_By_skip ⟨Nat.le_of_ble_eq_true rfl, Nat.le_of_ble_eq_true rfl⟩ rfl (Nat.le_of_ble_eq_true rfl) d_Va_opens_170 ⟨Nat.le_of_ble_eq_true rfl, Nat.le_of_ble_eq_true rfl⟩) X Y hA S (by decide) (fun f28 H locs Y S s28 p28 => ?_)
          refine lv_aload_n X.1 X.2.1 d_Va_opens_173 rfl (lv_at hl 3 rfl) ?_
          refine lv_aload_n X.1 X.2.1 d_Va_opens_174 rfl (lv_at hl 4 rfl) ?_
          refine lv_iload X.1 X.2.1 d_Va_opens_175 (lv_at hl 1 rfl) ?_
          refine lv_iload X.1 X.2.1 d_Va_opens_177 (lv_at hl 0 rfl) ?_
          refine z_iadd X.1 X.2.1 d_Va_opens_179 ?_
          refine t_ui (t_runV (As := [.ref a1, .int (iI (z3 + ((z4 - z3) - 12)))]) (rest := []) (n := 2) X Y S k0 hml hl.1 (c_Va_isMac l D E T κ L f28 H.size h k0 a1 n1 k1 (by omega) (z3 + ((z4 - z3) - 12)) (by omega) (by omega) S.1) (ok_k X Y hA KS KR) rfl kl_Va_Va_isMac ks_Va_isMac kx_Va_isMac ki_Va_isMac ini_Va ⟨rfl, rfl⟩ hd_Va_isMac ⟨Nat.le_of_ble_eq_true rfl, Nat.le_of_ble_eq_true rfl⟩ rfl (Nat.le_of_ble_eq_true rfl) d_Va_opens_180 ⟨Nat.le_of_ble_eq_true rfl, Nat.le_of_ble_eq_true rfl⟩) X Y hA (fun z29 H locs Y p29 => ?_)
          obtain ⟨l29, u29⟩ := p29
          exact c_retz hQQ X Y hr hlk (iI_bool (by omega) (by omega)).1 ⟨rfl, S, z29, rfl, ⟨by omega, by omega⟩⟩ d_Va_opens_183
        · refine lv_iconst (v := iI 0) X.1 X.2.1 d_Va_opens_70 (by decide) ?_
          exact c_retz hQQ X Y hr hlk (iI_bool (by omega) (by omega)).1 ⟨rfl, S, 0, rfl, ⟨by omega, by omega⟩⟩ d_Va_opens_71
set_option maxHeartbeats 4000000 in
set_option maxRecDepth 100000 in
theorem c_Va_sum (l : Launch) (D : va_G) (E : cE) (T : cT) (κ : tK) (L : List Nat) (f : pF) (sz : Nat) (h : Nat) (k0 : κ h = (21, 0)) (a1 n1 : Nat) (k1 : tKey T κ a1 n1) (x1 : n1 = 0 ∨ n1 = 16 ∨ n1 = 32) (a2 : Int) (l_a2 : (-2147483648) ≤ a2) (u_a2 : a2 ≤ 2147483647) (a3 n3 : Nat) (k3 : κ a3 = (13, n3)) (x3 : n3 ≤ 12288) (a4 : Int) (l_a4 : (-1) ≤ a4) (u_a4 : a4 ≤ 20200) (a5 : Int) (l_a5 : (-1) ≤ a5) (u_a5 : a5 ≤ 20200) (hw : tW E T κ L f) : Met l y_Va_sum (k_Va_sum :: lw_tg) (kRm 5 155 0 0) (va_Pc [.ref h, .ref a1, .int (iI a2), .ref a3, .int (iI a4), .int (iI a5)] (kPre D E T L f sz)) (va_Qv (nPv E T [1, 2, 3, 4, 11, 16] κ L f (fun (g : pF) => True)) (cPost D E (pA L sz)) (pA L sz)) 0 0 (pA L sz) := by
  refine k_enter (own := R_Va) (by decide) rfl (Nat.le_of_ble_eq_true rfl) (fun p e s m below meth c ls AV QQ H locs hQQ X Y hA hin hr hlk hml hl KS KR => ?_)
  have hl : lv_has ls 6 [(0, .ref h), (1, .ref a1), (2, .int (iI a2)), (3, .ref a3), (4, .int (iI a4)), (5, .int (iI a5))] := hl
  have S : tS E T (tFr κ L [1, 2, 3, 4, 11, 16] []) κ L f κ L f := tS_rf hw
  refine lv_aload_n X.1 X.2.1 d_Va_sum_0 rfl (lv_at hl 0 rfl) ?_
  refine lv_aload_n X.1 X.2.1 d_Va_sum_1 rfl (lv_at hl 1 rfl) ?_
  refine lv_iload_n X.1 X.2.1 d_Va_sum_2 rfl (lv_at hl 2 rfl) ?_
  refine lv_sipush (v := iI 153) X.1 X.2.1 d_Va_sum_3 (by decide) ?_
  refine t_nv (t_runV (As := [.ref a1, .int (iI a2), .int (iI 153)]) (rest := []) (n := 3) X Y S k0 hml hl.1 (c_Va_derive l D E T κ L f H.size h k0 a1 n1 k1 (by omega) a2 (by omega) (by omega) 153 (by omega) (by omega) S.1) (ok_k X Y hA KS KR) rfl kl_Va_Va_derive ks_Va_derive kx_Va_derive ki_Va_derive ini_Va ⟨rfl, rfl⟩ hd_Va_derive ⟨Nat.le_of_ble_eq_true rfl, Nat.le_of_ble_eq_true rfl⟩ rfl (Nat.le_of_ble_eq_true rfl) d_Va_sum_6 ⟨Nat.le_of_ble_eq_true rfl, Nat.le_of_ble_eq_true rfl⟩) X Y hA S (by decide) (fun f1 H locs Y S s1 p1 => ?_)
  refine lv_aload_n X.1 X.2.1 d_Va_sum_9 rfl (lv_at hl 0 rfl) ?_
  refine t_getr (ci := 11) X Y S k0 rfl i_Va 3 (by decide) rfl (k1 := 16) (k2 := 0) rfl rfl lk_Va_31 (fun _ h9 => h9) d_Va_sum_10 (fun b2 e2 k2 => ?_)
  refine lv_aload_n X.1 X.2.1 d_Va_sum_13 rfl (lv_at hl 0 rfl) ?_
  refine t_getr (ci := 11) X Y S k0 rfl i_Va 10 (by decide) rfl (k1 := 1) (k2 := 32) rfl rfl lk_Va_52 (fun _ h9 => h9) d_Va_sum_14 (fun b3 e3 k3 => ?_)
  refine lv_iconst (v := iI 0) X.1 X.2.1 d_Va_sum_17 (by decide) ?_
  refine lv_aload_n X.1 X.2.1 d_Va_sum_18 rfl (lv_at hl 1 rfl) ?_
  refine t_alen X Y S KS (tKey_src k1) (by omega) d_Va_sum_19 ?_
  refine t_nv (t_runV (As := [.ref b3, .int (iI 0), .int (iI ((n1 : Int)))]) (rest := []) (n := 3) X Y S k2 hml hl.1 (c_Ha_setKey l D E T κ L f1 H.size b2 k2 b3 32 (Or.inl k3) (by omega) 0 (by omega) (by omega) ((n1 : Int)) (by omega) (by omega) S.1) (ok_k X Y hA KS KR) rfl kl_Va_Ha_setKey ks_Ha_setKey kx_Ha_setKey ki_Ha_setKey ini_Ha ⟨rfl, rfl⟩ hd_Ha_setKey ⟨Nat.le_of_ble_eq_true rfl, Nat.le_of_ble_eq_true rfl⟩ rfl (Nat.le_of_ble_eq_true rfl) d_Va_sum_20 ⟨Nat.le_of_ble_eq_true rfl, Nat.le_of_ble_eq_true rfl⟩) X Y hA S (by decide) (fun f4 H locs Y S s4 p4 => ?_)
  refine lv_aload_n X.1 X.2.1 d_Va_sum_23 rfl (lv_at hl 0 rfl) ?_
  refine lv_aload_n X.1 X.2.1 d_Va_sum_24 rfl (lv_at hl 3 rfl) ?_
  refine lv_iload X.1 X.2.1 d_Va_sum_25 (lv_at hl 4 rfl) ?_
  refine lv_iload X.1 X.2.1 d_Va_sum_27 (lv_at hl 5 rfl) ?_
  refine t_nv (t_runV (As := [.ref a3, .int (iI a4), .int (iI a5)]) (rest := []) (n := 3) X Y S k0 hml hl.1 (c_Va_digest l D E T κ L f4 H.size h k0 a3 n3 k3 (by omega) a4 (by omega) (by omega) a5 (by omega) (by omega) S.1) (ok_k X Y hA KS KR) rfl kl_Va_Va_digest ks_Va_digest kx_Va_digest ki_Va_digest ini_Va ⟨rfl, rfl⟩ hd_Va_digest ⟨Nat.le_of_ble_eq_true rfl, Nat.le_of_ble_eq_true rfl⟩ rfl (Nat.le_of_ble_eq_true rfl) d_Va_sum_29 ⟨Nat.le_of_ble_eq_true rfl, Nat.le_of_ble_eq_true rfl⟩) X Y hA S (by decide) (fun f5 H locs Y S s5 p5 => ?_)
  exact c_retv hQQ X Y hr hlk ⟨rfl, S, trivial⟩ d_Va_sum_32
set_option maxHeartbeats 4000000 in
set_option maxRecDepth 100000 in
theorem c_Va_putSum (l : Launch) (D : va_G) (E : cE) (T : cT) (κ : tK) (L : List Nat) (f : pF) (sz : Nat) (h : Nat) (k0 : κ h = (21, 0)) (a1 n1 : Nat) (k1 : κ a1 = (13, n1)) (x1 : n1 ≤ 12288) (a2 n2 : Nat) (k2 : tKey T κ a2 n2) (x2 : n2 = 0 ∨ n2 = 16 ∨ n2 = 32) (hw : tW E T κ L f) : Met l y_Va_putSum (k_Va_putSum :: lw_tg) (kRm 5 159 0 0) (va_Pc [.ref h, .ref a1, .ref a2] (kPre D E T L f sz)) (va_Qv (nPv E T [1, 13] κ L f (fun (g : pF) => True)) (cPost D E (pA L sz)) (pA L sz)) 0 0 (pA L sz) := by
  refine k_enter (own := R_Va) (by decide) rfl (Nat.le_of_ble_eq_true rfl) (fun p e s m below meth c ls AV QQ H locs hQQ X Y hA hin hr hlk hml hl KS KR => ?_)
  have hl : lv_has ls 3 [(0, .ref h), (1, .ref a1), (2, .ref a2)] := hl
  have S : tS E T (tFr κ L [1, 13] []) κ L f κ L f := tS_rf hw
  refine lv_aload_n X.1 X.2.1 d_Va_putSum_0 rfl (lv_at hl 1 rfl) ?_
  refine lv_iconst (v := iI 3) X.1 X.2.1 d_Va_putSum_1 (by decide) ?_
  refine lv_aload_n X.1 X.2.1 d_Va_putSum_2 rfl (lv_at hl 2 rfl) ?_
  refine t_ui (x_runS (As := [.ref a2]) (rest := [.int (iI 3), .ref a1]) (n := 1) X hml hl.1 (c_Va_typeOf l D E T κ L f H.size a2 n2 k2 (by omega) S.1) (ok_k X Y hA KS KR) kl_Va_Va_typeOf ks_Va_typeOf ki_Va_typeOf ini_Va ⟨rfl, rfl⟩ hd_Va_typeOf.2 ⟨Nat.le_of_ble_eq_true rfl, Nat.le_of_ble_eq_true rfl⟩ rfl (Nat.le_of_ble_eq_true rfl) d_Va_putSum_3 ⟨Nat.le_of_ble_eq_true rfl, Nat.le_of_ble_eq_true rfl⟩) X Y hA (fun z1 H locs Y p1 => ?_)
  obtain ⟨l1, u1⟩ := p1
  refine lv_iconst (v := iI 2) X.1 X.2.1 d_Va_putSum_6 (by decide) ?_
  refine z_isub X.1 X.2.1 d_Va_putSum_7 ?_
  refine lv_aload_n X.1 X.2.1 d_Va_putSum_8 rfl (lv_at hl 0 rfl) ?_
  refine t_getr (ci := 11) X Y S k0 rfl i_Va 3 (by decide) rfl (k1 := 16) (k2 := 0) rfl rfl lk_Va_31 (fun _ h9 => h9) d_Va_putSum_9 (fun b2 e2 k2 => ?_)
  refine t_getr (ci := 6) X Y S k2 rfl i_Ha 7 (by decide) rfl (k1 := 1) (k2 := 20) rfl rfl lk_Va_125 (fun _ h9 => h9) d_Va_putSum_12 (fun b3 e3 k3 => ?_)
  refine lv_bipush (v := iI 12) X.1 X.2.1 d_Va_putSum_15 (by decide) ?_
  refine t_nv (t_runV (As := [.int (iI 3), .int (iI (z1 - 2)), .ref b3, .int (iI 12)]) (rest := []) (n := 4) X Y S k1 hml hl.1 (c_By_putPair l D E T κ L f H.size a1 n1 k1 (by omega) 3 (by omega) (by omega) (z1 - 2) (by omega) (by omega) b3 20 (Or.inl k3) (by omega) 12 (by omega) (by omega) S.1) (ok_k X Y hA KS KR) rfl kl_Va_By_putPair ks_By_putPair kx_By_putPair ki_By_putPair ini_By ⟨rfl, rfl⟩ hd_By_putPair ⟨Nat.le_of_ble_eq_true rfl, Nat.le_of_ble_eq_true rfl⟩ rfl (Nat.le_of_ble_eq_true rfl) d_Va_putSum_17 ⟨Nat.le_of_ble_eq_true rfl, Nat.le_of_ble_eq_true rfl⟩) X Y hA S (by decide) (fun f4 H locs Y S s4 p4 => ?_)
  exact c_retv hQQ X Y hr hlk ⟨rfl, S, trivial⟩ d_Va_putSum_20
set_option maxHeartbeats 4000000 in
set_option maxRecDepth 100000 in
theorem c_Va_isSumFor (l : Launch) (D : va_G) (E : cE) (T : cT) (κ : tK) (L : List Nat) (f : pF) (sz : Nat) (a1 n1 : Nat) (k1 : tKey T κ a1 n1) (x1 : n1 = 0 ∨ n1 = 16 ∨ n1 = 32) (a2 n2 : Nat) (k2 : κ a2 = (13, n2)) (x2 : n2 ≤ 12288) (a3 : Int) (l_a3 : (-1) ≤ a3) (u_a3 : a3 ≤ 20200) (hw : tW E T κ L f) : Met l y_Va_isSumFor (k_Va_isSumFor :: lw_tg) (kRm 3 112 0 0) (va_Pc [.ref a1, .ref a2, .int (iI a3)] (kPre D E T L f sz)) (va_Qi (uPi L f (fun (z : Int) => 0 ≤ z ∧ z ≤ 1)) (cPost D E (pA L sz)) (pA L sz)) 0 0 (pA L sz) := by
  refine k_enter (own := R_Va) (by decide) rfl (Nat.le_of_ble_eq_true rfl) (fun p e s m below meth c ls AV QQ H locs hQQ X Y hA hin hr hlk hml hl KS KR => ?_)
  have hl : lv_has ls 3 [(0, .ref a1), (1, .ref a2), (2, .int (iI a3))] := hl
  have S : tS E T (tFr κ L [] []) κ L f κ L f := tS_rf hw
  refine lv_aload_n X.1 X.2.1 d_Va_isSumFor_0 rfl (lv_at hl 1 rfl) ?_
  refine lv_aload_n X.1 X.2.1 d_Va_isSumFor_1 rfl (lv_at hl 1 rfl) ?_
  refine lv_iload_n X.1 X.2.1 d_Va_isSumFor_2 rfl (lv_at hl 2 rfl) ?_
  refine lv_iconst (v := iI 0) X.1 X.2.1 d_Va_isSumFor_3 (by decide) ?_
  refine t_ui (t_runV (As := [.int (iI a3), .int (iI 0)]) (rest := [.ref a2]) (n := 2) X Y S k2 hml hl.1 (c_By_field l D E T κ L f H.size a2 n2 k2 (by omega) a3 (by omega) (by omega) 0 (by omega) (by omega) S.1) (ok_k X Y hA KS KR) rfl kl_Va_By_field ks_By_field kx_By_field ki_By_field ini_By ⟨rfl, rfl⟩ hd_By_field ⟨Nat.le_of_ble_eq_true rfl, Nat.le_of_ble_eq_true rfl⟩ rfl (Nat.le_of_ble_eq_true rfl) d_Va_isSumFor_4 ⟨Nat.le_of_ble_eq_true rfl, Nat.le_of_ble_eq_true rfl⟩) X Y hA (fun z1 H locs Y p1 => ?_)
  obtain ⟨l1, u1⟩ := p1
  refine t_ul (t_runV (As := [.int (iI z1)]) (rest := []) (n := 1) X Y S k2 hml hl.1 (c_By_numberAt l D E T κ L f H.size a2 n2 k2 (by omega) z1 (by omega) (by omega) S.1) (ok_k X Y hA KS KR) rfl kl_Va_By_numberAt ks_By_numberAt kx_By_numberAt ki_By_numberAt ini_By ⟨rfl, rfl⟩ hd_By_numberAt ⟨Nat.le_of_ble_eq_true rfl, Nat.le_of_ble_eq_true rfl⟩ rfl (Nat.le_of_ble_eq_true rfl) d_Va_isSumFor_7 ⟨Nat.le_of_ble_eq_true rfl, Nat.le_of_ble_eq_true rfl⟩) X Y hA (fun v2 H locs Y p2 => ?_)
  refine lv_aload_n X.1 X.2.1 d_Va_isSumFor_10 rfl (lv_at hl 0 rfl) ?_
  refine t_ui (x_runS (As := [.ref a1]) (rest := [.long v2]) (n := 1) X hml hl.1 (c_Va_typeOf l D E T κ L f H.size a1 n1 k1 (by omega) S.1) (ok_k X Y hA KS KR) kl_Va_Va_typeOf ks_Va_typeOf ki_Va_typeOf ini_Va ⟨rfl, rfl⟩ hd_Va_typeOf.2 ⟨Nat.le_of_ble_eq_true rfl, Nat.le_of_ble_eq_true rfl⟩ rfl (Nat.le_of_ble_eq_true rfl) d_Va_isSumFor_11 ⟨Nat.le_of_ble_eq_true rfl, Nat.le_of_ble_eq_true rfl⟩) X Y hA (fun z3 H locs Y p3 => ?_)
  obtain ⟨l3, u3⟩ := p3
  refine lv_iconst (v := iI 2) X.1 X.2.1 d_Va_isSumFor_14 (by decide) ?_
  refine z_isub X.1 X.2.1 d_Va_isSumFor_15 ?_
  refine lv_i2l X.1 X.2.1 d_Va_isSumFor_16 rfl ?_
  refine t_anyl (fun v4 => ?_)
  refine W.lcmp X.1 X.2.1 d_Va_isSumFor_17 ?_
  refine t_u (fun z5 l5 u5 => ?_)
  refine z_if_ne (tgt := 25) X.1 X.2.1 d_Va_isSumFor_18 (by decide) ⟨by omega, by omega⟩ (fun h6 => ?_) (fun h6 => ?_)
  · refine lv_iconst (v := iI 0) X.1 X.2.1 d_Va_isSumFor_25 (by decide) ?_
    exact c_retz hQQ X Y hr hlk (iI_bool (by omega) (by omega)).1 ⟨rfl, rfl, 0, rfl, ⟨by omega, by omega⟩⟩ d_Va_isSumFor_26
  · refine lv_iconst (v := iI 1) X.1 X.2.1 d_Va_isSumFor_21 (by decide) ?_
    refine lv_goto (tgt := 26) X.1 X.2.1 d_Va_isSumFor_22 (by decide) ?_
    exact c_retz hQQ X Y hr hlk (iI_bool (by omega) (by omega)).1 ⟨rfl, rfl, 1, rfl, ⟨by omega, by omega⟩⟩ d_Va_isSumFor_26
set_option maxHeartbeats 4000000 in
set_option maxRecDepth 100000 in
theorem c_Va_isSum (l : Launch) (D : va_G) (E : cE) (T : cT) (κ : tK) (L : List Nat) (f : pF) (sz : Nat) (h : Nat) (k0 : κ h = (21, 0)) (a1 n1 : Nat) (k1 : κ a1 = (13, n1)) (x1 : n1 ≤ 12288) (a2 : Int) (l_a2 : (-1) ≤ a2) (u_a2 : a2 ≤ 20200) (hw : tW E T κ L f) : Met l y_Va_isSum (k_Va_isSum :: lw_tg) (kRm 3 112 0 0) (va_Pc [.ref h, .ref a1, .int (iI a2)] (kPre D E T L f sz)) (va_Qi (uPi L f (fun (z : Int) => 0 ≤ z ∧ z ≤ 1)) (cPost D E (pA L sz)) (pA L sz)) 0 0 (pA L sz) := by
  refine k_enter (own := R_Va) (by decide) rfl (Nat.le_of_ble_eq_true rfl) (fun p e s m below meth c ls AV QQ H locs hQQ X Y hA hin hr hlk hml hl KS KR => ?_)
  have hl : lv_has ls 5 [(0, .ref h), (1, .ref a1), (2, .int (iI a2))] := hl
  have S : tS E T (tFr κ L [] []) κ L f κ L f := tS_rf hw
  refine lv_aload_n X.1 X.2.1 d_Va_isSum_0 rfl (lv_at hl 1 rfl) ?_
  refine lv_iload_n X.1 X.2.1 d_Va_isSum_1 rfl (lv_at hl 2 rfl) ?_
  refine lv_iconst (v := iI 1) X.1 X.2.1 d_Va_isSum_2 (by decide) ?_
  refine t_ui (t_runV (As := [.int (iI a2), .int (iI 1)]) (rest := []) (n := 2) X Y S k1 hml hl.1 (c_By_field l D E T κ L f H.size a1 n1 k1 (by omega) a2 (by omega) (by omega) 1 (by omega) (by omega) S.1) (ok_k X Y hA KS KR) rfl kl_Va_By_field ks_By_field kx_By_field ki_By_field ini_By ⟨rfl, rfl⟩ hd_By_field ⟨Nat.le_of_ble_eq_true rfl, Nat.le_of_ble_eq_true rfl⟩ rfl (Nat.le_of_ble_eq_true rfl) d_Va_isSum_3 ⟨Nat.le_of_ble_eq_true rfl, Nat.le_of_ble_eq_true rfl⟩) X Y hA (fun z1 H locs Y p1 => ?_)
  obtain ⟨l1, u1⟩ := p1
  refine lv_istore_n (lv' := [(3, .int (iI z1)), (0, .ref h), (1, .ref a1), (2, .int (iI a2))]) X.1 X.2.1 d_Va_isSum_6 rfl hl (by decide) rfl (fun ls hl => ?_)
  refine lv_aload_n X.1 X.2.1 d_Va_isSum_7 rfl (lv_at hl 2 rfl) ?_
  refine lv_iload_n X.1 X.2.1 d_Va_isSum_8 rfl (lv_at hl 0 rfl) ?_
  obtain ⟨z2, e2, l2, u2⟩ := t_size S k1
  refine t_ui (t_runV (As := [.int (iI z1)]) (rest := []) (n := 1) X Y S k1 hml hl.1 (c_By_body l D E T κ L f H.size a1 n1 k1 (by omega) z1 (by omega) (by omega) S.1 z2 e2 (by omega) (by omega)) (ok_k X Y hA KS KR) rfl kl_Va_By_body ks_By_body kx_By_body ki_By_body ini_By ⟨rfl, rfl⟩ hd_By_body ⟨Nat.le_of_ble_eq_true rfl, Nat.le_of_ble_eq_true rfl⟩ rfl (Nat.le_of_ble_eq_true rfl) d_Va_isSum_9 ⟨Nat.le_of_ble_eq_true rfl, Nat.le_of_ble_eq_true rfl⟩) X Y hA (fun z3 H locs Y p3 => ?_)
  obtain ⟨l3, u3, x3⟩ := p3
  refine lv_istore (lv' := [(4, .int (iI z3)), (3, .int (iI z1)), (0, .ref h), (1, .ref a1), (2, .int (iI a2))]) X.1 X.2.1 d_Va_isSum_12 hl (by decide) rfl (fun ls hl => ?_)
  refine lv_iload_n X.1 X.2.1 d_Va_isSum_14 rfl (lv_at hl 1 rfl) ?_
  refine z_if_lt (tgt := 49) X.1 X.2.1 d_Va_isSum_15 (by decide) ⟨by omega, by omega⟩ (fun h4 => ?_) (fun h4 => ?_)
  · refine lv_iconst (v := iI 0) X.1 X.2.1 d_Va_isSum_49 (by decide) ?_
    exact c_retz hQQ X Y hr hlk (iI_bool (by omega) (by omega)).1 ⟨rfl, rfl, 0, rfl, ⟨by omega, by omega⟩⟩ d_Va_isSum_50
  · refine lv_aload_n X.1 X.2.1 d_Va_isSum_18 rfl (lv_at hl 3 rfl) ?_
    refine lv_iload_n X.1 X.2.1 d_Va_isSum_19 rfl (lv_at hl 1 rfl) ?_
    refine lv_aload_n X.1 X.2.1 d_Va_isSum_20 rfl (lv_at hl 3 rfl) ?_
    refine t_get0 (ci := 3) X Y S k1 rfl i_By 1 (by decide) rfl lk_Va_77 (fun _ h9 => h9) d_Va_isSum_21 e2 ?_
    refine t_ui (t_runV (As := [.int (iI z1), .int (iI z2)]) (rest := []) (n := 2) X Y S k1 hml hl.1 (c_By_stop l D E T κ L f H.size a1 n1 k1 (by omega) z1 (by omega) (by omega) z2 (by omega) (by omega) S.1 z2 e2 (by omega) (by omega)) (ok_k X Y hA KS KR) rfl kl_Va_By_stop ks_By_stop kx_By_stop ki_By_stop ini_By ⟨rfl, rfl⟩ hd_By_stop ⟨Nat.le_of_ble_eq_true rfl, Nat.le_of_ble_eq_true rfl⟩ rfl (Nat.le_of_ble_eq_true rfl) d_Va_isSum_24 ⟨Nat.le_of_ble_eq_true rfl, Nat.le_of_ble_eq_true rfl⟩) X Y hA (fun z5 H locs Y p5 => ?_)
    obtain ⟨l5, u5, x5⟩ := p5
    refine lv_iload X.1 X.2.1 d_Va_isSum_27 (lv_at hl 0 rfl) ?_
    refine z_isub X.1 X.2.1 d_Va_isSum_29 ?_
    refine lv_bipush (v := iI 12) X.1 X.2.1 d_Va_isSum_30 (by decide) ?_
    refine z_icmp_ne (tgt := 49) X.1 X.2.1 d_Va_isSum_32 (by decide) ⟨by omega, by omega⟩ ⟨by omega, by omega⟩ (fun h6 => ?_) (fun h6 => ?_)
    · refine lv_iconst (v := iI 0) X.1 X.2.1 d_Va_isSum_49 (by decide) ?_
      exact c_retz hQQ X Y hr hlk (iI_bool (by omega) (by omega)).1 ⟨rfl, rfl, 0, rfl, ⟨by omega, by omega⟩⟩ d_Va_isSum_50
    · refine lv_aload_n X.1 X.2.1 d_Va_isSum_35 rfl (lv_at hl 2 rfl) ?_
      refine lv_aload_n X.1 X.2.1 d_Va_isSum_36 rfl (lv_at hl 3 rfl) ?_
      refine lv_iload X.1 X.2.1 d_Va_isSum_37 (lv_at hl 0 rfl) ?_
      refine t_ui (t_runV (As := [.ref a1, .int (iI z3)]) (rest := []) (n := 2) X Y S k0 hml hl.1 (c_Va_isMac l D E T κ L f H.size h k0 a1 n1 k1 (by omega) z3 (by omega) (by omega) S.1) (ok_k X Y hA KS KR) rfl kl_Va_Va_isMac ks_Va_isMac kx_Va_isMac ki_Va_isMac ini_Va ⟨rfl, rfl⟩ hd_Va_isMac ⟨Nat.le_of_ble_eq_true rfl, Nat.le_of_ble_eq_true rfl⟩ rfl (Nat.le_of_ble_eq_true rfl) d_Va_isSum_39 ⟨Nat.le_of_ble_eq_true rfl, Nat.le_of_ble_eq_true rfl⟩) X Y hA (fun z7 H locs Y p7 => ?_)
      obtain ⟨l7, u7⟩ := p7
      refine z_if_eq (tgt := 49) X.1 X.2.1 d_Va_isSum_42 (by decide) ⟨by omega, by omega⟩ (fun h8 => ?_) (fun h8 => ?_)
      · refine lv_iconst (v := iI 0) X.1 X.2.1 d_Va_isSum_49 (by decide) ?_
        exact c_retz hQQ X Y hr hlk (iI_bool (by omega) (by omega)).1 ⟨rfl, rfl, 0, rfl, ⟨by omega, by omega⟩⟩ d_Va_isSum_50
      · refine lv_iconst (v := iI 1) X.1 X.2.1 d_Va_isSum_45 (by decide) ?_
        refine lv_goto (tgt := 50) X.1 X.2.1 d_Va_isSum_46 (by decide) ?_
        exact c_retz hQQ X Y hr hlk (iI_bool (by omega) (by omega)).1 ⟨rfl, rfl, 1, rfl, ⟨by omega, by omega⟩⟩ d_Va_isSum_50
set_option maxHeartbeats 4000000 in
set_option maxRecDepth 100000 in
theorem c_Va_keyAt (l : Launch) (D : va_G) (E : cE) (T : cT) (κ : tK) (L : List Nat) (f : pF) (sz : Nat) (a1 n1 : Nat) (k1 : κ a1 = (13, n1)) (x1 : n1 ≤ 12288) (a2 : Int) (l_a2 : (-1) ≤ a2) (u_a2 : a2 ≤ 20200) (hw : tW E T κ L f) : Met l y_Va_keyAt (k_Va_keyAt :: lw_tg) (kRm 3 112 1 32) (va_Pc [.ref a1, .int (iI a2)] (kPre D E T L f sz)) (va_Qr (fun _ : cU => True) (fun u r t => aPr E T [1, 2, 3, 4, 5, 6, 7, 8, 9, 10, 11, 12, 13, 14, 15, 16, 17, 18, 19, 20, 21] [] κ L f (fun (z : Nat) (k : tK) (g : pF) => (∃ n : Nat, tKey T k z n)) r u ∧ cPost D E (pA L sz) u t) (pA L sz)) 1 32 (pA L sz) := by
  refine k_enter (own := R_Va) (by decide) rfl (Nat.le_of_ble_eq_true rfl) (fun p e s m below meth c ls AV QQ H locs hQQ X Y hA hin hr hlk hml hl KS KR => ?_)
  have hl : lv_has ls 8 [(0, .ref a1), (1, .int (iI a2))] := hl
  have S : tS E T (tFr κ L [1, 2, 3, 4, 5, 6, 7, 8, 9, 10, 11, 12, 13, 14, 15, 16, 17, 18, 19, 20, 21] []) κ L f κ L f := tS_rf hw
  have hF0 : ∀ b, tFr κ L [1, 2, 3, 4, 5, 6, 7, 8, 9, 10, 11, 12, 13, 14, 15, 16, 17, 18, 19, 20, 21] [] b → b ∈ L := fun b h9 => h9.1
  refine lv_aload_n X.1 X.2.1 d_Va_keyAt_0 rfl (lv_at hl 0 rfl) ?_
  refine lv_iload_n X.1 X.2.1 d_Va_keyAt_1 rfl (lv_at hl 1 rfl) ?_
  refine lv_iconst (v := iI 1) X.1 X.2.1 d_Va_keyAt_2 (by decide) ?_
  refine t_ui (t_runV (As := [.int (iI a2), .int (iI 1)]) (rest := []) (n := 2) X Y S k1 hml hl.1 (c_By_field l D E T κ L f H.size a1 n1 k1 (by omega) a2 (by omega) (by omega) 1 (by omega) (by omega) S.1) (ok_k X Y hA KS KR) rfl kl_Va_By_field ks_By_field kx_By_field ki_By_field ini_By ⟨rfl, rfl⟩ hd_By_field ⟨Nat.le_of_ble_eq_true rfl, Nat.le_of_ble_eq_true rfl⟩ rfl (Nat.le_of_ble_eq_true rfl) d_Va_keyAt_3 ⟨Nat.le_of_ble_eq_true rfl, Nat.le_of_ble_eq_true rfl⟩) X Y hA (fun z1 H locs Y p1 => ?_)
  obtain ⟨l1, u1⟩ := p1
  refine lv_istore_n (lv' := [(2, .int (iI z1)), (0, .ref a1), (1, .int (iI a2))]) X.1 X.2.1 d_Va_keyAt_6 rfl hl (by decide) rfl (fun ls hl => ?_)
  refine lv_aload_n X.1 X.2.1 d_Va_keyAt_7 rfl (lv_at hl 1 rfl) ?_
  refine lv_aload_n X.1 X.2.1 d_Va_keyAt_8 rfl (lv_at hl 1 rfl) ?_
  refine lv_iload_n X.1 X.2.1 d_Va_keyAt_9 rfl (lv_at hl 2 rfl) ?_
  refine lv_iconst (v := iI 0) X.1 X.2.1 d_Va_keyAt_10 (by decide) ?_
  refine t_ui (t_runV (As := [.int (iI a2), .int (iI 0)]) (rest := [.ref a1]) (n := 2) X Y S k1 hml hl.1 (c_By_field l D E T κ L f H.size a1 n1 k1 (by omega) a2 (by omega) (by omega) 0 (by omega) (by omega) S.1) (ok_k X Y hA KS KR) rfl kl_Va_By_field ks_By_field kx_By_field ki_By_field ini_By ⟨rfl, rfl⟩ hd_By_field ⟨Nat.le_of_ble_eq_true rfl, Nat.le_of_ble_eq_true rfl⟩ rfl (Nat.le_of_ble_eq_true rfl) d_Va_keyAt_11 ⟨Nat.le_of_ble_eq_true rfl, Nat.le_of_ble_eq_true rfl⟩) X Y hA (fun z2 H locs Y p2 => ?_)
  obtain ⟨l2, u2⟩ := p2
  refine t_ul (t_runV (As := [.int (iI z2)]) (rest := []) (n := 1) X Y S k1 hml hl.1 (c_By_numberAt l D E T κ L f H.size a1 n1 k1 (by omega) z2 (by omega) (by omega) S.1) (ok_k X Y hA KS KR) rfl kl_Va_By_numberAt ks_By_numberAt kx_By_numberAt ki_By_numberAt ini_By ⟨rfl, rfl⟩ hd_By_numberAt ⟨Nat.le_of_ble_eq_true rfl, Nat.le_of_ble_eq_true rfl⟩ rfl (Nat.le_of_ble_eq_true rfl) d_Va_keyAt_14 ⟨Nat.le_of_ble_eq_true rfl, Nat.le_of_ble_eq_true rfl⟩) X Y hA (fun v3 H locs Y p3 => ?_)
  refine lv_lstore_n (lv' := [(3, .long v3), (2, .int (iI z1)), (0, .ref a1), (1, .int (iI a2))]) X.1 X.2.1 d_Va_keyAt_17 rfl hl (by decide) rfl (fun ls hl => ?_)
  refine lv_lload_n X.1 X.2.1 d_Va_keyAt_18 rfl (lv_at hl 0 rfl) ?_
  refine lv_ldc2 (v := (18)) X.1 X.2.1 X.2.2.2.1 (X.2.2.1 _ cl_Va_69) d_Va_keyAt_19 ?_
  refine W.lcmp X.1 X.2.1 d_Va_keyAt_22 ?_
  refine t_u (fun z4 l4 u4 => ?_)
  refine z_if_ne (tgt := 31) X.1 X.2.1 d_Va_keyAt_23 (by decide) ⟨by omega, by omega⟩ (fun h5 => ?_) (fun h5 => ?_)
  · refine lv_bipush (v := iI 16) X.1 X.2.1 d_Va_keyAt_31 (by decide) ?_
    refine lv_istore (lv' := [(5, .int (iI 16)), (3, .long v3), (2, .int (iI z1)), (0, .ref a1), (1, .int (iI a2))]) X.1 X.2.1 d_Va_keyAt_33 hl (by decide) rfl (fun ls hl => ?_)
    refine lv_aload_n X.1 X.2.1 d_Va_keyAt_35 rfl (lv_at hl 3 rfl) ?_
    refine lv_iload_n X.1 X.2.1 d_Va_keyAt_36 rfl (lv_at hl 2 rfl) ?_
    obtain ⟨z6, e6, l6, u6⟩ := t_size S k1
    refine t_ui (t_runV (As := [.int (iI z1)]) (rest := []) (n := 1) X Y S k1 hml hl.1 (c_By_body l D E T κ L f H.size a1 n1 k1 (by omega) z1 (by omega) (by omega) S.1 z6 e6 (by omega) (by omega)) (ok_k X Y hA KS KR) rfl kl_Va_By_body ks_By_body kx_By_body ki_By_body ini_By ⟨rfl, rfl⟩ hd_By_body ⟨Nat.le_of_ble_eq_true rfl, Nat.le_of_ble_eq_true rfl⟩ rfl (Nat.le_of_ble_eq_true rfl) d_Va_keyAt_37 ⟨Nat.le_of_ble_eq_true rfl, Nat.le_of_ble_eq_true rfl⟩) X Y hA (fun z7 H locs Y p7 => ?_)
    obtain ⟨l7, u7, x7⟩ := p7
    refine lv_istore (lv' := [(6, .int (iI z7)), (5, .int (iI 16)), (3, .long v3), (2, .int (iI z1)), (0, .ref a1), (1, .int (iI a2))]) X.1 X.2.1 d_Va_keyAt_40 hl (by decide) rfl (fun ls hl => ?_)
    refine lv_iload_n X.1 X.2.1 d_Va_keyAt_42 rfl (lv_at hl 3 rfl) ?_
    refine z_if_lt (tgt := 79) X.1 X.2.1 d_Va_keyAt_43 (by decide) ⟨by omega, by omega⟩ (fun h8 => ?_) (fun h8 => ?_)
    · refine k_getsN X Y KS KR (by decide) d_Va_keyAt_79 ?_
      refine W.widen (k := 1) (n := 32) (Nat.le_of_ble_eq_true rfl) (Nat.le_of_ble_eq_true rfl) ?_
      exact k_retr hQQ X Y hr (Or.inr ⟨_, rfl⟩) hlk ⟨κ, S, ⟨0, tKey_no⟩⟩ d_Va_keyAt_82
    · refine lv_lload_n X.1 X.2.1 d_Va_keyAt_46 rfl (lv_at hl 2 rfl) ?_
      refine lv_ldc2 (v := (17)) X.1 X.2.1 X.2.2.2.1 (X.2.2.1 _ cl_Va_75) d_Va_keyAt_47 ?_
      refine W.lcmp X.1 X.2.1 d_Va_keyAt_50 ?_
      refine t_u (fun z9 l9 u9 => ?_)
      have J12 : ∀ (z10 : Int) (z11 : Int) (H : Heap) (locs : List Loc) (ls : Array Slot), (16 ≤ z10) → (z10 ≤ 32) → ((-1) ≤ z11) → (z11 ≤ 12420) → pH D cCl (pA L sz) s.heap L f H locs → tS E T (tFr κ L [1, 2, 3, 4, 5, 6, 7, 8, 9, 10, 11, 12, 13, 14, 15, 16, 17, 18, 19, 20, 21] []) κ L f κ L f → lv_has ls 8 [(0, .ref a1), (2, .int (iI z1)), (5, .int (iI z10)), (6, .int (iI z11))] → W p l e (kRm 3 112 1 32) s m AV below meth c H locs 0 0 QQ (F0 m 62 ls []) := by
        intro z10 z11 H locs ls l10 u10 l11 u11 Y S hl
        refine lv_aload_n X.1 X.2.1 d_Va_keyAt_62 rfl (lv_at hl 0 rfl) ?_
        refine lv_iload_n X.1 X.2.1 d_Va_keyAt_63 rfl (lv_at hl 1 rfl) ?_
        refine lv_aload_n X.1 X.2.1 d_Va_keyAt_64 rfl (lv_at hl 0 rfl) ?_
        refine t_get0 (ci := 3) X Y S k1 rfl i_By 1 (by decide) rfl lk_Va_77 (fun _ h9 => h9) d_Va_keyAt_65 e6 ?_
        refine t_ui (t_runV (As := [.int (iI z1), .int (iI z6)]) (rest := []) (n := 2) X Y S k1 hml hl.1 (c_By_stop l D E T κ L f H.size a1 n1 k1 (by omega) z1 (by omega) (by omega) z6 (by omega) (by omega) S.1 z6 e6 (by omega) (by omega)) (ok_k X Y hA KS KR) rfl kl_Va_By_stop ks_By_stop kx_By_stop ki_By_stop ini_By ⟨rfl, rfl⟩ hd_By_stop ⟨Nat.le_of_ble_eq_true rfl, Nat.le_of_ble_eq_true rfl⟩ rfl (Nat.le_of_ble_eq_true rfl) d_Va_keyAt_68 ⟨Nat.le_of_ble_eq_true rfl, Nat.le_of_ble_eq_true rfl⟩) X Y hA (fun z16 H locs Y p16 => ?_)
        obtain ⟨l16, u16, x16⟩ := p16
        refine lv_iload X.1 X.2.1 d_Va_keyAt_71 (lv_at hl 3 rfl) ?_
        refine z_isub X.1 X.2.1 d_Va_keyAt_73 ?_
        refine lv_iload X.1 X.2.1 d_Va_keyAt_74 (lv_at hl 2 rfl) ?_
        refine z_icmp_eq (tgt := 83) X.1 X.2.1 d_Va_keyAt_76 (by decide) ⟨by omega, by omega⟩ ⟨by omega, by omega⟩ (fun h17 => ?_) (fun h17 => ?_)
        · refine lv_iload X.1 X.2.1 d_Va_keyAt_83 (lv_at hl 2 rfl) ?_
          refine t_newB X Y S hA hF0 (N := (z10).toNat) (mx := 32) (by omega) (by omega) (by decide) (Nat.le_of_ble_eq_true rfl) (Nat.le_of_ble_eq_true rfl) d_Va_keyAt_85 (fun q18 κ18 L18 f18 H Y S s18 k18 => ?_)
          have k19 : κ18 a1 = (13, n1) := tLe_k s18.2.2.1 k1
          refine lv_astore (lv' := [(7, .ref q18), (0, .ref a1), (2, .int (iI z1)), (5, .int (iI z10)), (6, .int (iI z11))]) X.1 X.2.1 d_Va_keyAt_87 hl (by decide) rfl (fun ls hl => ?_)
          refine lv_aload_n X.1 X.2.1 d_Va_keyAt_89 rfl (lv_at hl 1 rfl) ?_
          refine t_getrow (ci := 3) X Y S k19 rfl i_By 0 (by decide) rfl lk_Va_86 (fun _ h9 => h9) d_Va_keyAt_90 (fun b20 e20 k20 => ?_)
          refine lv_iload X.1 X.2.1 d_Va_keyAt_93 (lv_at hl 4 rfl) ?_
          refine lv_aload X.1 X.2.1 d_Va_keyAt_95 (lv_at hl 0 rfl) ?_
          refine lv_iconst (v := iI 0) X.1 X.2.1 d_Va_keyAt_97 (by decide) ?_
          refine lv_iload X.1 X.2.1 d_Va_keyAt_98 (lv_at hl 3 rfl) ?_
          refine t_copyB X Y S KS (hml.trans hl.1.symm) kl_Va_copy (Or.inl k20) k18 (by omega) (by omega) (by omega) (by omega) (by omega) (by omega) (by omega) (fun h9 => h9.2.1 (by rw [← (S.2.2.2 _ h9).2, k18]; decide)) (Nat.le_of_ble_eq_true rfl) (Nat.le_of_ble_eq_true rfl) d_Va_keyAt_100 (fun f21 H locs Y S w21 => ?_)
          refine lv_aload X.1 X.2.1 d_Va_keyAt_103 (lv_at hl 0 rfl) ?_
          exact k_retr hQQ X Y hr (Or.inr ⟨_, rfl⟩) hlk ⟨κ18, S, ⟨n18, (Or.inl ⟨k18, by omega⟩)⟩⟩ d_Va_keyAt_105
        · refine k_getsN X Y KS KR (by decide) d_Va_keyAt_79 ?_
          refine W.widen (k := 1) (n := 32) (Nat.le_of_ble_eq_true rfl) (Nat.le_of_ble_eq_true rfl) ?_
          exact k_retr hQQ X Y hr (Or.inr ⟨_, rfl⟩) hlk ⟨κ, S, ⟨0, tKey_no⟩⟩ d_Va_keyAt_82
      refine z_if_eq (tgt := 62) X.1 X.2.1 d_Va_keyAt_51 (by decide) ⟨by omega, by omega⟩ (fun h22 => ?_) (fun h22 => ?_)
      · exact J12 16 z7 _ _ _ (by omega) (by omega) (by omega) (by omega) Y S (lv_sub hl [4, 3, 1, 0] rfl)
      · refine lv_lload_n X.1 X.2.1 d_Va_keyAt_54 rfl (lv_at hl 2 rfl) ?_
        refine lv_ldc2 (v := (18)) X.1 X.2.1 X.2.2.2.1 (X.2.2.1 _ cl_Va_69) d_Va_keyAt_55 ?_
        refine W.lcmp X.1 X.2.1 d_Va_keyAt_58 ?_
        refine t_u (fun z23 l23 u23 => ?_)
        refine z_if_ne (tgt := 79) X.1 X.2.1 d_Va_keyAt_59 (by decide) ⟨by omega, by omega⟩ (fun h24 => ?_) (fun h24 => ?_)
        · refine k_getsN X Y KS KR (by decide) d_Va_keyAt_79 ?_
          refine W.widen (k := 1) (n := 32) (Nat.le_of_ble_eq_true rfl) (Nat.le_of_ble_eq_true rfl) ?_
          exact k_retr hQQ X Y hr (Or.inr ⟨_, rfl⟩) hlk ⟨κ, S, ⟨0, tKey_no⟩⟩ d_Va_keyAt_82
        · exact J12 16 z7 _ _ _ (by omega) (by omega) (by omega) (by omega) Y S (lv_sub hl [4, 3, 1, 0] rfl)
  · refine lv_bipush (v := iI 32) X.1 X.2.1 d_Va_keyAt_26 (by decide) ?_
    refine lv_goto (tgt := 33) X.1 X.2.1 d_Va_keyAt_28 (by decide) ?_
    refine lv_istore (lv' := [(5, .int (iI 32)), (3, .long v3), (2, .int (iI z1)), (0, .ref a1), (1, .int (iI a2))]) X.1 X.2.1 d_Va_keyAt_33 hl (by decide) rfl (fun ls hl => ?_)
    refine lv_aload_n X.1 X.2.1 d_Va_keyAt_35 rfl (lv_at hl 3 rfl) ?_
    refine lv_iload_n X.1 X.2.1 d_Va_keyAt_36 rfl (lv_at hl 2 rfl) ?_
    obtain ⟨z25, e25, l25, u25⟩ := t_size S k1
    refine t_ui (t_runV (As := [.int (iI z1)]) (rest := []) (n := 1) X Y S k1 hml hl.1 (c_By_body l D E T κ L f H.size a1 n1 k1 (by omega) z1 (by omega) (by omega) S.1 z25 e25 (by omega) (by omega)) (ok_k X Y hA KS KR) rfl kl_Va_By_body ks_By_body kx_By_body ki_By_body ini_By ⟨rfl, rfl⟩ hd_By_body ⟨Nat.le_of_ble_eq_true rfl, Nat.le_of_ble_eq_true rfl⟩ rfl (Nat.le_of_ble_eq_true rfl) d_Va_keyAt_37 ⟨Nat.le_of_ble_eq_true rfl, Nat.le_of_ble_eq_true rfl⟩) X Y hA (fun z26 H locs Y p26 => ?_)
    obtain ⟨l26, u26, x26⟩ := p26
    refine lv_istore (lv' := [(6, .int (iI z26)), (5, .int (iI 32)), (3, .long v3), (2, .int (iI z1)), (0, .ref a1), (1, .int (iI a2))]) X.1 X.2.1 d_Va_keyAt_40 hl (by decide) rfl (fun ls hl => ?_)
    refine lv_iload_n X.1 X.2.1 d_Va_keyAt_42 rfl (lv_at hl 3 rfl) ?_
    refine z_if_lt (tgt := 79) X.1 X.2.1 d_Va_keyAt_43 (by decide) ⟨by omega, by omega⟩ (fun h27 => ?_) (fun h27 => ?_)
    · refine k_getsN X Y KS KR (by decide) d_Va_keyAt_79 ?_
      refine W.widen (k := 1) (n := 32) (Nat.le_of_ble_eq_true rfl) (Nat.le_of_ble_eq_true rfl) ?_
      exact k_retr hQQ X Y hr (Or.inr ⟨_, rfl⟩) hlk ⟨κ, S, ⟨0, tKey_no⟩⟩ d_Va_keyAt_82
    · refine lv_lload_n X.1 X.2.1 d_Va_keyAt_46 rfl (lv_at hl 2 rfl) ?_
      refine lv_ldc2 (v := (17)) X.1 X.2.1 X.2.2.2.1 (X.2.2.1 _ cl_Va_75) d_Va_keyAt_47 ?_
      refine W.lcmp X.1 X.2.1 d_Va_keyAt_50 ?_
      refine t_u (fun z28 l28 u28 => ?_)
      have J31 : ∀ (z29 : Int) (z30 : Int) (H : Heap) (locs : List Loc) (ls : Array Slot), (16 ≤ z29) → (z29 ≤ 32) → ((-1) ≤ z30) → (z30 ≤ 12420) → pH D cCl (pA L sz) s.heap L f H locs → tS E T (tFr κ L [1, 2, 3, 4, 5, 6, 7, 8, 9, 10, 11, 12, 13, 14, 15, 16, 17, 18, 19, 20, 21] []) κ L f κ L f → lv_has ls 8 [(0, .ref a1), (2, .int (iI z1)), (5, .int (iI z29)), (6, .int (iI z30))] → W p l e (kRm 3 112 1 32) s m AV below meth c H locs 0 0 QQ (F0 m 62 ls []) := by
        intro z29 z30 H locs ls l29 u29 l30 u30 Y S hl
        refine lv_aload_n X.1 X.2.1 d_Va_keyAt_62 rfl (lv_at hl 0 rfl) ?_
        refine lv_iload_n X.1 X.2.1 d_Va_keyAt_63 rfl (lv_at hl 1 rfl) ?_
        refine lv_aload_n X.1 X.2.1 d_Va_keyAt_64 rfl (lv_at hl 0 rfl) ?_
        refine t_get0 (ci := 3) X Y S k1 rfl i_By 1 (by decide) rfl lk_Va_77 (fun _ h9 => h9) d_Va_keyAt_65 e25 ?_
        refine t_ui (t_runV (As := [.int (iI z1), .int (iI z25)]) (rest := []) (n := 2) X Y S k1 hml hl.1 (c_By_stop l D E T κ L f H.size a1 n1 k1 (by omega) z1 (by omega) (by omega) z25 (by omega) (by omega) S.1 z25 e25 (by omega) (by omega)) (ok_k X Y hA KS KR) rfl kl_Va_By_stop ks_By_stop kx_By_stop ki_By_stop ini_By ⟨rfl, rfl⟩ hd_By_stop ⟨Nat.le_of_ble_eq_true rfl, Nat.le_of_ble_eq_true rfl⟩ rfl (Nat.le_of_ble_eq_true rfl) d_Va_keyAt_68 ⟨Nat.le_of_ble_eq_true rfl, Nat.le_of_ble_eq_true rfl⟩) X Y hA (fun z35 H locs Y p35 => ?_)
        obtain ⟨l35, u35, x35⟩ := p35
        refine lv_iload X.1 X.2.1 d_Va_keyAt_71 (lv_at hl 3 rfl) ?_
        refine z_isub X.1 X.2.1 d_Va_keyAt_73 ?_
        refine lv_iload X.1 X.2.1 d_Va_keyAt_74 (lv_at hl 2 rfl) ?_
        refine z_icmp_eq (tgt := 83) X.1 X.2.1 d_Va_keyAt_76 (by decide) ⟨by omega, by omega⟩ ⟨by omega, by omega⟩ (fun h36 => ?_) (fun h36 => ?_)
        · refine lv_iload X.1 X.2.1 d_Va_keyAt_83 (lv_at hl 2 rfl) ?_
          refine t_newB X Y S hA hF0 (N := (z29).toNat) (mx := 32) (by omega) (by omega) (by decide) (Nat.le_of_ble_eq_true rfl) (Nat.le_of_ble_eq_true rfl) d_Va_keyAt_85 (fun q37 κ37 L37 f37 H Y S s37 k37 => ?_)
          have k38 : κ37 a1 = (13, n1) := tLe_k s37.2.2.1 k1
          refine lv_astore (lv' := [(7, .ref q37), (0, .ref a1), (2, .int (iI z1)), (5, .int (iI z29)), (6, .int (iI z30))]) X.1 X.2.1 d_Va_keyAt_87 hl (by decide) rfl (fun ls hl => ?_)
          refine lv_aload_n X.1 X.2.1 d_Va_keyAt_89 rfl (lv_at hl 1 rfl) ?_
          refine t_getrow (ci := 3) X Y S k38 rfl i_By 0 (by decide) rfl lk_Va_86 (fun _ h9 => h9) d_Va_keyAt_90 (fun b39 e39 k39 => ?_)
          refine lv_iload X.1 X.2.1 d_Va_keyAt_93 (lv_at hl 4 rfl) ?_
          refine lv_aload X.1 X.2.1 d_Va_keyAt_95 (lv_at hl 0 rfl) ?_
          refine lv_iconst (v := iI 0) X.1 X.2.1 d_Va_keyAt_97 (by decide) ?_
          refine lv_iload X.1 X.2.1 d_Va_keyAt_98 (lv_at hl 3 rfl) ?_
          refine t_copyB X Y S KS (hml.trans hl.1.symm) kl_Va_copy (Or.inl k39) k37 (by omega) (by omega) (by omega) (by omega) (by omega) (by omega) (by omega) (fun h9 => h9.2.1 (by rw [← (S.2.2.2 _ h9).2, k37]; decide)) (Nat.le_of_ble_eq_true rfl) (Nat.le_of_ble_eq_true rfl) d_Va_keyAt_100 (fun f40 H locs Y S w40 => ?_)
          refine lv_aload X.1 X.2.1 d_Va_keyAt_103 (lv_at hl 0 rfl) ?_
          exact k_retr hQQ X Y hr (Or.inr ⟨_, rfl⟩) hlk ⟨κ37, S, ⟨n37, (Or.inl ⟨k37, by omega⟩)⟩⟩ d_Va_keyAt_105
        · refine k_getsN X Y KS KR (by decide) d_Va_keyAt_79 ?_
          refine W.widen (k := 1) (n := 32) (Nat.le_of_ble_eq_true rfl) (Nat.le_of_ble_eq_true rfl) ?_
          exact k_retr hQQ X Y hr (Or.inr ⟨_, rfl⟩) hlk ⟨κ, S, ⟨0, tKey_no⟩⟩ d_Va_keyAt_82
      refine z_if_eq (tgt := 62) X.1 X.2.1 d_Va_keyAt_51 (by decide) ⟨by omega, by omega⟩ (fun h41 => ?_) (fun h41 => ?_)
      · exact J31 32 z26 _ _ _ (by omega) (by omega) (by omega) (by omega) Y S (lv_sub hl [4, 3, 1, 0] rfl)
      · refine lv_lload_n X.1 X.2.1 d_Va_keyAt_54 rfl (lv_at hl 2 rfl) ?_
        refine lv_ldc2 (v := (18)) X.1 X.2.1 X.2.2.2.1 (X.2.2.1 _ cl_Va_69) d_Va_keyAt_55 ?_
        refine W.lcmp X.1 X.2.1 d_Va_keyAt_58 ?_
        refine t_u (fun z42 l42 u42 => ?_)
        refine z_if_ne (tgt := 79) X.1 X.2.1 d_Va_keyAt_59 (by decide) ⟨by omega, by omega⟩ (fun h43 => ?_) (fun h43 => ?_)
        · refine k_getsN X Y KS KR (by decide) d_Va_keyAt_79 ?_
          refine W.widen (k := 1) (n := 32) (Nat.le_of_ble_eq_true rfl) (Nat.le_of_ble_eq_true rfl) ?_
          exact k_retr hQQ X Y hr (Or.inr ⟨_, rfl⟩) hlk ⟨κ, S, ⟨0, tKey_no⟩⟩ d_Va_keyAt_82
        · exact J31 32 z26 _ _ _ (by omega) (by omega) (by omega) (by omega) Y S (lv_sub hl [4, 3, 1, 0] rfl)
