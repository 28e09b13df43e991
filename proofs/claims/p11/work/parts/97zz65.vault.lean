set_option maxHeartbeats 4000000 in
set_option maxRecDepth 100000 in
theorem c_Va_sow (l : Launch) (D : va_G) (E : cE) (T : cT) (κ : tK) (L : List Nat) (f : pF) (sz : Nat) (h : Nat) (k0 : κ h = (21, 0)) (a1 n1 : Nat) (k1 : κ a1 = (13, n1)) (x1 : n1 ≤ 12288) (hw : tW E T κ L f) : Met l y_Va_sow (k_Va_sow :: lw_tg) (kRm 1 60 0 0) (va_Pc [.ref h, .ref a1] (kPre D E T L f sz)) (va_Qv (nPv E T [1, 21] κ L f (fun (g : pF) => True)) (cPost D E (pA L sz)) (pA L sz)) 0 0 (pA L sz) := by
  refine k_enter (own := R_Va) (by decide) rfl (Nat.le_of_ble_eq_true rfl) (fun p e s m below meth c ls AV QQ H locs hQQ X Y hA hin hr hlk hml hl KS KR => ?_)
  have hl : lv_has ls 2 [(0, .ref h), (1, .ref a1)] := hl
  have S : tS E T (tFr κ L [1, 21] []) κ L f κ L f := tS_rf hw
  refine lv_aload_n X.1 X.2.1 d_Va_sow_0 rfl (lv_at hl 0 rfl) ?_
  refine lv_bipush (v := iI 64) X.1 X.2.1 d_Va_sow_1 (by decide) ?_
  refine lv_aload_n X.1 X.2.1 d_Va_sow_3 rfl (lv_at hl 1 rfl) ?_
  refine t_gets (ci := 3) X Y S k1 rfl i_By 1 (by decide) rfl lk_Va_77 (fun _ h9 => h9) d_Va_sow_4 (fun z101 e101 l101 u101 => ?_)
  refine z_min X.1 X.2.1 (hml.trans hl.1.symm) X.2.2.2.1 (X.2.2.1 _ kl_Va_mmin) (X.2.2.1 _ ks_mmin) (X.2.2.1 _ ini_Math) (X.2.2.1 _ ki_mmin) (Nat.le_of_ble_eq_true rfl) (Nat.le_of_ble_eq_true rfl) (Nat.le_of_ble_eq_true rfl) (Nat.le_of_ble_eq_true rfl) ⟨by omega, by omega⟩ ⟨by omega, by omega⟩ d_Va_sow_7 (fun z102 l102 u102 x102 => ?_)
  refine t_put (ci := 11) X Y S k0 rfl i_Va t_Va t_Va_ok n_Va 6 (by decide) rfl lk_Va_100 (fun _ h9 => h9) rfl (t_Va_ok 6 (by decide)) rfl rfl ⟨_, rfl, (show (0 : Int) ≤ z102 by omega), (show z102 ≤ (64 : Int) by omega)⟩ (nF_of S k0 (by decide)) d_Va_sow_10 (fun f103 H locs Y S w103 => ?_)
  refine lv_aload_n X.1 X.2.1 d_Va_sow_13 rfl (lv_at hl 1 rfl) ?_
  refine t_getrow (ci := 3) X Y S k1 rfl i_By 0 (by decide) rfl lk_Va_86 (fun _ h9 => h9) d_Va_sow_14 (fun b104 e104 k104 => ?_)
  refine lv_iconst (v := iI 0) X.1 X.2.1 d_Va_sow_17 (by decide) ?_
  refine lv_aload_n X.1 X.2.1 d_Va_sow_18 rfl (lv_at hl 0 rfl) ?_
  refine t_getr (ci := 11) X Y S k0 rfl i_Va 5 (by decide) rfl (k1 := 1) (k2 := 64) rfl rfl lk_Va_42 (fun _ h9 => h9) d_Va_sow_19 (fun b105 e105 k105 => ?_)
  refine lv_iconst (v := iI 0) X.1 X.2.1 d_Va_sow_22 (by decide) ?_
  refine lv_aload_n X.1 X.2.1 d_Va_sow_23 rfl (lv_at hl 0 rfl) ?_
  refine t_get0 (ci := 11) X Y S k0 rfl i_Va 6 (by decide) rfl lk_Va_100 (fun _ h9 => h9) d_Va_sow_24 w103.2.1 ?_
  refine t_copyB X Y S KS (hml.trans hl.1.symm) kl_Va_copy (Or.inl k104) k105 (by omega) (by omega) (by omega) (by omega) (by omega) (by omega) (by omega) (nF_of S k105 (by decide)) (Nat.le_of_ble_eq_true rfl) (Nat.le_of_ble_eq_true rfl) d_Va_sow_27 (fun f106 H locs Y S w106 => ?_)
  refine lv_aload_n X.1 X.2.1 d_Va_sow_30 rfl (lv_at hl 0 rfl) ?_
  refine lv_bipush (v := iI 20) X.1 X.2.1 d_Va_sow_31 (by decide) ?_
  refine t_put (ci := 11) X Y S k0 rfl i_Va t_Va t_Va_ok n_Va 8 (by decide) rfl lk_Va_49 (fun _ h9 => h9) rfl (t_Va_ok 8 (by decide)) rfl rfl ⟨_, rfl, (show (0 : Int) ≤ 20 by omega), (show 20 ≤ (20 : Int) by omega)⟩ (nF_of S k0 (by decide)) d_Va_sow_33 (fun f107 H locs Y S w107 => ?_)
  refine lv_aload_n X.1 X.2.1 d_Va_sow_36 rfl (lv_at hl 0 rfl) ?_
  refine lv_iconst (v := iI 0) X.1 X.2.1 d_Va_sow_37 (by decide) ?_
  refine t_put (ci := 11) X Y S k0 rfl i_Va t_Va t_Va_ok n_Va 9 (by decide) rfl lk_Va_103 (fun _ h9 => h9) rfl (t_Va_ok 9 (by decide)) rfl rfl ⟨_, rfl, (show ((-2147483648) : Int) ≤ 0 by omega), (show 0 ≤ (2147483647 : Int) by omega)⟩ (nF_of S k0 (by decide)) d_Va_sow_38 (fun f108 H locs Y S w108 => ?_)
  exact c_retv hQQ X Y hr hlk ⟨rfl, S, trivial⟩ d_Va_sow_41
set_option maxHeartbeats 4000000 in
set_option maxRecDepth 100000 in
theorem c_Va_coin (l : Launch) (D : va_G) (E : cE) (T : cT) (κ : tK) (L : List Nat) (f : pF) (sz : Nat) (h : Nat) (k0 : κ h = (21, 0)) (hw : tW E T κ L f) : Met l y_Va_coin (k_Va_coin :: lw_tg) (kRm 4 137 0 0) (va_Pc [.ref h] (kPre D E T L f sz)) (va_Qi (nPi E T [1, 2, 3, 4, 13, 16, 21] κ L f (fun (z : Int) (g : pF) => 0 ≤ z ∧ z ≤ 255)) (cPost D E (pA L sz)) (pA L sz)) 0 0 (pA L sz) := by
  refine k_enter (own := R_Va) (by decide) rfl (Nat.le_of_ble_eq_true rfl) (fun p e s m below meth c ls AV QQ H locs hQQ X Y hA hin hr hlk hml hl KS KR => ?_)
  have hl : lv_has ls 2 [(0, .ref h)] := hl
  have S : tS E T (tFr κ L [1, 2, 3, 4, 13, 16, 21] []) κ L f κ L f := tS_rf hw
  refine lv_aload_n X.1 X.2.1 d_Va_coin_0 rfl (lv_at hl 0 rfl) ?_
  refine t_geti (ci := 11) X Y S k0 rfl i_Va 8 (by decide) rfl lk_Va_49 (fun _ h9 => h9) d_Va_coin_1 (fun z101 e101 l101 u101 => ?_)
  refine lv_bipush (v := iI 20) X.1 X.2.1 d_Va_coin_4 (by decide) ?_
  have J104 : ∀ (z103 : Int) (f102 : pF) (H : Heap) (locs : List Loc) (ls : Array Slot), (gF f102 h 8 = .int (iI z103)) → (0 ≤ z103) → (z103 ≤ 19) → pH D cCl (pA L sz) s.heap L f102 H locs → tS E T (tFr κ L [1, 2, 3, 4, 13, 16, 21] []) κ L f κ L f102 → lv_has ls 2 [(0, .ref h)] → W p l e (kRm 4 137 0 0) s m AV below meth c H locs 0 0 QQ (F0 m 106 ls []) := by
    intro z103 f102 H locs ls e103 l103 u103 Y S hl
    refine lv_aload_n X.1 X.2.1 d_Va_coin_106 rfl (lv_at hl 0 rfl) ?_
    refine t_getr (ci := 11) X Y S k0 rfl i_Va 7 (by decide) rfl (k1 := 1) (k2 := 20) rfl rfl lk_Va_46 (fun _ h9 => h9) d_Va_coin_107 (fun b108 e108 k108 => ?_)
    refine lv_aload_n X.1 X.2.1 d_Va_coin_110 rfl (lv_at hl 0 rfl) ?_
    refine t_get0 (ci := 11) X Y S k0 rfl i_Va 8 (by decide) rfl lk_Va_49 (fun _ h9 => h9) d_Va_coin_111 e103 ?_
    refine t_bald X Y S (Or.inl k108) (by omega) (by omega) (by omega) d_Va_coin_114 (fun z109 l109 u109 => ?_)
    refine lv_sipush (v := iI 255) X.1 X.2.1 d_Va_coin_115 (by decide) ?_
    refine z_iand X.1 X.2.1 (by omega) (by omega) d_Va_coin_118 (fun z110 l110 u110 => ?_)
    refine lv_istore_n (lv' := [(1, .int (iI z110)), (0, .ref h)]) X.1 X.2.1 d_Va_coin_119 rfl hl (by decide) rfl (fun ls hl => ?_)
    refine lv_aload_n X.1 X.2.1 d_Va_coin_120 rfl (lv_at hl 1 rfl) ?_
    refine lv_dup X.1 X.2.1 d_Va_coin_121 rfl ?_
    refine t_get0 (ci := 11) X Y S k0 rfl i_Va 8 (by decide) rfl lk_Va_49 (fun _ h9 => h9) d_Va_coin_122 e103 ?_
    refine lv_iconst (v := iI 1) X.1 X.2.1 d_Va_coin_125 (by decide) ?_
    refine z_iadd X.1 X.2.1 d_Va_coin_126 ?_
    refine t_put (ci := 11) X Y S k0 rfl i_Va t_Va t_Va_ok n_Va 8 (by decide) rfl lk_Va_49 (fun _ h9 => h9) rfl (t_Va_ok 8 (by decide)) rfl rfl ⟨_, rfl, (show (0 : Int) ≤ z103 + 1 by omega), (show z103 + 1 ≤ (20 : Int) by omega)⟩ (nF_of S k0 (by decide)) d_Va_coin_127 (fun f111 H locs Y S w111 => ?_)
    refine lv_iload_n X.1 X.2.1 d_Va_coin_130 rfl (lv_at hl 0 rfl) ?_
    exact c_reti hQQ X Y hr hlk ⟨rfl, S, z110, rfl, ⟨by omega, by omega⟩⟩ d_Va_coin_131
  refine z_icmp_lt (tgt := 106) X.1 X.2.1 d_Va_coin_6 (by decide) ⟨by omega, by omega⟩ ⟨by omega, by omega⟩ (fun h112 => ?_) (fun h112 => ?_)
  · exact J104 z101 f _ _ _ e101 (by omega) (by omega) Y S (lv_sub hl [0] rfl)
  · refine lv_aload_n X.1 X.2.1 d_Va_coin_9 rfl (lv_at hl 0 rfl) ?_
    refine t_getr (ci := 11) X Y S k0 rfl i_Va 12 (by decide) rfl (k1 := 13) (k2 := 64) rfl rfl lk_Va_58 (fun _ h9 => h9) d_Va_coin_10 (fun b113 e113 k113 => ?_)
    refine t_nv (t_runV (As := []) (rest := []) (n := 0) X Y S k113 hml hl.1 (c_By_clear l D E T κ L f H.size b113 64 k113 (by omega) S.1) (ok_k X Y hA KS KR) rfl kl_Va_By_clear ks_By_clear kx_By_clear ki_By_clear ini_By ⟨rfl, rfl⟩ hd_By_clear ⟨Nat.le_of_ble_eq_true rfl, Nat.le_of_ble_eq_true rfl⟩ rfl (Nat.le_of_ble_eq_true rfl) d_Va_coin_13 ⟨Nat.le_of_ble_eq_true rfl, Nat.le_of_ble_eq_true rfl⟩) X Y hA S (by decide) (fun f114 H locs Y S s114 p114 => ?_)
    refine lv_aload_n X.1 X.2.1 d_Va_coin_16 rfl (lv_at hl 0 rfl) ?_
    refine t_get0 (ci := 11) X Y S k0 rfl i_Va 12 (by decide) rfl lk_Va_58 (fun _ h9 => h9) d_Va_coin_17 ((gF_same (s114.2.2.2 _ ⟨(t_obj S.1 k0).1, nM_of k0 (by decide), by simp⟩).1 12).trans e113) ?_
    refine lv_aload_n X.1 X.2.1 d_Va_coin_20 rfl (lv_at hl 0 rfl) ?_
    refine t_geti (ci := 11) X Y S k0 rfl i_Va 9 (by decide) rfl lk_Va_103 (fun _ h9 => h9) d_Va_coin_21 (fun z115 e115 l115 u115 => ?_)
    refine t_nv (t_runV (As := [.int (iI z115)]) (rest := []) (n := 1) X Y S k113 hml hl.1 (c_By_putWord l D E T κ L f114 H.size b113 64 k113 (by omega) z115 (by omega) (by omega) S.1) (ok_k X Y hA KS KR) rfl kl_Va_By_putWord ks_By_putWord kx_By_putWord ki_By_putWord ini_By ⟨rfl, rfl⟩ hd_By_putWord ⟨Nat.le_of_ble_eq_true rfl, Nat.le_of_ble_eq_true rfl⟩ rfl (Nat.le_of_ble_eq_true rfl) d_Va_coin_24 ⟨Nat.le_of_ble_eq_true rfl, Nat.le_of_ble_eq_true rfl⟩) X Y hA S (by decide) (fun f116 H locs Y S s116 p116 => ?_)
    refine lv_aload_n X.1 X.2.1 d_Va_coin_27 rfl (lv_at hl 0 rfl) ?_
    refine t_getr (ci := 11) X Y S k0 rfl i_Va 3 (by decide) rfl (k1 := 16) (k2 := 0) rfl rfl lk_Va_31 (fun _ h9 => h9) d_Va_coin_28 (fun b117 e117 k117 => ?_)
    refine lv_aload_n X.1 X.2.1 d_Va_coin_31 rfl (lv_at hl 0 rfl) ?_
    refine t_getr (ci := 11) X Y S k0 rfl i_Va 5 (by decide) rfl (k1 := 1) (k2 := 64) rfl rfl lk_Va_42 (fun _ h9 => h9) d_Va_coin_32 (fun b118 e118 k118 => ?_)
    refine lv_iconst (v := iI 0) X.1 X.2.1 d_Va_coin_35 (by decide) ?_
    refine lv_aload_n X.1 X.2.1 d_Va_coin_36 rfl (lv_at hl 0 rfl) ?_
    refine t_geti (ci := 11) X Y S k0 rfl i_Va 6 (by decide) rfl lk_Va_100 (fun _ h9 => h9) d_Va_coin_37 (fun z119 e119 l119 u119 => ?_)
    refine t_nv (t_runV (As := [.ref b118, .int (iI 0), .int (iI z119)]) (rest := []) (n := 3) X Y S k117 hml hl.1 (c_Ha_setKey l D E T κ L f116 H.size b117 k117 b118 64 (Or.inl k118) (by omega) 0 (by omega) (by omega) z119 (by omega) (by omega) S.1) (ok_k X Y hA KS KR) rfl kl_Va_Ha_setKey ks_Ha_setKey kx_Ha_setKey ki_Ha_setKey ini_Ha ⟨rfl, rfl⟩ hd_Ha_setKey ⟨Nat.le_of_ble_eq_true rfl, Nat.le_of_ble_eq_true rfl⟩ rfl (Nat.le_of_ble_eq_true rfl) d_Va_coin_40 ⟨Nat.le_of_ble_eq_true rfl, Nat.le_of_ble_eq_true rfl⟩) X Y hA S (by decide) (fun f120 H locs Y S s120 p120 => ?_)
    refine lv_aload_n X.1 X.2.1 d_Va_coin_43 rfl (lv_at hl 0 rfl) ?_
    refine t_get0 (ci := 11) X Y S k0 rfl i_Va 3 (by decide) rfl lk_Va_31 (fun _ h9 => h9) d_Va_coin_44 ((gF_same (s120.2.2.2 _ ⟨(t_obj S.1 k0).1, nM_of k0 (by decide), by simp⟩).1 3).trans e117) ?_
    refine t_nv (t_runV (As := []) (rest := []) (n := 0) X Y S k117 hml hl.1 (c_Ha_begin l D E T κ L f120 H.size b117 k117 S.1) (ok_k X Y hA KS KR) rfl kl_Va_Ha_begin ks_Ha_begin kx_Ha_begin ki_Ha_begin ini_Ha ⟨rfl, rfl⟩ hd_Ha_begin ⟨Nat.le_of_ble_eq_true rfl, Nat.le_of_ble_eq_true rfl⟩ rfl (Nat.le_of_ble_eq_true rfl) d_Va_coin_47 ⟨Nat.le_of_ble_eq_true rfl, Nat.le_of_ble_eq_true rfl⟩) X Y hA S (by decide) (fun f121 H locs Y S s121 p121 => ?_)
    have x121 := p121
    obtain ⟨z122, e122, l122, u122⟩ := x121
    refine lv_aload_n X.1 X.2.1 d_Va_coin_50 rfl (lv_at hl 0 rfl) ?_
    refine t_get0 (ci := 11) X Y S k0 rfl i_Va 3 (by decide) rfl lk_Va_31 (fun _ h9 => h9) d_Va_coin_51 ((gF_same (s121.2.2.2 _ ⟨(t_obj S.1 k0).1, nM_of k0 (by decide), by simp⟩).1 3).trans ((gF_same (s120.2.2.2 _ ⟨(t_obj S.1 k0).1, nM_of k0 (by decide), by simp⟩).1 3).trans e117)) ?_
    refine lv_aload_n X.1 X.2.1 d_Va_coin_54 rfl (lv_at hl 0 rfl) ?_
    refine t_get0 (ci := 11) X Y S k0 rfl i_Va 12 (by decide) rfl lk_Va_58 (fun _ h9 => h9) d_Va_coin_55 ((gF_same (s121.2.2.2 _ ⟨(t_obj S.1 k0).1, nM_of k0 (by decide), by simp⟩).1 12).trans ((gF_same (s120.2.2.2 _ ⟨(t_obj S.1 k0).1, nM_of k0 (by decide), by simp⟩).1 12).trans ((gF_same (s116.2.2.2 _ ⟨(t_obj S.1 k0).1, nM_of k0 (by decide), by simp⟩).1 12).trans ((gF_same (s114.2.2.2 _ ⟨(t_obj S.1 k0).1, nM_of k0 (by decide), by simp⟩).1 12).trans e113)))) ?_
    refine t_getrow (ci := 3) X Y S k113 rfl i_By 0 (by decide) rfl lk_Va_86 (fun _ h9 => h9) d_Va_coin_58 (fun b123 e123 k123 => ?_)
    refine lv_iconst (v := iI 0) X.1 X.2.1 d_Va_coin_61 (by decide) ?_
    refine lv_iconst (v := iI 4) X.1 X.2.1 d_Va_coin_62 (by decide) ?_
    refine t_nv (t_runV (As := [.ref b123, .int (iI 0), .int (iI 4)]) (rest := []) (n := 3) X Y S k117 hml hl.1 (c_Ha_add l D E T κ L f121 H.size b117 k117 b123 64 (Or.inl k123) (by omega) 0 (by omega) (by omega) 4 (by omega) (by omega) S.1 z122 e122 (by omega) (by omega)) (ok_k X Y hA KS KR) rfl kl_Va_Ha_add ks_Ha_add kx_Ha_add ki_Ha_add ini_Ha ⟨rfl, rfl⟩ hd_Ha_add ⟨Nat.le_of_ble_eq_true rfl, Nat.le_of_ble_eq_true rfl⟩ rfl (Nat.le_of_ble_eq_true rfl) d_Va_coin_63 ⟨Nat.le_of_ble_eq_true rfl, Nat.le_of_ble_eq_true rfl⟩) X Y hA S (by decide) (fun f124 H locs Y S s124 p124 => ?_)
    have x124 := p124
    obtain ⟨z125, e125, l125, u125⟩ := x124
    refine lv_aload_n X.1 X.2.1 d_Va_coin_66 rfl (lv_at hl 0 rfl) ?_
    refine t_get0 (ci := 11) X Y S k0 rfl i_Va 3 (by decide) rfl lk_Va_31 (fun _ h9 => h9) d_Va_coin_67 ((gF_same (s124.2.2.2 _ ⟨(t_obj S.1 k0).1, nM_of k0 (by decide), by simp⟩).1 3).trans ((gF_same (s121.2.2.2 _ ⟨(t_obj S.1 k0).1, nM_of k0 (by decide), by simp⟩).1 3).trans ((gF_same (s120.2.2.2 _ ⟨(t_obj S.1 k0).1, nM_of k0 (by decide), by simp⟩).1 3).trans e117))) ?_
    refine t_nv (t_runV (As := []) (rest := []) (n := 0) X Y S k117 hml hl.1 (c_Ha_finish l D E T κ L f124 H.size b117 k117 S.1 z125 e125 (by omega) (by omega)) (ok_k X Y hA KS KR) rfl kl_Va_Ha_finish ks_Ha_finish kx_Ha_finish ki_Ha_finish ini_Ha ⟨rfl, rfl⟩ hd_Ha_finish ⟨Nat.le_of_ble_eq_true rfl, Nat.le_of_ble_eq_true rfl⟩ rfl (Nat.le_of_ble_eq_true rfl) d_Va_coin_70 ⟨Nat.le_of_ble_eq_true rfl, Nat.le_of_ble_eq_true rfl⟩) X Y hA S (by decide) (fun f126 H locs Y S s126 p126 => ?_)
    refine lv_aload_n X.1 X.2.1 d_Va_coin_73 rfl (lv_at hl 0 rfl) ?_
    refine t_get0 (ci := 11) X Y S k0 rfl i_Va 3 (by decide) rfl lk_Va_31 (fun _ h9 => h9) d_Va_coin_74 ((gF_same (s126.2.2.2 _ ⟨(t_obj S.1 k0).1, nM_of k0 (by decide), by simp⟩).1 3).trans ((gF_same (s124.2.2.2 _ ⟨(t_obj S.1 k0).1, nM_of k0 (by decide), by simp⟩).1 3).trans ((gF_same (s121.2.2.2 _ ⟨(t_obj S.1 k0).1, nM_of k0 (by decide), by simp⟩).1 3).trans ((gF_same (s120.2.2.2 _ ⟨(t_obj S.1 k0).1, nM_of k0 (by decide), by simp⟩).1 3).trans e117)))) ?_
    refine t_getr (ci := 6) X Y S k117 rfl i_Ha 7 (by decide) rfl (k1 := 1) (k2 := 20) rfl rfl lk_Va_125 (fun _ h9 => h9) d_Va_coin_77 (fun b127 e127 k127 => ?_)
    refine lv_iconst (v := iI 0) X.1 X.2.1 d_Va_coin_80 (by decide) ?_
    refine lv_aload_n X.1 X.2.1 d_Va_coin_81 rfl (lv_at hl 0 rfl) ?_
    refine t_getr (ci := 11) X Y S k0 rfl i_Va 7 (by decide) rfl (k1 := 1) (k2 := 20) rfl rfl lk_Va_46 (fun _ h9 => h9) d_Va_coin_82 (fun b128 e128 k128 => ?_)
    refine lv_iconst (v := iI 0) X.1 X.2.1 d_Va_coin_85 (by decide) ?_
    refine lv_bipush (v := iI 20) X.1 X.2.1 d_Va_coin_86 (by decide) ?_
    refine t_copyB X Y S KS (hml.trans hl.1.symm) kl_Va_copy (Or.inl k127) k128 (by omega) (by omega) (by omega) (by omega) (by omega) (by omega) (by omega) (nF_of S k128 (by decide)) (Nat.le_of_ble_eq_true rfl) (Nat.le_of_ble_eq_true rfl) d_Va_coin_88 (fun f129 H locs Y S w129 => ?_)
    refine lv_aload_n X.1 X.2.1 d_Va_coin_91 rfl (lv_at hl 0 rfl) ?_
    refine lv_iconst (v := iI 0) X.1 X.2.1 d_Va_coin_92 (by decide) ?_
    refine t_put (ci := 11) X Y S k0 rfl i_Va t_Va t_Va_ok n_Va 8 (by decide) rfl lk_Va_49 (fun _ h9 => h9) rfl (t_Va_ok 8 (by decide)) rfl rfl ⟨_, rfl, (show (0 : Int) ≤ 0 by omega), (show 0 ≤ (20 : Int) by omega)⟩ (nF_of S k0 (by decide)) d_Va_coin_93 (fun f130 H locs Y S w130 => ?_)
    refine lv_aload_n X.1 X.2.1 d_Va_coin_96 rfl (lv_at hl 0 rfl) ?_
    refine lv_dup X.1 X.2.1 d_Va_coin_97 rfl ?_
    refine t_get0 (ci := 11) X Y S k0 rfl i_Va 9 (by decide) rfl lk_Va_103 (fun _ h9 => h9) d_Va_coin_98 ((gF_put w130 (Or.inr (by decide))).trans ((gF_same (w129 _ (k_ne k0 k128 (by decide))) 9).trans ((gF_same (s126.2.2.2 _ ⟨(t_obj S.1 k0).1, nM_of k0 (by decide), by simp⟩).1 9).trans ((gF_same (s124.2.2.2 _ ⟨(t_obj S.1 k0).1, nM_of k0 (by decide), by simp⟩).1 9).trans ((gF_same (s121.2.2.2 _ ⟨(t_obj S.1 k0).1, nM_of k0 (by decide), by simp⟩).1 9).trans ((gF_same (s120.2.2.2 _ ⟨(t_obj S.1 k0).1, nM_of k0 (by decide), by simp⟩).1 9).trans ((gF_same (s116.2.2.2 _ ⟨(t_obj S.1 k0).1, nM_of k0 (by decide), by simp⟩).1 9).trans e115))))))) ?_
    refine lv_iconst (v := iI 1) X.1 X.2.1 d_Va_coin_101 (by decide) ?_
    refine lv_iadd X.1 X.2.1 d_Va_coin_102 ?_
    refine t_u (fun z131 l131 u131 => ?_)
    refine t_put (ci := 11) X Y S k0 rfl i_Va t_Va t_Va_ok n_Va 9 (by decide) rfl lk_Va_103 (fun _ h9 => h9) rfl (t_Va_ok 9 (by decide)) rfl rfl ⟨_, rfl, (show ((-2147483648) : Int) ≤ z131 by omega), (show z131 ≤ (2147483647 : Int) by omega)⟩ (nF_of S k0 (by decide)) d_Va_coin_103 (fun f132 H locs Y S w132 => ?_)
    exact J104 0 f132 _ _ _ ((gF_put w132 (Or.inr (by decide))).trans w130.2.1) (by omega) (by omega) Y S (lv_sub hl [0] rfl)
set_option maxHeartbeats 4000000 in
set_option maxRecDepth 100000 in
theorem c_Va_freshNumber (l : Launch) (D : va_G) (E : cE) (T : cT) (κ : tK) (L : List Nat) (f : pF) (sz : Nat) (h : Nat) (k0 : κ h = (21, 0)) (hw : tW E T κ L f) : Met l y_Va_freshNumber (k_Va_freshNumber :: lw_tg) (kRm 5 158 0 0) (va_Pc [.ref h] (kPre D E T L f sz)) (va_Qi (nPi E T [1, 2, 3, 4, 13, 16, 21] κ L f (fun (z : Int) (g : pF) => (-2147483648) ≤ z ∧ z ≤ 2147483647)) (cPost D E (pA L sz)) (pA L sz)) 0 0 (pA L sz) := by
  refine k_enter (own := R_Va) (by decide) rfl (Nat.le_of_ble_eq_true rfl) (fun p e s m below meth c ls AV QQ H locs hQQ X Y hA hin hr hlk hml hl KS KR => ?_)
  have hl : lv_has ls 3 [(0, .ref h)] := hl
  have S : tS E T (tFr κ L [1, 2, 3, 4, 13, 16, 21] []) κ L f κ L f := tS_rf hw
  refine lv_iconst (v := iI 0) X.1 X.2.1 d_Va_freshNumber_0 (by decide) ?_
  refine lv_istore_n (lv' := [(1, .int (iI 0)), (0, .ref h)]) X.1 X.2.1 d_Va_freshNumber_1 rfl hl (by decide) rfl (fun ls hl => ?_)
  refine lv_iconst (v := iI 0) X.1 X.2.1 d_Va_freshNumber_2 (by decide) ?_
  have J104 : ∀ (n106 : Nat) (z102 : Int) (z103 : Int) (f101 : pF) (H : Heap) (locs : List Loc) (ls : Array Slot), (4 - z103).toNat = n106 → ((-2147483648) ≤ z102) → (z102 ≤ 2147483647) → (0 ≤ z103) → (z103 ≤ 4) → pH D cCl (pA L sz) s.heap L f101 H locs → tS E T (tFr κ L [1, 2, 3, 4, 13, 16, 21] []) κ L f κ L f101 → lv_has ls 3 [(0, .ref h), (1, .int (iI z102)), (2, .int (iI z103))] → W p l e (kRm 5 158 0 0) s m AV below meth c H locs 0 0 QQ (F0 m 4 ls []) := by
    intro n106
    induction n106 using Nat.strongRecOn with
    | ind n106 ih105 =>
      intro z102 z103 f101 H locs ls hm107 l102 u102 l103 u103 Y S hl
      refine lv_iload_n X.1 X.2.1 d_Va_freshNumber_4 rfl (lv_at hl 2 rfl) ?_
      refine lv_iconst (v := iI 4) X.1 X.2.1 d_Va_freshNumber_5 (by decide) ?_
      refine z_icmp_ge (tgt := 25) X.1 X.2.1 d_Va_freshNumber_6 (by decide) ⟨by omega, by omega⟩ ⟨by omega, by omega⟩ (fun h108 => ?_) (fun h108 => ?_)
      · refine lv_iload_n X.1 X.2.1 d_Va_freshNumber_25 rfl (lv_at hl 1 rfl) ?_
        exact c_reti hQQ X Y hr hlk ⟨rfl, S, z102, rfl, ⟨by omega, by omega⟩⟩ d_Va_freshNumber_26
      · refine lv_iload_n X.1 X.2.1 d_Va_freshNumber_9 rfl (lv_at hl 1 rfl) ?_
        refine lv_bipush (v := iI 8) X.1 X.2.1 d_Va_freshNumber_10 (by decide) ?_
        refine lv_ishl X.1 X.2.1 d_Va_freshNumber_12 ?_
        refine t_u (fun z109 l109 u109 => ?_)
        refine lv_aload_n X.1 X.2.1 d_Va_freshNumber_13 rfl (lv_at hl 0 rfl) ?_
        refine t_ni (t_runV (As := []) (rest := [.int (iI z109)]) (n := 0) X Y S k0 hml hl.1 (c_Va_coin l D E T κ L f101 H.size h k0 S.1) (ok_k X Y hA KS KR) rfl kl_Va_Va_coin ks_Va_coin kx_Va_coin ki_Va_coin ini_Va ⟨rfl, rfl⟩ hd_Va_coin ⟨Nat.le_of_ble_eq_true rfl, Nat.le_of_ble_eq_true rfl⟩ rfl (Nat.le_of_ble_eq_true rfl) d_Va_freshNumber_14 ⟨Nat.le_of_ble_eq_true rfl, Nat.le_of_ble_eq_true rfl⟩) X Y hA S (by decide) (fun z110 f110 H locs Y S s110 p110 => ?_)
        obtain ⟨l110, u110⟩ := p110
        refine lv_ior X.1 X.2.1 d_Va_freshNumber_17 ?_
        refine t_u (fun z111 l111 u111 => ?_)
        refine lv_istore_n (lv' := [(1, .int (iI z111)), (0, .ref h), (2, .int (iI z103))]) X.1 X.2.1 d_Va_freshNumber_18 rfl hl (by decide) rfl (fun ls hl => ?_)
        refine lv_iinc (v := iI (z103 + 1)) (lv' := [(2, .int (iI (z103 + 1))), (1, .int (iI z111)), (0, .ref h)]) X.1 X.2.1 d_Va_freshNumber_19 hl (k := 2) rfl ((iI_add _ _).trans (congrArg iI (by omega))) (by decide) rfl (fun ls hl => ?_)
        refine lv_goto (tgt := 4) X.1 X.2.1 d_Va_freshNumber_22 (by decide) ?_
        exact ih105 ((4 - (z103 + 1)).toNat) (by omega) z111 (z103 + 1) f110 _ _ _ rfl (by omega) (by omega) (by omega) (by omega) Y S (lv_sub hl [2, 1, 0] rfl)
  refine lv_istore_n (lv' := [(2, .int (iI 0)), (1, .int (iI 0)), (0, .ref h)]) X.1 X.2.1 d_Va_freshNumber_3 rfl hl (by decide) rfl (fun ls hl => ?_)
  exact J104 _ 0 0 f _ _ _ rfl (by omega) (by omega) (by omega) (by omega) Y S (lv_sub hl [2, 1, 0] rfl)
set_option maxHeartbeats 4000000 in
set_option maxRecDepth 100000 in
theorem c_Va_freshKey (l : Launch) (D : va_G) (E : cE) (T : cT) (κ : tK) (L : List Nat) (f : pF) (sz : Nat) (h : Nat) (k0 : κ h = (21, 0)) (a1 : Int) (l_a1 : (-2147483648) ≤ a1) (u_a1 : a1 ≤ 2147483647) (hw : tW E T κ L f) : Met l y_Va_freshKey (k_Va_freshKey :: lw_tg) (kRm 5 158 1 32) (va_Pc [.ref h, .int (iI a1)] (kPre D E T L f sz)) (va_Qr (fun _ : cU => True) (fun u r t => aPr E T [1, 2, 3, 4, 13, 16, 21] [] κ L f (fun (z : Nat) (k : tK) (g : pF) => (∃ n : Nat, tKey T k z n)) r u ∧ cPost D E (pA L sz) u t) (pA L sz)) 1 32 (pA L sz) := by
  refine k_enter (own := R_Va) (by decide) rfl (Nat.le_of_ble_eq_true rfl) (fun p e s m below meth c ls AV QQ H locs hQQ X Y hA hin hr hlk hml hl KS KR => ?_)
  have hl : lv_has ls 4 [(0, .ref h), (1, .int (iI a1))] := hl
  have S : tS E T (tFr κ L [1, 2, 3, 4, 13, 16, 21] []) κ L f κ L f := tS_rf hw
  have hF0 : ∀ b, tFr κ L [1, 2, 3, 4, 13, 16, 21] [] b → b ∈ L := fun b h9 => h9.1
  refine lv_iload_n X.1 X.2.1 d_Va_freshKey_0 rfl (lv_at hl 1 rfl) ?_
  refine lv_bipush (v := iI 18) X.1 X.2.1 d_Va_freshKey_1 (by decide) ?_
  refine z_icmp_ne (tgt := 11) X.1 X.2.1 d_Va_freshKey_3 (by decide) ⟨by omega, by omega⟩ ⟨by omega, by omega⟩ (fun h101 => ?_) (fun h101 => ?_)
  · refine lv_bipush (v := iI 16) X.1 X.2.1 d_Va_freshKey_11 (by decide) ?_
    refine t_newB X Y S hA hF0 (N := 16) (mx := 16) (by omega) (by omega) (by decide) (Nat.le_of_ble_eq_true rfl) (Nat.le_of_ble_eq_true rfl) d_Va_freshKey_13 (fun q102 κ102 L102 f102 H Y S s102 k102 => ?_)
    have k103 : κ102 h = (21, 0) := tLe_k s102.2.2.1 k0
    refine lv_astore_n (lv' := [(2, .ref q102), (0, .ref h), (1, .int (iI a1))]) X.1 X.2.1 d_Va_freshKey_15 rfl hl (by decide) rfl (fun ls hl => ?_)
    refine lv_iconst (v := iI 0) X.1 X.2.1 d_Va_freshKey_16 (by decide) ?_
    have J106 : ∀ (n108 : Nat) (z105 : Int) (f104 : pF) (H : Heap) (locs : List Loc) (ls : Array Slot), (16 - z105).toNat = n108 → (0 ≤ z105) → (z105 ≤ 16) → pH D cCl (pA L sz) s.heap L102 f104 H locs → tS E T (tFr κ L [1, 2, 3, 4, 13, 16, 21] []) κ L f κ102 L102 f104 → lv_has ls 4 [(0, .ref h), (2, .ref q102), (3, .int (iI z105))] → W p l e (kRm 5 158 1 32) s m AV below meth c H locs 1 16 QQ (F0 m 18 ls []) := by
      intro n108
      induction n108 using Nat.strongRecOn with
      | ind n108 ih107 =>
        intro z105 f104 H locs ls hm109 l105 u105 Y S hl
        refine lv_iload_n X.1 X.2.1 d_Va_freshKey_18 rfl (lv_at hl 2 rfl) ?_
        refine lv_aload_n X.1 X.2.1 d_Va_freshKey_19 rfl (lv_at hl 1 rfl) ?_
        refine t_alen X Y S KS (Or.inl k102) (by omega) d_Va_freshKey_20 ?_
        refine z_icmp_ge (tgt := 38) X.1 X.2.1 d_Va_freshKey_21 (by decide) ⟨by omega, by omega⟩ ⟨by omega, by omega⟩ (fun h110 => ?_) (fun h110 => ?_)
        · refine lv_aload_n X.1 X.2.1 d_Va_freshKey_38 rfl (lv_at hl 1 rfl) ?_
          refine W.widen (k := 1) (n := 32) (Nat.le_of_ble_eq_true rfl) (Nat.le_of_ble_eq_true rfl) ?_
          exact k_retr hQQ X Y hr (Or.inr ⟨_, rfl⟩) hlk ⟨κ102, S, ⟨16, (Or.inl ⟨k102, by omega⟩)⟩⟩ d_Va_freshKey_39
        · refine lv_aload_n X.1 X.2.1 d_Va_freshKey_24 rfl (lv_at hl 1 rfl) ?_
          refine lv_iload_n X.1 X.2.1 d_Va_freshKey_25 rfl (lv_at hl 2 rfl) ?_
          refine lv_aload_n X.1 X.2.1 d_Va_freshKey_26 rfl (lv_at hl 0 rfl) ?_
          refine t_ni (t_runV (As := []) (rest := [.int (iI z105), .ref q102]) (n := 0) X Y S k103 hml hl.1 (c_Va_coin l D E T κ102 L102 f104 H.size h k103 S.1) (ok_k X Y hA KS KR) rfl kl_Va_Va_coin ks_Va_coin kx_Va_coin ki_Va_coin ini_Va ⟨rfl, rfl⟩ hd_Va_coin ⟨Nat.le_of_ble_eq_true rfl, Nat.le_of_ble_eq_true rfl⟩ rfl (Nat.le_of_ble_eq_true rfl) d_Va_freshKey_27 ⟨Nat.le_of_ble_eq_true rfl, Nat.le_of_ble_eq_true rfl⟩) X Y hA S (by decide) (fun z111 f111 H locs Y S s111 p111 => ?_)
          obtain ⟨l111, u111⟩ := p111
          refine lv_i2b X.1 X.2.1 d_Va_freshKey_30 rfl ?_
          refine t_u (fun z112 l112 u112 => ?_)
          refine t_bast X Y S k102 (by omega) (by omega) (by omega) (nF_of S k102 (by decide)) d_Va_freshKey_31 (fun f113 H locs Y S w113 => ?_)
          refine lv_iinc (v := iI (z105 + 1)) (lv' := [(3, .int (iI (z105 + 1))), (0, .ref h), (2, .ref q102)]) X.1 X.2.1 d_Va_freshKey_32 hl (k := 2) rfl ((iI_add _ _).trans (congrArg iI (by omega))) (by decide) rfl (fun ls hl => ?_)
          refine lv_goto (tgt := 18) X.1 X.2.1 d_Va_freshKey_35 (by decide) ?_
          exact ih107 ((16 - (z105 + 1)).toNat) (by omega) (z105 + 1) f113 _ _ _ rfl (by omega) (by omega) Y S (lv_sub hl [1, 2, 0] rfl)
    refine lv_istore_n (lv' := [(3, .int (iI 0)), (2, .ref q102), (0, .ref h), (1, .int (iI a1))]) X.1 X.2.1 d_Va_freshKey_17 rfl hl (by decide) rfl (fun ls hl => ?_)
    exact J106 _ 0 f102 _ _ _ rfl (by omega) (by omega) Y S (lv_sub hl [2, 1, 0] rfl)
  · refine lv_bipush (v := iI 32) X.1 X.2.1 d_Va_freshKey_6 (by decide) ?_
    refine lv_goto (tgt := 13) X.1 X.2.1 d_Va_freshKey_8 (by decide) ?_
    refine t_newB X Y S hA hF0 (N := 32) (mx := 32) (by omega) (by omega) (by decide) (Nat.le_of_ble_eq_true rfl) (Nat.le_of_ble_eq_true rfl) d_Va_freshKey_13 (fun q114 κ114 L114 f114 H Y S s114 k114 => ?_)
    have k115 : κ114 h = (21, 0) := tLe_k s114.2.2.1 k0
    refine lv_astore_n (lv' := [(2, .ref q114), (0, .ref h), (1, .int (iI a1))]) X.1 X.2.1 d_Va_freshKey_15 rfl hl (by decide) rfl (fun ls hl => ?_)
    refine lv_iconst (v := iI 0) X.1 X.2.1 d_Va_freshKey_16 (by decide) ?_
    have J118 : ∀ (n120 : Nat) (z117 : Int) (f116 : pF) (H : Heap) (locs : List Loc) (ls : Array Slot), (32 - z117).toNat = n120 → (0 ≤ z117) → (z117 ≤ 32) → pH D cCl (pA L sz) s.heap L114 f116 H locs → tS E T (tFr κ L [1, 2, 3, 4, 13, 16, 21] []) κ L f κ114 L114 f116 → lv_has ls 4 [(0, .ref h), (2, .ref q114), (3, .int (iI z117))] → W p l e (kRm 5 158 1 32) s m AV below meth c H locs 1 32 QQ (F0 m 18 ls []) := by
      intro n120
      induction n120 using Nat.strongRecOn with
      | ind n120 ih119 =>
        intro z117 f116 H locs ls hm121 l117 u117 Y S hl
        refine lv_iload_n X.1 X.2.1 d_Va_freshKey_18 rfl (lv_at hl 2 rfl) ?_
        refine lv_aload_n X.1 X.2.1 d_Va_freshKey_19 rfl (lv_at hl 1 rfl) ?_
        refine t_alen X Y S KS (Or.inl k114) (by omega) d_Va_freshKey_20 ?_
        refine z_icmp_ge (tgt := 38) X.1 X.2.1 d_Va_freshKey_21 (by decide) ⟨by omega, by omega⟩ ⟨by omega, by omega⟩ (fun h122 => ?_) (fun h122 => ?_)
        · refine lv_aload_n X.1 X.2.1 d_Va_freshKey_38 rfl (lv_at hl 1 rfl) ?_
          exact k_retr hQQ X Y hr (Or.inr ⟨_, rfl⟩) hlk ⟨κ114, S, ⟨32, (Or.inl ⟨k114, by omega⟩)⟩⟩ d_Va_freshKey_39
        · refine lv_aload_n X.1 X.2.1 d_Va_freshKey_24 rfl (lv_at hl 1 rfl) ?_
          refine lv_iload_n X.1 X.2.1 d_Va_freshKey_25 rfl (lv_at hl 2 rfl) ?_
          refine lv_aload_n X.1 X.2.1 d_Va_freshKey_26 rfl (lv_at hl 0 rfl) ?_
          refine t_ni (t_runV (As := []) (rest := [.int (iI z117), .ref q114]) (n := 0) X Y S k115 hml hl.1 (c_Va_coin l D E T κ114 L114 f116 H.size h k115 S.1) (ok_k X Y hA KS KR) rfl kl_Va_Va_coin ks_Va_coin kx_Va_coin ki_Va_coin ini_Va ⟨rfl, rfl⟩ hd_Va_coin ⟨Nat.le_of_ble_eq_true rfl, Nat.le_of_ble_eq_true rfl⟩ rfl (Nat.le_of_ble_eq_true rfl) d_Va_freshKey_27 ⟨Nat.le_of_ble_eq_true rfl, Nat.le_of_ble_eq_true rfl⟩) X Y hA S (by decide) (fun z123 f123 H locs Y S s123 p123 => ?_)
          obtain ⟨l123, u123⟩ := p123
          refine lv_i2b X.1 X.2.1 d_Va_freshKey_30 rfl ?_
          refine t_u (fun z124 l124 u124 => ?_)
          refine t_bast X Y S k114 (by omega) (by omega) (by omega) (nF_of S k114 (by decide)) d_Va_freshKey_31 (fun f125 H locs Y S w125 => ?_)
          refine lv_iinc (v := iI (z117 + 1)) (lv' := [(3, .int (iI (z117 + 1))), (0, .ref h), (2, .ref q114)]) X.1 X.2.1 d_Va_freshKey_32 hl (k := 2) rfl ((iI_add _ _).trans (congrArg iI (by omega))) (by decide) rfl (fun ls hl => ?_)
          refine lv_goto (tgt := 18) X.1 X.2.1 d_Va_freshKey_35 (by decide) ?_
          exact ih119 ((32 - (z117 + 1)).toNat) (by omega) (z117 + 1) f125 _ _ _ rfl (by omega) (by omega) Y S (lv_sub hl [1, 2, 0] rfl)
    refine lv_istore_n (lv' := [(3, .int (iI 0)), (2, .ref q114), (0, .ref h), (1, .int (iI a1))]) X.1 X.2.1 d_Va_freshKey_17 rfl hl (by decide) rfl (fun ls hl => ?_)
    exact J118 _ 0 f114 _ _ _ rfl (by omega) (by omega) Y S (lv_sub hl [2, 1, 0] rfl)
set_option maxHeartbeats 4000000 in
set_option maxRecDepth 100000 in
theorem c_Va_putSalt (l : Launch) (D : va_G) (E : cE) (T : cT) (κ : tK) (L : List Nat) (f : pF) (sz : Nat) (a1 n1 : Nat) (k1 : κ a1 = (13, n1)) (x1 : n1 ≤ 12288) (a2 n2 : Nat) (k2 : κ a2 = (13, n2)) (x2 : n2 ≤ 12288) (hw : tW E T κ L f) : Met l y_Va_putSalt (k_Va_putSalt :: lw_tg) (kRm 5 112 0 0) (va_Pc [.ref a1, .ref a2] (kPre D E T L f sz)) (va_Qv (nPv E T [1, 13] κ L f (fun (g : pF) => True)) (cPost D E (pA L sz)) (pA L sz)) 0 0 (pA L sz) := by
  refine k_enter (own := R_Va) (by decide) rfl (Nat.le_of_ble_eq_true rfl) (fun p e s m below meth c ls AV QQ H locs hQQ X Y hA hin hr hlk hml hl KS KR => ?_)
  have hl : lv_has ls 6 [(0, .ref a1), (1, .ref a2)] := hl
  have S : tS E T (tFr κ L [1, 13] []) κ L f κ L f := tS_rf hw
  refine lv_aload_n X.1 X.2.1 d_Va_putSalt_0 rfl (lv_at hl 0 rfl) ?_
  refine k_ldcS (i := 2) X KR (by decide) ⟨by decide, by decide⟩ d_Va_putSalt_1 ?_
  refine t_nv (t_runV (As := [.ref ((T.2.1 2))]) (rest := []) (n := 1) X Y S k1 hml hl.1 (c_By_putLetters l D E T κ L f H.size a1 n1 k1 (by omega) 2 (show 2 < nY by decide) S.1) (ok_k X Y hA KS KR) rfl kl_Va_By_putLetters ks_By_putLetters kx_By_putLetters ki_By_putLetters ini_By ⟨rfl, rfl⟩ hd_By_putLetters ⟨Nat.le_of_ble_eq_true rfl, Nat.le_of_ble_eq_true rfl⟩ rfl (Nat.le_of_ble_eq_true rfl) d_Va_putSalt_3 ⟨Nat.le_of_ble_eq_true rfl, Nat.le_of_ble_eq_true rfl⟩) X Y hA S (by decide) (fun f101 H locs Y S s101 p101 => ?_)
  refine lv_iconst (v := iI 0) X.1 X.2.1 d_Va_putSalt_6 (by decide) ?_
  refine lv_istore_n (lv' := [(2, .int (iI 0)), (0, .ref a1), (1, .ref a2)]) X.1 X.2.1 d_Va_putSalt_7 rfl hl (by decide) rfl (fun ls hl => ?_)
  refine lv_iconst (v := iI 0) X.1 X.2.1 d_Va_putSalt_8 (by decide) ?_
  have J105 : ∀ (n107 : Nat) (z103 : Int) (z104 : Int) (f102 : pF) (H : Heap) (locs : List Loc) (ls : Array Slot), (2 - z104).toNat = n107 → ((-1) ≤ z103) → (z103 ≤ 12288) → (0 ≤ z104) → (z104 ≤ 2) → pH D cCl (pA L sz) s.heap L f102 H locs → tS E T (tFr κ L [1, 13] []) κ L f κ L f102 → lv_has ls 6 [(0, .ref a1), (1, .ref a2), (2, .int (iI z103)), (3, .int (iI z104))] → W p l e (kRm 5 112 0 0) s m AV below meth c H locs 0 0 QQ (F0 m 10 ls []) := by
    intro n107
    induction n107 using Nat.strongRecOn with
    | ind n107 ih106 =>
      intro z103 z104 f102 H locs ls hm108 l103 u103 l104 u104 Y S hl
      refine lv_iload_n X.1 X.2.1 d_Va_putSalt_10 rfl (lv_at hl 3 rfl) ?_
      refine lv_iconst (v := iI 2) X.1 X.2.1 d_Va_putSalt_11 (by decide) ?_
      refine z_icmp_ge (tgt := 65) X.1 X.2.1 d_Va_putSalt_12 (by decide) ⟨by omega, by omega⟩ ⟨by omega, by omega⟩ (fun h109 => ?_) (fun h109 => ?_)
      · exact c_retv hQQ X Y hr hlk ⟨rfl, S, trivial⟩ d_Va_putSalt_65
      · refine lv_iload_n X.1 X.2.1 d_Va_putSalt_15 rfl (lv_at hl 2 rfl) ?_
        refine lv_aload_n X.1 X.2.1 d_Va_putSalt_16 rfl (lv_at hl 1 rfl) ?_
        refine t_gets (ci := 3) X Y S k2 rfl i_By 1 (by decide) rfl lk_Va_77 (fun _ h9 => h9) d_Va_putSalt_17 (fun z110 e110 l110 u110 => ?_)
        refine z_icmp_ge (tgt := 65) X.1 X.2.1 d_Va_putSalt_20 (by decide) ⟨by omega, by omega⟩ ⟨by omega, by omega⟩ (fun h111 => ?_) (fun h111 => ?_)
        · exact c_retv hQQ X Y hr hlk ⟨rfl, S, trivial⟩ d_Va_putSalt_65
        · refine lv_aload_n X.1 X.2.1 d_Va_putSalt_23 rfl (lv_at hl 1 rfl) ?_
          refine lv_iload_n X.1 X.2.1 d_Va_putSalt_24 rfl (lv_at hl 2 rfl) ?_
          refine t_ui (t_runV (As := [.int (iI z103)]) (rest := []) (n := 1) X Y S k2 hml hl.1 (c_By_body l D E T κ L f102 H.size a2 n2 k2 (by omega) z103 (by omega) (by omega) S.1 z110 e110 (by omega) (by omega)) (ok_k X Y hA KS KR) rfl kl_Va_By_body ks_By_body kx_By_body ki_By_body ini_By ⟨rfl, rfl⟩ hd_By_body ⟨Nat.le_of_ble_eq_true rfl, Nat.le_of_ble_eq_true rfl⟩ rfl (Nat.le_of_ble_eq_true rfl) d_Va_putSalt_25 ⟨Nat.le_of_ble_eq_true rfl, Nat.le_of_ble_eq_true rfl⟩) X Y hA (fun z112 H locs Y p112 => ?_)
          obtain ⟨l112, u112, x112⟩ := p112
          refine lv_istore (lv' := [(4, .int (iI z112)), (0, .ref a1), (1, .ref a2), (2, .int (iI z103)), (3, .int (iI z104))]) X.1 X.2.1 d_Va_putSalt_28 hl (by decide) rfl (fun ls hl => ?_)
          refine lv_aload_n X.1 X.2.1 d_Va_putSalt_30 rfl (lv_at hl 2 rfl) ?_
          refine lv_iload_n X.1 X.2.1 d_Va_putSalt_31 rfl (lv_at hl 3 rfl) ?_
          refine lv_aload_n X.1 X.2.1 d_Va_putSalt_32 rfl (lv_at hl 2 rfl) ?_
          refine t_get0 (ci := 3) X Y S k2 rfl i_By 1 (by decide) rfl lk_Va_77 (fun _ h9 => h9) d_Va_putSalt_33 e110 ?_
          refine t_ui (t_runV (As := [.int (iI z103), .int (iI z110)]) (rest := []) (n := 2) X Y S k2 hml hl.1 (c_By_stop l D E T κ L f102 H.size a2 n2 k2 (by omega) z103 (by omega) (by omega) z110 (by omega) (by omega) S.1 z110 e110 (by omega) (by omega)) (ok_k X Y hA KS KR) rfl kl_Va_By_stop ks_By_stop kx_By_stop ki_By_stop ini_By ⟨rfl, rfl⟩ hd_By_stop ⟨Nat.le_of_ble_eq_true rfl, Nat.le_of_ble_eq_true rfl⟩ rfl (Nat.le_of_ble_eq_true rfl) d_Va_putSalt_36 ⟨Nat.le_of_ble_eq_true rfl, Nat.le_of_ble_eq_true rfl⟩) X Y hA (fun z113 H locs Y p113 => ?_)
          obtain ⟨l113, u113, x113⟩ := p113
          refine lv_istore (lv' := [(5, .int (iI z113)), (4, .int (iI z112)), (0, .ref a1), (1, .ref a2), (2, .int (iI z103)), (3, .int (iI z104))]) X.1 X.2.1 d_Va_putSalt_39 hl (by decide) rfl (fun ls hl => ?_)
          refine lv_aload_n X.1 X.2.1 d_Va_putSalt_41 rfl (lv_at hl 2 rfl) ?_
          refine lv_aload_n X.1 X.2.1 d_Va_putSalt_42 rfl (lv_at hl 3 rfl) ?_
          refine t_getrow (ci := 3) X Y S k2 rfl i_By 0 (by decide) rfl lk_Va_86 (fun _ h9 => h9) d_Va_putSalt_43 (fun b114 e114 k114 => ?_)
          refine lv_iload X.1 X.2.1 d_Va_putSalt_46 (lv_at hl 1 rfl) ?_
          refine lv_iload X.1 X.2.1 d_Va_putSalt_48 (lv_at hl 0 rfl) ?_
          refine lv_iload X.1 X.2.1 d_Va_putSalt_50 (lv_at hl 1 rfl) ?_
          refine z_isub X.1 X.2.1 d_Va_putSalt_52 ?_
          refine t_nv (t_runV (As := [.ref b114, .int (iI z112), .int (iI (z113 - z112))]) (rest := []) (n := 3) X Y S k1 hml hl.1 (c_By_append l D E T κ L f102 H.size a1 n1 k1 (by omega) b114 n2 (Or.inl k114) (by omega) z112 (by omega) (by omega) (z113 - z112) (by omega) (by omega) S.1) (ok_k X Y hA KS KR) rfl kl_Va_By_append ks_By_append kx_By_append ki_By_append ini_By ⟨rfl, rfl⟩ hd_By_append ⟨Nat.le_of_ble_eq_true rfl, Nat.le_of_ble_eq_true rfl⟩ rfl (Nat.le_of_ble_eq_true rfl) d_Va_putSalt_53 ⟨Nat.le_of_ble_eq_true rfl, Nat.le_of_ble_eq_true rfl⟩) X Y hA S (by decide) (fun f115 H locs Y S s115 p115 => ?_)
          refine lv_iload X.1 X.2.1 d_Va_putSalt_56 (lv_at hl 0 rfl) ?_
          refine lv_istore_n (lv' := [(2, .int (iI z113)), (5, .int (iI z113)), (4, .int (iI z112)), (0, .ref a1), (1, .ref a2), (3, .int (iI z104))]) X.1 X.2.1 d_Va_putSalt_58 rfl hl (by decide) rfl (fun ls hl => ?_)
          refine lv_iinc (v := iI (z104 + 1)) (lv' := [(3, .int (iI (z104 + 1))), (2, .int (iI z113)), (5, .int (iI z113)), (4, .int (iI z112)), (0, .ref a1), (1, .ref a2)]) X.1 X.2.1 d_Va_putSalt_59 hl (k := 5) rfl ((iI_add _ _).trans (congrArg iI (by omega))) (by decide) rfl (fun ls hl => ?_)
          refine lv_goto (tgt := 10) X.1 X.2.1 d_Va_putSalt_62 (by decide) ?_
          exact ih106 ((2 - (z104 + 1)).toNat) (by omega) z113 (z104 + 1) f115 _ _ _ rfl (by omega) (by omega) (by omega) (by omega) Y S (lv_sub hl [4, 5, 1, 0] rfl)
  refine lv_istore_n (lv' := [(3, .int (iI 0)), (2, .int (iI 0)), (0, .ref a1), (1, .ref a2)]) X.1 X.2.1 d_Va_putSalt_9 rfl hl (by decide) rfl (fun ls hl => ?_)
  exact J105 _ 0 0 f101 _ _ _ rfl (by omega) (by omega) (by omega) (by omega) Y S (lv_sub hl [2, 3, 1, 0] rfl)
set_option maxHeartbeats 4000000 in
set_option maxRecDepth 100000 in
theorem c_Va_stretch (l : Launch) (D : va_G) (E : cE) (T : cT) (κ : tK) (L : List Nat) (f : pF) (sz : Nat) (h : Nat) (k0 : κ h = (21, 0)) (a1 : Int) (l_a1 : (-2147483648) ≤ a1) (u_a1 : a1 ≤ 2147483647) (hw : tW E T κ L f) : Met l y_Va_stretch (k_Va_stretch :: lw_tg) (kRm 4 130 0 0) (va_Pc [.ref h, .int (iI a1)] (kPre D E T L f sz)) (va_Qv (nPv E T [1, 2, 3, 4, 16] κ L f (fun (g : pF) => True)) (cPost D E (pA L sz)) (pA L sz)) 0 0 (pA L sz) := by
  refine k_enter (own := R_Va) (by decide) rfl (Nat.le_of_ble_eq_true rfl) (fun p e s m below meth c ls AV QQ H locs hQQ X Y hA hin hr hlk hml hl KS KR => ?_)
  have hl : lv_has ls 4 [(0, .ref h), (1, .int (iI a1))] := hl
  have S : tS E T (tFr κ L [1, 2, 3, 4, 16] []) κ L f κ L f := tS_rf hw
  refine lv_aload_n X.1 X.2.1 d_Va_stretch_0 rfl (lv_at hl 0 rfl) ?_
  refine t_getr (ci := 11) X Y S k0 rfl i_Va 3 (by decide) rfl (k1 := 16) (k2 := 0) rfl rfl lk_Va_31 (fun _ h9 => h9) d_Va_stretch_1 (fun b101 e101 k101 => ?_)
  refine t_nv (t_runV (As := []) (rest := []) (n := 0) X Y S k101 hml hl.1 (c_Ha_begin l D E T κ L f H.size b101 k101 S.1) (ok_k X Y hA KS KR) rfl kl_Va_Ha_begin ks_Ha_begin kx_Ha_begin ki_Ha_begin ini_Ha ⟨rfl, rfl⟩ hd_Ha_begin ⟨Nat.le_of_ble_eq_true rfl, Nat.le_of_ble_eq_true rfl⟩ rfl (Nat.le_of_ble_eq_true rfl) d_Va_stretch_4 ⟨Nat.le_of_ble_eq_true rfl, Nat.le_of_ble_eq_true rfl⟩) X Y hA S (by decide) (fun f102 H locs Y S s102 p102 => ?_)
  have x102 := p102
  obtain ⟨z103, e103, l103, u103⟩ := x102
  refine lv_aload_n X.1 X.2.1 d_Va_stretch_7 rfl (lv_at hl 0 rfl) ?_
  refine t_get0 (ci := 11) X Y S k0 rfl i_Va 3 (by decide) rfl lk_Va_31 (fun _ h9 => h9) d_Va_stretch_8 ((gF_same (s102.2.2.2 _ ⟨(t_obj S.1 k0).1, nM_of k0 (by decide), by simp⟩).1 3).trans e101) ?_
  refine lv_aload_n X.1 X.2.1 d_Va_stretch_11 rfl (lv_at hl 0 rfl) ?_
  refine t_getr (ci := 11) X Y S k0 rfl i_Va 12 (by decide) rfl (k1 := 13) (k2 := 64) rfl rfl lk_Va_58 (fun _ h9 => h9) d_Va_stretch_12 (fun b104 e104 k104 => ?_)
  refine t_getrow (ci := 3) X Y S k104 rfl i_By 0 (by decide) rfl lk_Va_86 (fun _ h9 => h9) d_Va_stretch_15 (fun b105 e105 k105 => ?_)
  refine lv_iconst (v := iI 0) X.1 X.2.1 d_Va_stretch_18 (by decide) ?_
  refine lv_aload_n X.1 X.2.1 d_Va_stretch_19 rfl (lv_at hl 0 rfl) ?_
  refine t_get0 (ci := 11) X Y S k0 rfl i_Va 12 (by decide) rfl lk_Va_58 (fun _ h9 => h9) d_Va_stretch_20 e104 ?_
  refine t_gets (ci := 3) X Y S k104 rfl i_By 1 (by decide) rfl lk_Va_77 (fun _ h9 => h9) d_Va_stretch_23 (fun z106 e106 l106 u106 => ?_)
  refine t_nv (t_runV (As := [.ref b105, .int (iI 0), .int (iI z106)]) (rest := []) (n := 3) X Y S k101 hml hl.1 (c_Ha_add l D E T κ L f102 H.size b101 k101 b105 64 (Or.inl k105) (by omega) 0 (by omega) (by omega) z106 (by omega) (by omega) S.1 z103 e103 (by omega) (by omega)) (ok_k X Y hA KS KR) rfl kl_Va_Ha_add ks_Ha_add kx_Ha_add ki_Ha_add ini_Ha ⟨rfl, rfl⟩ hd_Ha_add ⟨Nat.le_of_ble_eq_true rfl, Nat.le_of_ble_eq_true rfl⟩ rfl (Nat.le_of_ble_eq_true rfl) d_Va_stretch_26 ⟨Nat.le_of_ble_eq_true rfl, Nat.le_of_ble_eq_true rfl⟩) X Y hA S (by decide) (fun f107 H locs Y S s107 p107 => ?_)
  have x107 := p107
  obtain ⟨z108, e108, l108, u108⟩ := x107
  refine lv_aload_n X.1 X.2.1 d_Va_stretch_29 rfl (lv_at hl 0 rfl) ?_
  refine t_get0 (ci := 11) X Y S k0 rfl i_Va 3 (by decide) rfl lk_Va_31 (fun _ h9 => h9) d_Va_stretch_30 ((gF_same (s107.2.2.2 _ ⟨(t_obj S.1 k0).1, nM_of k0 (by decide), by simp⟩).1 3).trans ((gF_same (s102.2.2.2 _ ⟨(t_obj S.1 k0).1, nM_of k0 (by decide), by simp⟩).1 3).trans e101)) ?_
  refine t_nv (t_runV (As := []) (rest := []) (n := 0) X Y S k101 hml hl.1 (c_Ha_finish l D E T κ L f107 H.size b101 k101 S.1 z108 e108 (by omega) (by omega)) (ok_k X Y hA KS KR) rfl kl_Va_Ha_finish ks_Ha_finish kx_Ha_finish ki_Ha_finish ini_Ha ⟨rfl, rfl⟩ hd_Ha_finish ⟨Nat.le_of_ble_eq_true rfl, Nat.le_of_ble_eq_true rfl⟩ rfl (Nat.le_of_ble_eq_true rfl) d_Va_stretch_33 ⟨Nat.le_of_ble_eq_true rfl, Nat.le_of_ble_eq_true rfl⟩) X Y hA S (by decide) (fun f109 H locs Y S s109 p109 => ?_)
  refine lv_aload_n X.1 X.2.1 d_Va_stretch_36 rfl (lv_at hl 0 rfl) ?_
  refine t_get0 (ci := 11) X Y S k0 rfl i_Va 3 (by decide) rfl lk_Va_31 (fun _ h9 => h9) d_Va_stretch_37 ((gF_same (s109.2.2.2 _ ⟨(t_obj S.1 k0).1, nM_of k0 (by decide), by simp⟩).1 3).trans ((gF_same (s107.2.2.2 _ ⟨(t_obj S.1 k0).1, nM_of k0 (by decide), by simp⟩).1 3).trans ((gF_same (s102.2.2.2 _ ⟨(t_obj S.1 k0).1, nM_of k0 (by decide), by simp⟩).1 3).trans e101))) ?_
  refine t_getr (ci := 6) X Y S k101 rfl i_Ha 7 (by decide) rfl (k1 := 1) (k2 := 20) rfl rfl lk_Va_125 (fun _ h9 => h9) d_Va_stretch_40 (fun b110 e110 k110 => ?_)
  refine lv_iconst (v := iI 0) X.1 X.2.1 d_Va_stretch_43 (by decide) ?_
  refine lv_aload_n X.1 X.2.1 d_Va_stretch_44 rfl (lv_at hl 0 rfl) ?_
  refine t_getr (ci := 11) X Y S k0 rfl i_Va 11 (by decide) rfl (k1 := 1) (k2 := 20) rfl rfl lk_Va_55 (fun _ h9 => h9) d_Va_stretch_45 (fun b111 e111 k111 => ?_)
  refine lv_iconst (v := iI 0) X.1 X.2.1 d_Va_stretch_48 (by decide) ?_
  refine lv_bipush (v := iI 20) X.1 X.2.1 d_Va_stretch_49 (by decide) ?_
  refine t_copyB X Y S KS (hml.trans hl.1.symm) kl_Va_copy (Or.inl k110) k111 (by omega) (by omega) (by omega) (by omega) (by omega) (by omega) (by omega) (nF_of S k111 (by decide)) (Nat.le_of_ble_eq_true rfl) (Nat.le_of_ble_eq_true rfl) d_Va_stretch_51 (fun f112 H locs Y S w112 => ?_)
  refine lv_iconst (v := iI 1) X.1 X.2.1 d_Va_stretch_54 (by decide) ?_
  have J115 : ∀ (n117 : Nat) (z114 : Int) (f113 : pF) (H : Heap) (locs : List Loc) (ls : Array Slot), (200 - z114).toNat = n117 → (1 ≤ z114) → (z114 ≤ 200) → pH D cCl (pA L sz) s.heap L f113 H locs → tS E T (tFr κ L [1, 2, 3, 4, 16] []) κ L f κ L f113 → lv_has ls 4 [(0, .ref h), (1, .int (iI a1)), (2, .int (iI z114))] → W p l e (kRm 4 130 0 0) s m AV below meth c H locs 0 0 QQ (F0 m 56 ls []) := by
    intro n117
    induction n117 using Nat.strongRecOn with
    | ind n117 ih116 =>
      intro z114 f113 H locs ls hm118 l114 u114 Y S hl
      refine lv_iload_n X.1 X.2.1 d_Va_stretch_56 rfl (lv_at hl 2 rfl) ?_
      refine lv_iload_n X.1 X.2.1 d_Va_stretch_57 rfl (lv_at hl 1 rfl) ?_
      refine z_icmp_ge (tgt := 138) X.1 X.2.1 d_Va_stretch_58 (by decide) ⟨by omega, by omega⟩ ⟨by omega, by omega⟩ (fun h119 => ?_) (fun h119 => ?_)
      · exact c_retv hQQ X Y hr hlk ⟨rfl, S, trivial⟩ d_Va_stretch_138
      · refine lv_iload_n X.1 X.2.1 d_Va_stretch_61 rfl (lv_at hl 2 rfl) ?_
        refine lv_sipush (v := iI 200) X.1 X.2.1 d_Va_stretch_62 (by decide) ?_
        refine z_icmp_ge (tgt := 138) X.1 X.2.1 d_Va_stretch_65 (by decide) ⟨by omega, by omega⟩ ⟨by omega, by omega⟩ (fun h120 => ?_) (fun h120 => ?_)
        · exact c_retv hQQ X Y hr hlk ⟨rfl, S, trivial⟩ d_Va_stretch_138
        · refine lv_aload_n X.1 X.2.1 d_Va_stretch_68 rfl (lv_at hl 0 rfl) ?_
          refine t_getr (ci := 11) X Y S k0 rfl i_Va 3 (by decide) rfl (k1 := 16) (k2 := 0) rfl rfl lk_Va_31 (fun _ h9 => h9) d_Va_stretch_69 (fun b121 e121 k121 => ?_)
          refine t_nv (t_runV (As := []) (rest := []) (n := 0) X Y S k121 hml hl.1 (c_Ha_begin l D E T κ L f113 H.size b121 k121 S.1) (ok_k X Y hA KS KR) rfl kl_Va_Ha_begin ks_Ha_begin kx_Ha_begin ki_Ha_begin ini_Ha ⟨rfl, rfl⟩ hd_Ha_begin ⟨Nat.le_of_ble_eq_true rfl, Nat.le_of_ble_eq_true rfl⟩ rfl (Nat.le_of_ble_eq_true rfl) d_Va_stretch_72 ⟨Nat.le_of_ble_eq_true rfl, Nat.le_of_ble_eq_true rfl⟩) X Y hA S (by decide) (fun f122 H locs Y S s122 p122 => ?_)
          have x122 := p122
          obtain ⟨z123, e123, l123, u123⟩ := x122
          refine lv_aload_n X.1 X.2.1 d_Va_stretch_75 rfl (lv_at hl 0 rfl) ?_
          refine t_get0 (ci := 11) X Y S k0 rfl i_Va 3 (by decide) rfl lk_Va_31 (fun _ h9 => h9) d_Va_stretch_76 ((gF_same (s122.2.2.2 _ ⟨(t_obj S.1 k0).1, nM_of k0 (by decide), by simp⟩).1 3).trans e121) ?_
          refine lv_aload_n X.1 X.2.1 d_Va_stretch_79 rfl (lv_at hl 0 rfl) ?_
          refine t_get0 (ci := 11) X Y S k0 rfl i_Va 3 (by decide) rfl lk_Va_31 (fun _ h9 => h9) d_Va_stretch_80 ((gF_same (s122.2.2.2 _ ⟨(t_obj S.1 k0).1, nM_of k0 (by decide), by simp⟩).1 3).trans e121) ?_
          refine t_getr (ci := 6) X Y S k121 rfl i_Ha 7 (by decide) rfl (k1 := 1) (k2 := 20) rfl rfl lk_Va_125 (fun _ h9 => h9) d_Va_stretch_83 (fun b124 e124 k124 => ?_)
          refine lv_iconst (v := iI 0) X.1 X.2.1 d_Va_stretch_86 (by decide) ?_
          refine lv_bipush (v := iI 20) X.1 X.2.1 d_Va_stretch_87 (by decide) ?_
          refine t_nv (t_runV (As := [.ref b124, .int (iI 0), .int (iI 20)]) (rest := []) (n := 3) X Y S k121 hml hl.1 (c_Ha_add l D E T κ L f122 H.size b121 k121 b124 20 (Or.inl k124) (by omega) 0 (by omega) (by omega) 20 (by omega) (by omega) S.1 z123 e123 (by omega) (by omega)) (ok_k X Y hA KS KR) rfl kl_Va_Ha_add ks_Ha_add kx_Ha_add ki_Ha_add ini_Ha ⟨rfl, rfl⟩ hd_Ha_add ⟨Nat.le_of_ble_eq_true rfl, Nat.le_of_ble_eq_true rfl⟩ rfl (Nat.le_of_ble_eq_true rfl) d_Va_stretch_89 ⟨Nat.le_of_ble_eq_true rfl, Nat.le_of_ble_eq_true rfl⟩) X Y hA S (by decide) (fun f125 H locs Y S s125 p125 => ?_)
          have x125 := p125
          obtain ⟨z126, e126, l126, u126⟩ := x125
          refine lv_aload_n X.1 X.2.1 d_Va_stretch_92 rfl (lv_at hl 0 rfl) ?_
          refine t_get0 (ci := 11) X Y S k0 rfl i_Va 3 (by decide) rfl lk_Va_31 (fun _ h9 => h9) d_Va_stretch_93 ((gF_same (s125.2.2.2 _ ⟨(t_obj S.1 k0).1, nM_of k0 (by decide), by simp⟩).1 3).trans ((gF_same (s122.2.2.2 _ ⟨(t_obj S.1 k0).1, nM_of k0 (by decide), by simp⟩).1 3).trans e121)) ?_
          refine t_nv (t_runV (As := []) (rest := []) (n := 0) X Y S k121 hml hl.1 (c_Ha_finish l D E T κ L f125 H.size b121 k121 S.1 z126 e126 (by omega) (by omega)) (ok_k X Y hA KS KR) rfl kl_Va_Ha_finish ks_Ha_finish kx_Ha_finish ki_Ha_finish ini_Ha ⟨rfl, rfl⟩ hd_Ha_finish ⟨Nat.le_of_ble_eq_true rfl, Nat.le_of_ble_eq_true rfl⟩ rfl (Nat.le_of_ble_eq_true rfl) d_Va_stretch_96 ⟨Nat.le_of_ble_eq_true rfl, Nat.le_of_ble_eq_true rfl⟩) X Y hA S (by decide) (fun f127 H locs Y S s127 p127 => ?_)
          refine lv_iconst (v := iI 0) X.1 X.2.1 d_Va_stretch_99 (by decide) ?_
          have J130 : ∀ (n132 : Nat) (z129 : Int) (f128 : pF) (H : Heap) (locs : List Loc) (ls : Array Slot), (20 - z129).toNat = n132 → (0 ≤ z129) → (z129 ≤ 20) → pH D cCl (pA L sz) s.heap L f128 H locs → tS E T (tFr κ L [1, 2, 3, 4, 16] []) κ L f κ L f128 → lv_has ls 4 [(0, .ref h), (1, .int (iI a1)), (2, .int (iI z114)), (3, .int (iI z129))] → W p l e (kRm 4 130 0 0) s m AV below meth c H locs 0 0 QQ (F0 m 101 ls []) := by
            intro n132
            induction n132 using Nat.strongRecOn with
            | ind n132 ih131 =>
              intro z129 f128 H locs ls hm133 l129 u129 Y S hl
              refine lv_iload_n X.1 X.2.1 d_Va_stretch_101 rfl (lv_at hl 3 rfl) ?_
              refine lv_bipush (v := iI 20) X.1 X.2.1 d_Va_stretch_102 (by decide) ?_
              refine z_icmp_ge (tgt := 132) X.1 X.2.1 d_Va_stretch_104 (by decide) ⟨by omega, by omega⟩ ⟨by omega, by omega⟩ (fun h134 => ?_) (fun h134 => ?_)
              · refine lv_iinc (v := iI (z114 + 1)) (lv' := [(2, .int (iI (z114 + 1))), (0, .ref h), (1, .int (iI a1)), (3, .int (iI z129))]) X.1 X.2.1 d_Va_stretch_132 hl (k := 2) rfl ((iI_add _ _).trans (congrArg iI (by omega))) (by decide) rfl (fun ls hl => ?_)
                refine lv_goto (tgt := 56) X.1 X.2.1 d_Va_stretch_135 (by decide) ?_
                exact ih116 ((200 - (z114 + 1)).toNat) (by omega) (z114 + 1) f128 _ _ _ rfl (by omega) (by omega) Y S (lv_sub hl [1, 2, 0] rfl)
              · refine lv_aload_n X.1 X.2.1 d_Va_stretch_107 rfl (lv_at hl 0 rfl) ?_
                refine t_getr (ci := 11) X Y S k0 rfl i_Va 11 (by decide) rfl (k1 := 1) (k2 := 20) rfl rfl lk_Va_55 (fun _ h9 => h9) d_Va_stretch_108 (fun b135 e135 k135 => ?_)
                refine lv_iload_n X.1 X.2.1 d_Va_stretch_111 rfl (lv_at hl 3 rfl) ?_
                refine lv_dup2_11 X.1 X.2.1 d_Va_stretch_112 rfl rfl ?_
                refine t_bald X Y S (Or.inl k135) (by omega) (by omega) (by omega) d_Va_stretch_113 (fun z136 l136 u136 => ?_)
                refine lv_aload_n X.1 X.2.1 d_Va_stretch_114 rfl (lv_at hl 0 rfl) ?_
                refine t_getr (ci := 11) X Y S k0 rfl i_Va 3 (by decide) rfl (k1 := 16) (k2 := 0) rfl rfl lk_Va_31 (fun _ h9 => h9) d_Va_stretch_115 (fun b137 e137 k137 => ?_)
                refine t_getr (ci := 6) X Y S k137 rfl i_Ha 7 (by decide) rfl (k1 := 1) (k2 := 20) rfl rfl lk_Va_125 (fun _ h9 => h9) d_Va_stretch_118 (fun b138 e138 k138 => ?_)
                refine lv_iload_n X.1 X.2.1 d_Va_stretch_121 rfl (lv_at hl 3 rfl) ?_
                refine t_bald X Y S (Or.inl k138) (by omega) (by omega) (by omega) d_Va_stretch_122 (fun z139 l139 u139 => ?_)
                refine lv_ixor X.1 X.2.1 d_Va_stretch_123 ?_
                refine t_u (fun z140 l140 u140 => ?_)
                refine lv_i2b X.1 X.2.1 d_Va_stretch_124 rfl ?_
                refine t_u (fun z141 l141 u141 => ?_)
                refine t_bast X Y S k135 (by omega) (by omega) (by omega) (nF_of S k135 (by decide)) d_Va_stretch_125 (fun f142 H locs Y S w142 => ?_)
                refine lv_iinc (v := iI (z129 + 1)) (lv' := [(3, .int (iI (z129 + 1))), (0, .ref h), (1, .int (iI a1)), (2, .int (iI z114))]) X.1 X.2.1 d_Va_stretch_126 hl (k := 3) rfl ((iI_add _ _).trans (congrArg iI (by omega))) (by decide) rfl (fun ls hl => ?_)
                refine lv_goto (tgt := 101) X.1 X.2.1 d_Va_stretch_129 (by decide) ?_
                exact ih131 ((20 - (z129 + 1)).toNat) (by omega) (z129 + 1) f142 _ _ _ rfl (by omega) (by omega) Y S (lv_sub hl [1, 2, 3, 0] rfl)
          refine lv_istore_n (lv' := [(3, .int (iI 0)), (0, .ref h), (1, .int (iI a1)), (2, .int (iI z114))]) X.1 X.2.1 d_Va_stretch_100 rfl hl (by decide) rfl (fun ls hl => ?_)
          exact J130 _ 0 f127 _ _ _ rfl (by omega) (by omega) Y S (lv_sub hl [1, 2, 3, 0] rfl)
  refine lv_istore_n (lv' := [(2, .int (iI 1)), (0, .ref h), (1, .int (iI a1))]) X.1 X.2.1 d_Va_stretch_55 rfl hl (by decide) rfl (fun ls hl => ?_)
  exact J115 _ 1 f112 _ _ _ rfl (by omega) (by omega) Y S (lv_sub hl [1, 2, 0] rfl)
set_option maxHeartbeats 4000000 in
set_option maxRecDepth 100000 in
theorem c_Va_chain (l : Launch) (D : va_G) (E : cE) (T : cT) (κ : tK) (L : List Nat) (f : pF) (sz : Nat) (h : Nat) (k0 : κ h = (21, 0)) (a1 n1 : Nat) (k1 : κ a1 = (1, n1)) (x1 : n1 ≤ 12288) (a2 : Int) (l_a2 : 0 ≤ a2) (u_a2 : a2 ≤ 64) (hw : tW E T κ L f) : Met l y_Va_chain (k_Va_chain :: lw_tg) (kRm 3 110 0 0) (va_Pc [.ref h, .ref a1, .int (iI a2)] (kPre D E T L f sz)) (va_Qv (nPv E T [1, 2, 3, 4] κ L f (fun (g : pF) => True)) (cPost D E (pA L sz)) (pA L sz)) 0 0 (pA L sz) := by
  refine k_enter (own := R_Va) (by decide) rfl (Nat.le_of_ble_eq_true rfl) (fun p e s m below meth c ls AV QQ H locs hQQ X Y hA hin hr hlk hml hl KS KR => ?_)
  have hl : lv_has ls 3 [(0, .ref h), (1, .ref a1), (2, .int (iI a2))] := hl
  have S : tS E T (tFr κ L [1, 2, 3, 4] []) κ L f κ L f := tS_rf hw
  refine lv_aload_n X.1 X.2.1 d_Va_chain_0 rfl (lv_at hl 0 rfl) ?_
  refine t_getr (ci := 11) X Y S k0 rfl i_Va 4 (by decide) rfl (k1 := 11) (k2 := 0) rfl rfl lk_Va_38 (fun _ h9 => h9) d_Va_chain_1 (fun b101 e101 k101 => ?_)
  refine lv_aload_n X.1 X.2.1 d_Va_chain_4 rfl (lv_at hl 1 rfl) ?_
  refine lv_iconst (v := iI 0) X.1 X.2.1 d_Va_chain_5 (by decide) ?_
  refine t_nv (t_runV (As := [.ref a1, .int (iI 0)]) (rest := []) (n := 2) X Y S k101 hml hl.1 (c_Ae_encrypt l D E T κ L f H.size b101 k101 a1 n1 k1 (by omega) 0 (by omega) (by omega) S.1) (ok_k X Y hA KS KR) rfl kl_Va_Ae_encrypt ks_Ae_encrypt kx_Ae_encrypt ki_Ae_encrypt ini_Ae ⟨rfl, rfl⟩ hd_Ae_encrypt ⟨Nat.le_of_ble_eq_true rfl, Nat.le_of_ble_eq_true rfl⟩ rfl (Nat.le_of_ble_eq_true rfl) d_Va_chain_6 ⟨Nat.le_of_ble_eq_true rfl, Nat.le_of_ble_eq_true rfl⟩) X Y hA S (by decide) (fun f102 H locs Y S s102 p102 => ?_)
  refine lv_iload_n X.1 X.2.1 d_Va_chain_9 rfl (lv_at hl 2 rfl) ?_
  refine lv_bipush (v := iI 32) X.1 X.2.1 d_Va_chain_10 (by decide) ?_
  refine z_icmp_ne (tgt := 42) X.1 X.2.1 d_Va_chain_12 (by decide) ⟨by omega, by omega⟩ ⟨by omega, by omega⟩ (fun h103 => ?_) (fun h103 => ?_)
  · exact c_retv hQQ X Y hr hlk ⟨rfl, S, trivial⟩ d_Va_chain_42
  · refine lv_aload_n X.1 X.2.1 d_Va_chain_15 rfl (lv_at hl 1 rfl) ?_
    refine t_alen X Y S KS (Or.inl k1) (by omega) d_Va_chain_16 ?_
    refine lv_bipush (v := iI 32) X.1 X.2.1 d_Va_chain_17 (by decide) ?_
    refine z_icmp_lt (tgt := 42) X.1 X.2.1 d_Va_chain_19 (by decide) ⟨by omega, by omega⟩ ⟨by omega, by omega⟩ (fun h104 => ?_) (fun h104 => ?_)
    · exact c_retv hQQ X Y hr hlk ⟨rfl, S, trivial⟩ d_Va_chain_42
    · refine lv_aload_n X.1 X.2.1 d_Va_chain_22 rfl (lv_at hl 1 rfl) ?_
      refine lv_iconst (v := iI 0) X.1 X.2.1 d_Va_chain_23 (by decide) ?_
      refine lv_aload_n X.1 X.2.1 d_Va_chain_24 rfl (lv_at hl 1 rfl) ?_
      refine lv_bipush (v := iI 16) X.1 X.2.1 d_Va_chain_25 (by decide) ?_
      refine lv_bipush (v := iI 16) X.1 X.2.1 d_Va_chain_27 (by decide) ?_
      refine t_copyB X Y S KS (hml.trans hl.1.symm) kl_Va_copy (Or.inl k1) k1 (by omega) (by omega) (by omega) (by omega) (by omega) (by omega) (by omega) (nF_of S k1 (by decide)) (Nat.le_of_ble_eq_true rfl) (Nat.le_of_ble_eq_true rfl) d_Va_chain_29 (fun f105 H locs Y S w105 => ?_)
      refine lv_aload_n X.1 X.2.1 d_Va_chain_32 rfl (lv_at hl 0 rfl) ?_
      refine t_get0 (ci := 11) X Y S k0 rfl i_Va 4 (by decide) rfl lk_Va_38 (fun _ h9 => h9) d_Va_chain_33 ((gF_same (w105 _ (k_ne k0 k1 (by decide))) 4).trans ((gF_same (s102.2.2.2 _ ⟨(t_obj S.1 k0).1, nM_of k0 (by decide), by simp⟩).1 4).trans e101)) ?_
      refine lv_aload_n X.1 X.2.1 d_Va_chain_36 rfl (lv_at hl 1 rfl) ?_
      refine lv_bipush (v := iI 16) X.1 X.2.1 d_Va_chain_37 (by decide) ?_
      refine t_nv (t_runV (As := [.ref a1, .int (iI 16)]) (rest := []) (n := 2) X Y S k101 hml hl.1 (c_Ae_encrypt l D E T κ L f105 H.size b101 k101 a1 n1 k1 (by omega) 16 (by omega) (by omega) S.1) (ok_k X Y hA KS KR) rfl kl_Va_Ae_encrypt ks_Ae_encrypt kx_Ae_encrypt ki_Ae_encrypt ini_Ae ⟨rfl, rfl⟩ hd_Ae_encrypt ⟨Nat.le_of_ble_eq_true rfl, Nat.le_of_ble_eq_true rfl⟩ rfl (Nat.le_of_ble_eq_true rfl) d_Va_chain_39 ⟨Nat.le_of_ble_eq_true rfl, Nat.le_of_ble_eq_true rfl⟩) X Y hA S (by decide) (fun f106 H locs Y S s106 p106 => ?_)
      exact c_retv hQQ X Y hr hlk ⟨rfl, S, trivial⟩ d_Va_chain_42
set_option maxHeartbeats 4000000 in
set_option maxRecDepth 100000 in
theorem c_Va_passwordKey (l : Launch) (D : va_G) (E : cE) (T : cT) (κ : tK) (L : List Nat) (f : pF) (sz : Nat) (h : Nat) (k0 : κ h = (21, 0)) (a1 : Int) (l_a1 : (-2147483648) ≤ a1) (u_a1 : a1 ≤ 2147483647) (a2 n2 : Nat) (k2 : κ a2 = (13, n2)) (x2 : n2 ≤ 12288) (a3 n3 : Nat) (k3 : κ a3 = (13, n3)) (x3 : n3 ≤ 12288) (a4 : Int) (l_a4 : (-1) ≤ a4) (u_a4 : a4 ≤ 20200) (a5 : Int) (l_a5 : (-2147483648) ≤ a5) (u_a5 : a5 ≤ 2147483647) (hw : tW E T κ L f) : Met l y_Va_passwordKey (k_Va_passwordKey :: lw_tg) (kRm 6 153 1 32) (va_Pc [.ref h, .int (iI a1), .ref a2, .ref a3, .int (iI a4), .int (iI a5)] (kPre D E T L f sz)) (va_Qr (fun _ : cU => True) (fun u r t => aPr E T [1, 2, 3, 4, 11, 13, 16] [] κ L f (fun (z : Nat) (k : tK) (g : pF) => (∃ n : Nat, tKey T k z n)) r u ∧ cPost D E (pA L sz) u t) (pA L sz)) 1 32 (pA L sz) := by
  refine k_enter (own := R_Va) (by decide) rfl (Nat.le_of_ble_eq_true rfl) (fun p e s m below meth c ls AV QQ H locs hQQ X Y hA hin hr hlk hml hl KS KR => ?_)
  have hl : lv_has ls 9 [(0, .ref h), (1, .int (iI a1)), (2, .ref a2), (3, .ref a3), (4, .int (iI a4)), (5, .int (iI a5))] := hl
  have S : tS E T (tFr κ L [1, 2, 3, 4, 11, 13, 16] []) κ L f κ L f := tS_rf hw
  have hF0 : ∀ b, tFr κ L [1, 2, 3, 4, 11, 13, 16] [] b → b ∈ L := fun b h9 => h9.1
  refine lv_iload_n X.1 X.2.1 d_Va_passwordKey_0 rfl (lv_at hl 1 rfl) ?_
  refine lv_bipush (v := iI 18) X.1 X.2.1 d_Va_passwordKey_1 (by decide) ?_
  refine z_icmp_ne (tgt := 11) X.1 X.2.1 d_Va_passwordKey_3 (by decide) ⟨by omega, by omega⟩ ⟨by omega, by omega⟩ (fun h101 => ?_) (fun h101 => ?_)
  · refine lv_bipush (v := iI 16) X.1 X.2.1 d_Va_passwordKey_11 (by decide) ?_
    refine t_newB X Y S hA hF0 (N := 16) (mx := 16) (by omega) (by omega) (by decide) (Nat.le_of_ble_eq_true rfl) (Nat.le_of_ble_eq_true rfl) d_Va_passwordKey_13 (fun q102 κ102 L102 f102 H Y S s102 k102 => ?_)
    have k103 : κ102 h = (21, 0) := tLe_k s102.2.2.1 k0
    have k104 : κ102 a2 = (13, n2) := tLe_k s102.2.2.1 k2
    have k105 : κ102 a3 = (13, n3) := tLe_k s102.2.2.1 k3
    refine lv_astore (lv' := [(6, .ref q102), (0, .ref h), (1, .int (iI a1)), (2, .ref a2), (3, .ref a3), (4, .int (iI a4)), (5, .int (iI a5))]) X.1 X.2.1 d_Va_passwordKey_15 hl (by decide) rfl (fun ls hl => ?_)
    refine lv_aload_n X.1 X.2.1 d_Va_passwordKey_17 rfl (lv_at hl 1 rfl) ?_
    refine t_getr (ci := 11) X Y S k103 rfl i_Va 12 (by decide) rfl (k1 := 13) (k2 := 64) rfl rfl lk_Va_58 (fun _ h9 => h9) d_Va_passwordKey_18 (fun b106 e106 k106 => ?_)
    refine t_nv (t_runV (As := []) (rest := []) (n := 0) X Y S k106 hml hl.1 (c_By_clear l D E T κ102 L102 f102 H.size b106 64 k106 (by omega) S.1) (ok_k X Y hA KS KR) rfl kl_Va_By_clear ks_By_clear kx_By_clear ki_By_clear ini_By ⟨rfl, rfl⟩ hd_By_clear ⟨Nat.le_of_ble_eq_true rfl, Nat.le_of_ble_eq_true rfl⟩ rfl (Nat.le_of_ble_eq_true rfl) d_Va_passwordKey_21 ⟨Nat.le_of_ble_eq_true rfl, Nat.le_of_ble_eq_true rfl⟩) X Y hA S (by decide) (fun f107 H locs Y S s107 p107 => ?_)
    refine lv_aload_n X.1 X.2.1 d_Va_passwordKey_24 rfl (lv_at hl 1 rfl) ?_
    refine t_get0 (ci := 11) X Y S k103 rfl i_Va 12 (by decide) rfl lk_Va_58 (fun _ h9 => h9) d_Va_passwordKey_25 ((gF_same (s107.2.2.2 _ ⟨(t_obj S.1 k103).1, nM_of k103 (by decide), by simp⟩).1 12).trans e106) ?_
    refine lv_aload_n X.1 X.2.1 d_Va_passwordKey_28 rfl (lv_at hl 3 rfl) ?_
    refine t_nv (x_runS (As := [.ref b106, .ref a2]) (rest := []) (n := 2) X hml hl.1 (c_Va_putSalt l D E T κ102 L102 f107 H.size b106 64 k106 (by omega) a2 n2 k104 (by omega) S.1) (ok_k X Y hA KS KR) kl_Va_Va_putSalt ks_Va_putSalt ki_Va_putSalt ini_Va ⟨rfl, rfl⟩ hd_Va_putSalt.2 ⟨Nat.le_of_ble_eq_true rfl, Nat.le_of_ble_eq_true rfl⟩ rfl (Nat.le_of_ble_eq_true rfl) d_Va_passwordKey_29 ⟨Nat.le_of_ble_eq_true rfl, Nat.le_of_ble_eq_true rfl⟩) X Y hA S (by decide) (fun f108 H locs Y S s108 p108 => ?_)
    refine lv_aload_n X.1 X.2.1 d_Va_passwordKey_32 rfl (lv_at hl 1 rfl) ?_
    refine t_get0 (ci := 11) X Y S k103 rfl i_Va 12 (by decide) rfl lk_Va_58 (fun _ h9 => h9) d_Va_passwordKey_33 ((gF_same (s108.2.2.2 _ ⟨(t_obj S.1 k103).1, nM_of k103 (by decide), by simp⟩).1 12).trans ((gF_same (s107.2.2.2 _ ⟨(t_obj S.1 k103).1, nM_of k103 (by decide), by simp⟩).1 12).trans e106)) ?_
    refine t_gets (ci := 3) X Y S k106 rfl i_By 1 (by decide) rfl lk_Va_77 (fun _ h9 => h9) d_Va_passwordKey_36 (fun z109 e109 l109 u109 => ?_)
    refine lv_istore (lv' := [(7, .int (iI z109)), (6, .ref q102), (0, .ref h), (1, .int (iI a1)), (2, .ref a2), (3, .ref a3), (4, .int (iI a4)), (5, .int (iI a5))]) X.1 X.2.1 d_Va_passwordKey_39 hl (by decide) rfl (fun ls hl => ?_)
    refine lv_aload_n X.1 X.2.1 d_Va_passwordKey_41 rfl (lv_at hl 2 rfl) ?_
    refine t_getr (ci := 11) X Y S k103 rfl i_Va 3 (by decide) rfl (k1 := 16) (k2 := 0) rfl rfl lk_Va_31 (fun _ h9 => h9) d_Va_passwordKey_42 (fun b110 e110 k110 => ?_)
    refine lv_aload_n X.1 X.2.1 d_Va_passwordKey_45 rfl (lv_at hl 5 rfl) ?_
    refine t_getrow (ci := 3) X Y S k105 rfl i_By 0 (by decide) rfl lk_Va_86 (fun _ h9 => h9) d_Va_passwordKey_46 (fun b111 e111 k111 => ?_)
    refine lv_iload X.1 X.2.1 d_Va_passwordKey_49 (lv_at hl 6 rfl) ?_
    refine lv_aload_n X.1 X.2.1 d_Va_passwordKey_51 rfl (lv_at hl 5 rfl) ?_
    refine t_gets (ci := 3) X Y S k105 rfl i_By 1 (by decide) rfl lk_Va_77 (fun _ h9 => h9) d_Va_passwordKey_52 (fun z112 e112 l112 u112 => ?_)
    refine lv_iload X.1 X.2.1 d_Va_passwordKey_55 (lv_at hl 6 rfl) ?_
    refine z_isub X.1 X.2.1 d_Va_passwordKey_57 ?_
    refine t_nv (t_runV (As := [.ref b111, .int (iI a4), .int (iI (z112 - a4))]) (rest := []) (n := 3) X Y S k110 hml hl.1 (c_Ha_setKey l D E T κ102 L102 f108 H.size b110 k110 b111 n3 (Or.inl k111) (by omega) a4 (by omega) (by omega) (z112 - a4) (by omega) (by omega) S.1) (ok_k X Y hA KS KR) rfl kl_Va_Ha_setKey ks_Ha_setKey kx_Ha_setKey ki_Ha_setKey ini_Ha ⟨rfl, rfl⟩ hd_Ha_setKey ⟨Nat.le_of_ble_eq_true rfl, Nat.le_of_ble_eq_true rfl⟩ rfl (Nat.le_of_ble_eq_true rfl) d_Va_passwordKey_58 ⟨Nat.le_of_ble_eq_true rfl, Nat.le_of_ble_eq_true rfl⟩) X Y hA S (by decide) (fun f113 H locs Y S s113 p113 => ?_)
    refine lv_iconst (v := iI 0) X.1 X.2.1 d_Va_passwordKey_61 (by decide) ?_
    have J116 : ∀ (n118 : Nat) (z115 : Int) (f114 : pF) (H : Heap) (locs : List Loc) (ls : Array Slot), (35 - z115).toNat = n118 → (0 ≤ z115) → (z115 ≤ 35) → pH D cCl (pA L sz) s.heap L102 f114 H locs → tS E T (tFr κ L [1, 2, 3, 4, 11, 13, 16] []) κ L f κ102 L102 f114 → lv_has ls 9 [(0, .ref h), (5, .int (iI a5)), (6, .ref q102), (7, .int (iI z109)), (8, .int (iI z115))] → W p l e (kRm 6 153 1 32) s m AV below meth c H locs 1 16 QQ (F0 m 64 ls []) := by
      intro n118
      induction n118 using Nat.strongRecOn with
      | ind n118 ih117 =>
        intro z115 f114 H locs ls hm119 l115 u115 Y S hl
        refine lv_iload X.1 X.2.1 d_Va_passwordKey_64 (lv_at hl 4 rfl) ?_
        refine lv_aload X.1 X.2.1 d_Va_passwordKey_66 (lv_at hl 2 rfl) ?_
        refine t_alen X Y S KS (Or.inl k102) (by omega) d_Va_passwordKey_68 ?_
        refine z_icmp_ge (tgt := 130) X.1 X.2.1 d_Va_passwordKey_69 (by decide) ⟨by omega, by omega⟩ ⟨by omega, by omega⟩ (fun h120 => ?_) (fun h120 => ?_)
        · refine lv_aload_n X.1 X.2.1 d_Va_passwordKey_130 rfl (lv_at hl 0 rfl) ?_
          refine t_getr (ci := 11) X Y S k103 rfl i_Va 4 (by decide) rfl (k1 := 11) (k2 := 0) rfl rfl lk_Va_38 (fun _ h9 => h9) d_Va_passwordKey_131 (fun b121 e121 k121 => ?_)
          refine lv_aload X.1 X.2.1 d_Va_passwordKey_134 (lv_at hl 2 rfl) ?_
          refine lv_aload X.1 X.2.1 d_Va_passwordKey_136 (lv_at hl 2 rfl) ?_
          refine t_alen X Y S KS (Or.inl k102) (by omega) d_Va_passwordKey_138 ?_
          refine t_nv (t_runV (As := [.ref q102, .int (iI 16)]) (rest := []) (n := 2) X Y S k121 hml hl.1 (c_Ae_setKey l D E T κ102 L102 f114 H.size b121 k121 q102 16 (Or.inl k102) (by omega) 16 (by omega) (by omega) S.1) (ok_k X Y hA KS KR) rfl kl_Va_Ae_setKey ks_Ae_setKey kx_Ae_setKey ki_Ae_setKey ini_Ae ⟨rfl, rfl⟩ hd_Ae_setKey ⟨Nat.le_of_ble_eq_true rfl, Nat.le_of_ble_eq_true rfl⟩ rfl (Nat.le_of_ble_eq_true rfl) d_Va_passwordKey_139 ⟨Nat.le_of_ble_eq_true rfl, Nat.le_of_ble_eq_true rfl⟩) X Y hA S (by decide) (fun f122 H locs Y S s122 p122 => ?_)
          refine k_gets 2 (by decide) X Y KS sk_Va_151 d_Va_passwordKey_142 ?_
          refine lv_iconst (v := iI 0) X.1 X.2.1 d_Va_passwordKey_145 (by decide) ?_
          refine lv_aload X.1 X.2.1 d_Va_passwordKey_146 (lv_at hl 2 rfl) ?_
          refine lv_iconst (v := iI 0) X.1 X.2.1 d_Va_passwordKey_148 (by decide) ?_
          refine lv_bipush (v := iI 16) X.1 X.2.1 d_Va_passwordKey_149 (by decide) ?_
          refine t_copyK X Y S KS (hml.trans hl.1.symm) kl_Va_copy k102 (by omega) (by omega) (by omega) (by omega) (by omega) (by omega) (nF_of S k102 (by decide)) (Nat.le_of_ble_eq_true rfl) (Nat.le_of_ble_eq_true rfl) d_Va_passwordKey_151 (fun f123 H locs Y S w123 => ?_)
          refine lv_aload_n X.1 X.2.1 d_Va_passwordKey_154 rfl (lv_at hl 0 rfl) ?_
          refine lv_aload X.1 X.2.1 d_Va_passwordKey_155 (lv_at hl 2 rfl) ?_
          refine lv_aload X.1 X.2.1 d_Va_passwordKey_157 (lv_at hl 2 rfl) ?_
          refine t_alen X Y S KS (Or.inl k102) (by omega) d_Va_passwordKey_159 ?_
          refine t_nv (t_runV (As := [.ref q102, .int (iI 16)]) (rest := []) (n := 2) X Y S k103 hml hl.1 (c_Va_chain l D E T κ102 L102 f123 H.size h k103 q102 16 k102 (by omega) 16 (by omega) (by omega) S.1) (ok_k X Y hA KS KR) rfl kl_Va_Va_chain ks_Va_chain kx_Va_chain ki_Va_chain ini_Va ⟨rfl, rfl⟩ hd_Va_chain ⟨Nat.le_of_ble_eq_true rfl, Nat.le_of_ble_eq_true rfl⟩ rfl (Nat.le_of_ble_eq_true rfl) d_Va_passwordKey_160 ⟨Nat.le_of_ble_eq_true rfl, Nat.le_of_ble_eq_true rfl⟩) X Y hA S (by decide) (fun f124 H locs Y S s124 p124 => ?_)
          refine lv_aload X.1 X.2.1 d_Va_passwordKey_163 (lv_at hl 2 rfl) ?_
          refine W.widen (k := 1) (n := 32) (Nat.le_of_ble_eq_true rfl) (Nat.le_of_ble_eq_true rfl) ?_
          exact k_retr hQQ X Y hr (Or.inr ⟨_, rfl⟩) hlk ⟨κ102, S, ⟨16, (Or.inl ⟨k102, by omega⟩)⟩⟩ d_Va_passwordKey_165
        · refine lv_aload_n X.1 X.2.1 d_Va_passwordKey_72 rfl (lv_at hl 0 rfl) ?_
          refine t_getr (ci := 11) X Y S k103 rfl i_Va 12 (by decide) rfl (k1 := 13) (k2 := 64) rfl rfl lk_Va_58 (fun _ h9 => h9) d_Va_passwordKey_73 (fun b125 e125 k125 => ?_)
          refine lv_iload X.1 X.2.1 d_Va_passwordKey_76 (lv_at hl 3 rfl) ?_
          refine t_put (ci := 3) X Y S k125 rfl i_By t_By t_By_ok n_By 1 (by decide) rfl lk_Va_77 (fun _ h9 => h9) rfl (t_By_ok 1 (by decide)) rfl rfl ⟨_, rfl, by omega, by omega⟩ (nF_of S k125 (by decide)) d_Va_passwordKey_78 (fun f126 H locs Y S w126 => ?_)
          refine lv_aload_n X.1 X.2.1 d_Va_passwordKey_81 rfl (lv_at hl 0 rfl) ?_
          refine t_get0 (ci := 11) X Y S k103 rfl i_Va 12 (by decide) rfl lk_Va_58 (fun _ h9 => h9) d_Va_passwordKey_82 ((gF_put w126 (Or.inr (by decide))).trans e125) ?_
          refine lv_iload X.1 X.2.1 d_Va_passwordKey_85 (lv_at hl 4 rfl) ?_
          refine lv_bipush (v := iI 20) X.1 X.2.1 d_Va_passwordKey_87 (by decide) ?_
          refine z_idiv X.1 X.2.1 (by omega) (by omega) ⟨by decide, by decide⟩ d_Va_passwordKey_89 ?_
          refine lv_iconst (v := iI 1) X.1 X.2.1 d_Va_passwordKey_90 (by decide) ?_
          refine z_iadd X.1 X.2.1 d_Va_passwordKey_91 ?_
          refine t_nv (t_runV (As := [.int (iI ((z115 / 20) + 1))]) (rest := []) (n := 1) X Y S k125 hml hl.1 (c_By_putWord l D E T κ102 L102 f126 H.size b125 64 k125 (by omega) ((z115 / 20) + 1) (by omega) (by omega) S.1) (ok_k X Y hA KS KR) rfl kl_Va_By_putWord ks_By_putWord kx_By_putWord ki_By_putWord ini_By ⟨rfl, rfl⟩ hd_By_putWord ⟨Nat.le_of_ble_eq_true rfl, Nat.le_of_ble_eq_true rfl⟩ rfl (Nat.le_of_ble_eq_true rfl) d_Va_passwordKey_92 ⟨Nat.le_of_ble_eq_true rfl, Nat.le_of_ble_eq_true rfl⟩) X Y hA S (by decide) (fun f127 H locs Y S s127 p127 => ?_)
          refine lv_aload_n X.1 X.2.1 d_Va_passwordKey_95 rfl (lv_at hl 0 rfl) ?_
          refine lv_iload X.1 X.2.1 d_Va_passwordKey_96 (lv_at hl 1 rfl) ?_
          refine t_nv (t_runV (As := [.int (iI a5)]) (rest := []) (n := 1) X Y S k103 hml hl.1 (c_Va_stretch l D E T κ102 L102 f127 H.size h k103 a5 (by omega) (by omega) S.1) (ok_k X Y hA KS KR) rfl kl_Va_Va_stretch ks_Va_stretch kx_Va_stretch ki_Va_stretch ini_Va ⟨rfl, rfl⟩ hd_Va_stretch ⟨Nat.le_of_ble_eq_true rfl, Nat.le_of_ble_eq_true rfl⟩ rfl (Nat.le_of_ble_eq_true rfl) d_Va_passwordKey_98 ⟨Nat.le_of_ble_eq_true rfl, Nat.le_of_ble_eq_true rfl⟩) X Y hA S (by decide) (fun f128 H locs Y S s128 p128 => ?_)
          refine lv_aload_n X.1 X.2.1 d_Va_passwordKey_101 rfl (lv_at hl 0 rfl) ?_
          refine t_getr (ci := 11) X Y S k103 rfl i_Va 11 (by decide) rfl (k1 := 1) (k2 := 20) rfl rfl lk_Va_55 (fun _ h9 => h9) d_Va_passwordKey_102 (fun b129 e129 k129 => ?_)
          refine lv_iconst (v := iI 0) X.1 X.2.1 d_Va_passwordKey_105 (by decide) ?_
          refine lv_aload X.1 X.2.1 d_Va_passwordKey_106 (lv_at hl 2 rfl) ?_
          refine lv_iload X.1 X.2.1 d_Va_passwordKey_108 (lv_at hl 4 rfl) ?_
          refine lv_bipush (v := iI 20) X.1 X.2.1 d_Va_passwordKey_110 (by decide) ?_
          refine lv_aload X.1 X.2.1 d_Va_passwordKey_112 (lv_at hl 2 rfl) ?_
          refine t_alen X Y S KS (Or.inl k102) (by omega) d_Va_passwordKey_114 ?_
          refine lv_iload X.1 X.2.1 d_Va_passwordKey_115 (lv_at hl 4 rfl) ?_
          refine z_isub X.1 X.2.1 d_Va_passwordKey_117 ?_
          refine z_min X.1 X.2.1 (hml.trans hl.1.symm) X.2.2.2.1 (X.2.2.1 _ kl_Va_mmin) (X.2.2.1 _ ks_mmin) (X.2.2.1 _ ini_Math) (X.2.2.1 _ ki_mmin) (Nat.le_of_ble_eq_true rfl) (Nat.le_of_ble_eq_true rfl) (Nat.le_of_ble_eq_true rfl) (Nat.le_of_ble_eq_true rfl) ⟨by omega, by omega⟩ ⟨by omega, by omega⟩ d_Va_passwordKey_118 (fun z130 l130 u130 x130 => ?_)
          refine t_copyB X Y S KS (hml.trans hl.1.symm) kl_Va_copy (Or.inl k129) k102 (by omega) (by omega) (by omega) (by omega) (by omega) (by omega) (by omega) (nF_of S k102 (by decide)) (Nat.le_of_ble_eq_true rfl) (Nat.le_of_ble_eq_true rfl) d_Va_passwordKey_121 (fun f131 H locs Y S w131 => ?_)
          refine lv_iinc (v := iI (z115 + 20)) (lv' := [(8, .int (iI (z115 + 20))), (0, .ref h), (5, .int (iI a5)), (6, .ref q102), (7, .int (iI z109))]) X.1 X.2.1 d_Va_passwordKey_124 hl (k := 4) rfl ((iI_add _ _).trans (congrArg iI (by omega))) (by decide) rfl (fun ls hl => ?_)
          refine lv_goto (tgt := 64) X.1 X.2.1 d_Va_passwordKey_127 (by decide) ?_
          exact ih117 ((35 - (z115 + 20)).toNat) (by omega) (z115 + 20) f131 _ _ _ rfl (by omega) (by omega) Y S (lv_sub hl [1, 2, 3, 4, 0] rfl)
    refine lv_istore (lv' := [(8, .int (iI 0)), (7, .int (iI z109)), (6, .ref q102), (0, .ref h), (1, .int (iI a1)), (2, .ref a2), (3, .ref a3), (4, .int (iI a4)), (5, .int (iI a5))]) X.1 X.2.1 d_Va_passwordKey_62 hl (by decide) rfl (fun ls hl => ?_)
    exact J116 _ 0 f113 _ _ _ rfl (by omega) (by omega) Y S (lv_sub hl [3, 8, 2, 1, 0] rfl)
  · refine lv_bipush (v := iI 32) X.1 X.2.1 d_Va_passwordKey_6 (by decide) ?_
    refine lv_goto (tgt := 13) X.1 X.2.1 d_Va_passwordKey_8 (by decide) ?_
    refine t_newB X Y S hA hF0 (N := 32) (mx := 32) (by omega) (by omega) (by decide) (Nat.le_of_ble_eq_true rfl) (Nat.le_of_ble_eq_true rfl) d_Va_passwordKey_13 (fun q132 κ132 L132 f132 H Y S s132 k132 => ?_)
    have k133 : κ132 h = (21, 0) := tLe_k s132.2.2.1 k0
    have k134 : κ132 a2 = (13, n2) := tLe_k s132.2.2.1 k2
    have k135 : κ132 a3 = (13, n3) := tLe_k s132.2.2.1 k3
    refine lv_astore (lv' := [(6, .ref q132), (0, .ref h), (1, .int (iI a1)), (2, .ref a2), (3, .ref a3), (4, .int (iI a4)), (5, .int (iI a5))]) X.1 X.2.1 d_Va_passwordKey_15 hl (by decide) rfl (fun ls hl => ?_)
    refine lv_aload_n X.1 X.2.1 d_Va_passwordKey_17 rfl (lv_at hl 1 rfl) ?_
    refine t_getr (ci := 11) X Y S k133 rfl i_Va 12 (by decide) rfl (k1 := 13) (k2 := 64) rfl rfl lk_Va_58 (fun _ h9 => h9) d_Va_passwordKey_18 (fun b136 e136 k136 => ?_)
    refine t_nv (t_runV (As := []) (rest := []) (n := 0) X Y S k136 hml hl.1 (c_By_clear l D E T κ132 L132 f132 H.size b136 64 k136 (by omega) S.1) (ok_k X Y hA KS KR) rfl kl_Va_By_clear ks_By_clear kx_By_clear ki_By_clear ini_By ⟨rfl, rfl⟩ hd_By_clear ⟨Nat.le_of_ble_eq_true rfl, Nat.le_of_ble_eq_true rfl⟩ rfl (Nat.le_of_ble_eq_true rfl) d_Va_passwordKey_21 ⟨Nat.le_of_ble_eq_true rfl, Nat.le_of_ble_eq_true rfl⟩) X Y hA S (by decide) (fun f137 H locs Y S s137 p137 => ?_)
    refine lv_aload_n X.1 X.2.1 d_Va_passwordKey_24 rfl (lv_at hl 1 rfl) ?_
    refine t_get0 (ci := 11) X Y S k133 rfl i_Va 12 (by decide) rfl lk_Va_58 (fun _ h9 => h9) d_Va_passwordKey_25 ((gF_same (s137.2.2.2 _ ⟨(t_obj S.1 k133).1, nM_of k133 (by decide), by simp⟩).1 12).trans e136) ?_
    refine lv_aload_n X.1 X.2.1 d_Va_passwordKey_28 rfl (lv_at hl 3 rfl) ?_
    refine t_nv (x_runS (As := [.ref b136, .ref a2]) (rest := []) (n := 2) X hml hl.1 (c_Va_putSalt l D E T κ132 L132 f137 H.size b136 64 k136 (by omega) a2 n2 k134 (by omega) S.1) (ok_k X Y hA KS KR) kl_Va_Va_putSalt ks_Va_putSalt ki_Va_putSalt ini_Va ⟨rfl, rfl⟩ hd_Va_putSalt.2 ⟨Nat.le_of_ble_eq_true rfl, Nat.le_of_ble_eq_true rfl⟩ rfl (Nat.le_of_ble_eq_true rfl) d_Va_passwordKey_29 ⟨Nat.le_of_ble_eq_true rfl, Nat.le_of_ble_eq_true rfl⟩) X Y hA S (by decide) (fun f138 H locs Y S s138 p138 => ?_)
    refine lv_aload_n X.1 X.2.1 d_Va_passwordKey_32 rfl (lv_at hl 1 rfl) ?_
    refine t_get0 (ci := 11) X Y S k133 rfl i_Va 12 (by decide) rfl lk_Va_58 (fun _ h9 => h9) d_Va_passwordKey_33 ((gF_same (s138.2.2.2 _ ⟨(t_obj S.1 k133).1, nM_of k133 (by decide), by simp⟩).1 12).trans ((gF_same (s137.2.2.2 _ ⟨(t_obj S.1 k133).1, nM_of k133 (by decide), by simp⟩).1 12).trans e136)) ?_
    refine t_gets (ci := 3) X Y S k136 rfl i_By 1 (by decide) rfl lk_Va_77 (fun _ h9 => h9) d_Va_passwordKey_36 (fun z139 e139 l139 u139 => ?_)
    refine lv_istore (lv' := [(7, .int (iI z139)), (6, .ref q132), (0, .ref h), (1, .int (iI a1)), (2, .ref a2), (3, .ref a3), (4, .int (iI a4)), (5, .int (iI a5))]) X.1 X.2.1 d_Va_passwordKey_39 hl (by decide) rfl (fun ls hl => ?_)
    refine lv_aload_n X.1 X.2.1 d_Va_passwordKey_41 rfl (lv_at hl 2 rfl) ?_
    refine t_getr (ci := 11) X Y S k133 rfl i_Va 3 (by decide) rfl (k1 := 16) (k2 := 0) rfl rfl lk_Va_31 (fun _ h9 => h9) d_Va_passwordKey_42 (fun b140 e140 k140 => ?_)
    refine lv_aload_n X.1 X.2.1 d_Va_passwordKey_45 rfl (lv_at hl 5 rfl) ?_
    refine t_getrow (ci := 3) X Y S k135 rfl i_By 0 (by decide) rfl lk_Va_86 (fun _ h9 => h9) d_Va_passwordKey_46 (fun b141 e141 k141 => ?_)
    refine lv_iload X.1 X.2.1 d_Va_passwordKey_49 (lv_at hl 6 rfl) ?_
    refine lv_aload_n X.1 X.2.1 d_Va_passwordKey_51 rfl (lv_at hl 5 rfl) ?_
    refine t_gets (ci := 3) X Y S k135 rfl i_By 1 (by decide) rfl lk_Va_77 (fun _ h9 => h9) d_Va_passwordKey_52 (fun z142 e142 l142 u142 => ?_)
    refine lv_iload X.1 X.2.1 d_Va_passwordKey_55 (lv_at hl 6 rfl) ?_
    refine z_isub X.1 X.2.1 d_Va_passwordKey_57 ?_
    refine t_nv (t_runV (As := [.ref b141, .int (iI a4), .int (iI (z142 - a4))]) (rest := []) (n := 3) X Y S k140 hml hl.1 (c_Ha_setKey l D E T κ132 L132 f138 H.size b140 k140 b141 n3 (Or.inl k141) (by omega) a4 (by omega) (by omega) (z142 - a4) (by omega) (by omega) S.1) (ok_k X Y hA KS KR) rfl kl_Va_Ha_setKey ks_Ha_setKey kx_Ha_setKey ki_Ha_setKey ini_Ha ⟨rfl, rfl⟩ hd_Ha_setKey ⟨Nat.le_of_ble_eq_true rfl, Nat.le_of_ble_eq_true rfl⟩ rfl (Nat.le_of_ble_eq_true rfl) d_Va_passwordKey_58 ⟨Nat.le_of_ble_eq_true rfl, Nat.le_of_ble_eq_true rfl⟩) X Y hA S (by decide) (fun f143 H locs Y S s143 p143 => ?_)
    refine lv_iconst (v := iI 0) X.1 X.2.1 d_Va_passwordKey_61 (by decide) ?_
    have J146 : ∀ (n148 : Nat) (z145 : Int) (f144 : pF) (H : Heap) (locs : List Loc) (ls : Array Slot), (51 - z145).toNat = n148 → (0 ≤ z145) → (z145 ≤ 51) → pH D cCl (pA L sz) s.heap L132 f144 H locs → tS E T (tFr κ L [1, 2, 3, 4, 11, 13, 16] []) κ L f κ132 L132 f144 → lv_has ls 9 [(0, .ref h), (5, .int (iI a5)), (6, .ref q132), (7, .int (iI z139)), (8, .int (iI z145))] → W p l e (kRm 6 153 1 32) s m AV below meth c H locs 1 32 QQ (F0 m 64 ls []) := by
      intro n148
      induction n148 using Nat.strongRecOn with
      | ind n148 ih147 =>
        intro z145 f144 H locs ls hm149 l145 u145 Y S hl
        refine lv_iload X.1 X.2.1 d_Va_passwordKey_64 (lv_at hl 4 rfl) ?_
        refine lv_aload X.1 X.2.1 d_Va_passwordKey_66 (lv_at hl 2 rfl) ?_
        refine t_alen X Y S KS (Or.inl k132) (by omega) d_Va_passwordKey_68 ?_
        refine z_icmp_ge (tgt := 130) X.1 X.2.1 d_Va_passwordKey_69 (by decide) ⟨by omega, by omega⟩ ⟨by omega, by omega⟩ (fun h150 => ?_) (fun h150 => ?_)
        · refine lv_aload_n X.1 X.2.1 d_Va_passwordKey_130 rfl (lv_at hl 0 rfl) ?_
          refine t_getr (ci := 11) X Y S k133 rfl i_Va 4 (by decide) rfl (k1 := 11) (k2 := 0) rfl rfl lk_Va_38 (fun _ h9 => h9) d_Va_passwordKey_131 (fun b151 e151 k151 => ?_)
          refine lv_aload X.1 X.2.1 d_Va_passwordKey_134 (lv_at hl 2 rfl) ?_
          refine lv_aload X.1 X.2.1 d_Va_passwordKey_136 (lv_at hl 2 rfl) ?_
          refine t_alen X Y S KS (Or.inl k132) (by omega) d_Va_passwordKey_138 ?_
          refine t_nv (t_runV (As := [.ref q132, .int (iI 32)]) (rest := []) (n := 2) X Y S k151 hml hl.1 (c_Ae_setKey l D E T κ132 L132 f144 H.size b151 k151 q132 32 (Or.inl k132) (by omega) 32 (by omega) (by omega) S.1) (ok_k X Y hA KS KR) rfl kl_Va_Ae_setKey ks_Ae_setKey kx_Ae_setKey ki_Ae_setKey ini_Ae ⟨rfl, rfl⟩ hd_Ae_setKey ⟨Nat.le_of_ble_eq_true rfl, Nat.le_of_ble_eq_true rfl⟩ rfl (Nat.le_of_ble_eq_true rfl) d_Va_passwordKey_139 ⟨Nat.le_of_ble_eq_true rfl, Nat.le_of_ble_eq_true rfl⟩) X Y hA S (by decide) (fun f152 H locs Y S s152 p152 => ?_)
          refine k_gets 2 (by decide) X Y KS sk_Va_151 d_Va_passwordKey_142 ?_
          refine lv_iconst (v := iI 0) X.1 X.2.1 d_Va_passwordKey_145 (by decide) ?_
          refine lv_aload X.1 X.2.1 d_Va_passwordKey_146 (lv_at hl 2 rfl) ?_
          refine lv_iconst (v := iI 0) X.1 X.2.1 d_Va_passwordKey_148 (by decide) ?_
          refine lv_bipush (v := iI 16) X.1 X.2.1 d_Va_passwordKey_149 (by decide) ?_
          refine t_copyK X Y S KS (hml.trans hl.1.symm) kl_Va_copy k132 (by omega) (by omega) (by omega) (by omega) (by omega) (by omega) (nF_of S k132 (by decide)) (Nat.le_of_ble_eq_true rfl) (Nat.le_of_ble_eq_true rfl) d_Va_passwordKey_151 (fun f153 H locs Y S w153 => ?_)
          refine lv_aload_n X.1 X.2.1 d_Va_passwordKey_154 rfl (lv_at hl 0 rfl) ?_
          refine lv_aload X.1 X.2.1 d_Va_passwordKey_155 (lv_at hl 2 rfl) ?_
          refine lv_aload X.1 X.2.1 d_Va_passwordKey_157 (lv_at hl 2 rfl) ?_
          refine t_alen X Y S KS (Or.inl k132) (by omega) d_Va_passwordKey_159 ?_
          refine t_nv (t_runV (As := [.ref q132, .int (iI 32)]) (rest := []) (n := 2) X Y S k133 hml hl.1 (c_Va_chain l D E T κ132 L132 f153 H.size h k133 q132 32 k132 (by omega) 32 (by omega) (by omega) S.1) (ok_k X Y hA KS KR) rfl kl_Va_Va_chain ks_Va_chain kx_Va_chain ki_Va_chain ini_Va ⟨rfl, rfl⟩ hd_Va_chain ⟨Nat.le_of_ble_eq_true rfl, Nat.le_of_ble_eq_true rfl⟩ rfl (Nat.le_of_ble_eq_true rfl) d_Va_passwordKey_160 ⟨Nat.le_of_ble_eq_true rfl, Nat.le_of_ble_eq_true rfl⟩) X Y hA S (by decide) (fun f154 H locs Y S s154 p154 => ?_)
          refine lv_aload X.1 X.2.1 d_Va_passwordKey_163 (lv_at hl 2 rfl) ?_
          exact k_retr hQQ X Y hr (Or.inr ⟨_, rfl⟩) hlk ⟨κ132, S, ⟨32, (Or.inl ⟨k132, by omega⟩)⟩⟩ d_Va_passwordKey_165
        · refine lv_aload_n X.1 X.2.1 d_Va_passwordKey_72 rfl (lv_at hl 0 rfl) ?_
          refine t_getr (ci := 11) X Y S k133 rfl i_Va 12 (by decide) rfl (k1 := 13) (k2 := 64) rfl rfl lk_Va_58 (fun _ h9 => h9) d_Va_passwordKey_73 (fun b155 e155 k155 => ?_)
          refine lv_iload X.1 X.2.1 d_Va_passwordKey_76 (lv_at hl 3 rfl) ?_
          refine t_put (ci := 3) X Y S k155 rfl i_By t_By t_By_ok n_By 1 (by decide) rfl lk_Va_77 (fun _ h9 => h9) rfl (t_By_ok 1 (by decide)) rfl rfl ⟨_, rfl, by omega, by omega⟩ (nF_of S k155 (by decide)) d_Va_passwordKey_78 (fun f156 H locs Y S w156 => ?_)
          refine lv_aload_n X.1 X.2.1 d_Va_passwordKey_81 rfl (lv_at hl 0 rfl) ?_
          refine t_get0 (ci := 11) X Y S k133 rfl i_Va 12 (by decide) rfl lk_Va_58 (fun _ h9 => h9) d_Va_passwordKey_82 ((gF_put w156 (Or.inr (by decide))).trans e155) ?_
          refine lv_iload X.1 X.2.1 d_Va_passwordKey_85 (lv_at hl 4 rfl) ?_
          refine lv_bipush (v := iI 20) X.1 X.2.1 d_Va_passwordKey_87 (by decide) ?_
          refine z_idiv X.1 X.2.1 (by omega) (by omega) ⟨by decide, by decide⟩ d_Va_passwordKey_89 ?_
          refine lv_iconst (v := iI 1) X.1 X.2.1 d_Va_passwordKey_90 (by decide) ?_
          refine z_iadd X.1 X.2.1 d_Va_passwordKey_91 ?_
          refine t_nv (t_runV (As := [.int (iI ((z145 / 20) + 1))]) (rest := []) (n := 1) X Y S k155 hml hl.1 (c_By_putWord l D E T κ132 L132 f156 H.size b155 64 k155 (by omega) ((z145 / 20) + 1) (by omega) (by omega) S.1) (ok_k X Y hA KS KR) rfl kl_Va_By_putWord ks_By_putWord kx_By_putWord ki_By_putWord ini_By ⟨rfl, rfl⟩ hd_By_putWord ⟨Nat.le_of_ble_eq_true rfl, Nat.le_of_ble_eq_true rfl⟩ rfl (Nat.le_of_ble_eq_true rfl) d_Va_passwordKey_92 ⟨Nat.le_of_ble_eq_true rfl, Nat.le_of_ble_eq_true rfl⟩) X Y hA S (by decide) (fun f157 H locs Y S s157 p157 => ?_)
          refine lv_aload_n X.1 X.2.1 d_Va_passwordKey_95 rfl (lv_at hl 0 rfl) ?_
          refine lv_iload X.1 X.2.1 d_Va_passwordKey_96 (lv_at hl 1 rfl) ?_
          refine t_nv (t_runV (As := [.int (iI a5)]) (rest := []) (n := 1) X Y S k133 hml hl.1 (c_Va_stretch l D E T κ132 L132 f157 H.size h k133 a5 (by omega) (by omega) S.1) (ok_k X Y hA KS KR) rfl kl_Va_Va_stretch ks_Va_stretch kx_Va_stretch ki_Va_stretch ini_Va ⟨rfl, rfl⟩ hd_Va_stretch ⟨Nat.le_of_ble_eq_true rfl, Nat.le_of_ble_eq_true rfl⟩ rfl (Nat.le_of_ble_eq_true rfl) d_Va_passwordKey_98 ⟨Nat.le_of_ble_eq_true rfl, Nat.le_of_ble_eq_true rfl⟩) X Y hA S (by decide) (fun f158 H locs Y S s158 p158 => ?_)
          refine lv_aload_n X.1 X.2.1 d_Va_passwordKey_101 rfl (lv_at hl 0 rfl) ?_
          refine t_getr (ci := 11) X Y S k133 rfl i_Va 11 (by decide) rfl (k1 := 1) (k2 := 20) rfl rfl lk_Va_55 (fun _ h9 => h9) d_Va_passwordKey_102 (fun b159 e159 k159 => ?_)
          refine lv_iconst (v := iI 0) X.1 X.2.1 d_Va_passwordKey_105 (by decide) ?_
          refine lv_aload X.1 X.2.1 d_Va_passwordKey_106 (lv_at hl 2 rfl) ?_
          refine lv_iload X.1 X.2.1 d_Va_passwordKey_108 (lv_at hl 4 rfl) ?_
          refine lv_bipush (v := iI 20) X.1 X.2.1 d_Va_passwordKey_110 (by decide) ?_
          refine lv_aload X.1 X.2.1 d_Va_passwordKey_112 (lv_at hl 2 rfl) ?_
          refine t_alen X Y S KS (Or.inl k132) (by omega) d_Va_passwordKey_114 ?_
          refine lv_iload X.1 X.2.1 d_Va_passwordKey_115 (lv_at hl 4 rfl) ?_
          refine z_isub X.1 X.2.1 d_Va_passwordKey_117 ?_
          refine z_min X.1 X.2.1 (hml.trans hl.1.symm) X.2.2.2.1 (X.2.2.1 _ kl_Va_mmin) (X.2.2.1 _ ks_mmin) (X.2.2.1 _ ini_Math) (X.2.2.1 _ ki_mmin) (Nat.le_of_ble_eq_true rfl) (Nat.le_of_ble_eq_true rfl) (Nat.le_of_ble_eq_true rfl) (Nat.le_of_ble_eq_true rfl) ⟨by omega, by omega⟩ ⟨by omega, by omega⟩ d_Va_passwordKey_118 (fun z160 l160 u160 x160 => ?_)
          refine t_copyB X Y S KS (hml.trans hl.1.symm) kl_Va_copy (Or.inl k159) k132 (by omega) (by omega) (by omega) (by omega) (by omega) (by omega) (by omega) (nF_of S k132 (by decide)) (Nat.le_of_ble_eq_true rfl) (Nat.le_of_ble_eq_true rfl) d_Va_passwordKey_121 (fun f161 H locs Y S w161 => ?_)
          refine lv_iinc (v := iI (z145 + 20)) (lv' := [(8, .int (iI (z145 + 20))), (0, .ref h), (5, .int (iI a5)), (6, .ref q132), (7, .int (iI z139))]) X.1 X.2.1 d_Va_passwordKey_124 hl (k := 4) rfl ((iI_add _ _).trans (congrArg iI (by omega))) (by decide) rfl (fun ls hl => ?_)
          refine lv_goto (tgt := 64) X.1 X.2.1 d_Va_passwordKey_127 (by decide) ?_
          exact ih147 ((51 - (z145 + 20)).toNat) (by omega) (z145 + 20) f161 _ _ _ rfl (by omega) (by omega) Y S (lv_sub hl [1, 2, 3, 4, 0] rfl)
    refine lv_istore (lv' := [(8, .int (iI 0)), (7, .int (iI z139)), (6, .ref q132), (0, .ref h), (1, .int (iI a1)), (2, .ref a2), (3, .ref a3), (4, .int (iI a4)), (5, .int (iI a5))]) X.1 X.2.1 d_Va_passwordKey_62 hl (by decide) rfl (fun ls hl => ?_)
    exact J146 _ 0 f143 _ _ _ rfl (by omega) (by omega) Y S (lv_sub hl [3, 8, 2, 1, 0] rfl)
set_option maxHeartbeats 4000000 in
set_option maxRecDepth 100000 in
theorem c_Va_fold (l : Launch) (D : va_G) (E : cE) (T : cT) (κ : tK) (L : List Nat) (f : pF) (sz : Nat) (h : Nat) (k0 : κ h = (21, 0)) (a1 : Int) (l_a1 : (-2147483648) ≤ a1) (u_a1 : a1 ≤ 2147483647) (a2 : Int) (l_a2 : (-2147483648) ≤ a2) (u_a2 : a2 ≤ 2147483647) (hw : tW E T κ L f) : Met l y_Va_fold (k_Va_fold :: lw_tg) (kRm 1 60 0 0) (va_Pc [.ref h, .int (iI a1), .int (iI a2)] (kPre D E T L f sz)) (va_Qv (nPv E T [1] κ L f (fun (g : pF) => True)) (cPost D E (pA L sz)) (pA L sz)) 0 0 (pA L sz) := by
  refine k_enter (own := R_Va) (by decide) rfl (Nat.le_of_ble_eq_true rfl) (fun p e s m below meth c ls AV QQ H locs hQQ X Y hA hin hr hlk hml hl KS KR => ?_)
  have hl : lv_has ls 10 [(0, .ref h), (1, .int (iI a1)), (2, .int (iI a2))] := hl
  have S : tS E T (tFr κ L [1] []) κ L f κ L f := tS_rf hw
  refine lv_iload_n X.1 X.2.1 d_Va_fold_0 rfl (lv_at hl 1 rfl) ?_
  refine lv_i2l X.1 X.2.1 d_Va_fold_1 rfl ?_
  refine t_anyl (fun v101 => ?_)
  refine lv_bipush (v := iI 8) X.1 X.2.1 d_Va_fold_2 (by decide) ?_
  refine lv_lshl X.1 X.2.1 d_Va_fold_4 rfl ?_
  refine t_anyl (fun v102 => ?_)
  refine lv_iload_n X.1 X.2.1 d_Va_fold_5 rfl (lv_at hl 2 rfl) ?_
  refine lv_i2l X.1 X.2.1 d_Va_fold_6 rfl ?_
  refine t_anyl (fun v103 => ?_)
  refine lv_lor X.1 X.2.1 d_Va_fold_7 ?_
  refine t_anyl (fun v104 => ?_)
  refine lv_lstore_n (lv' := [(3, .long v104), (0, .ref h), (1, .int (iI a1)), (2, .int (iI a2))]) X.1 X.2.1 d_Va_fold_8 rfl hl (by decide) rfl (fun ls hl => ?_)
  refine lv_iconst (v := iI 0) X.1 X.2.1 d_Va_fold_9 (by decide) ?_
  have J107 : ∀ (n109 : Nat) (z106 : Int) (f105 : pF) (H : Heap) (locs : List Loc) (ls : Array Slot), (16 - z106).toNat = n109 → (0 ≤ z106) → (z106 ≤ 16) → pH D cCl (pA L sz) s.heap L f105 H locs → tS E T (tFr κ L [1] []) κ L f κ L f105 → lv_has ls 10 [(0, .ref h), (3, .long v104), (5, .int (iI z106))] → W p l e (kRm 1 60 0 0) s m AV below meth c H locs 0 0 QQ (F0 m 12 ls []) := by
    intro n109
    induction n109 using Nat.strongRecOn with
    | ind n109 ih108 =>
      intro z106 f105 H locs ls hm110 l106 u106 Y S hl
      refine lv_iload X.1 X.2.1 d_Va_fold_12 (lv_at hl 2 rfl) ?_
      refine lv_bipush (v := iI 16) X.1 X.2.1 d_Va_fold_14 (by decide) ?_
      refine z_icmp_ge (tgt := 33) X.1 X.2.1 d_Va_fold_16 (by decide) ⟨by omega, by omega⟩ ⟨by omega, by omega⟩ (fun h111 => ?_) (fun h111 => ?_)
      · refine lv_iconst (v := iI 0) X.1 X.2.1 d_Va_fold_33 (by decide) ?_
        refine lv_istore (lv' := [(5, .int (iI 0)), (0, .ref h), (3, .long v104)]) X.1 X.2.1 d_Va_fold_34 hl (by decide) rfl (fun ls hl => ?_)
        refine lv_bipush (v := iI 79) X.1 X.2.1 d_Va_fold_36 (by decide) ?_
        have J115 : ∀ (n117 : Nat) (z113 : Int) (z114 : Int) (f112 : pF) (H : Heap) (locs : List Loc) (ls : Array Slot), (z114 - (-1)).toNat = n117 → ((-2147483648) ≤ z113) → (z113 ≤ 2147483647) → ((-1) ≤ z114) → (z114 ≤ 79) → pH D cCl (pA L sz) s.heap L f112 H locs → tS E T (tFr κ L [1] []) κ L f κ L f112 → lv_has ls 10 [(0, .ref h), (3, .long v104), (5, .int (iI z113)), (6, .int (iI z114))] → W p l e (kRm 1 60 0 0) s m AV below meth c H locs 0 0 QQ (F0 m 40 ls []) := by
          intro n117
          induction n117 using Nat.strongRecOn with
          | ind n117 ih116 =>
            intro z113 z114 f112 H locs ls hm118 l113 u113 l114 u114 Y S hl
            refine lv_iload X.1 X.2.1 d_Va_fold_40 (lv_at hl 3 rfl) ?_
            refine z_if_lt (tgt := 134) X.1 X.2.1 d_Va_fold_42 (by decide) ⟨by omega, by omega⟩ (fun h119 => ?_) (fun h119 => ?_)
            · refine lv_bipush (v := iI 15) X.1 X.2.1 d_Va_fold_134 (by decide) ?_
              have J123 : ∀ (n125 : Nat) (z121 : Int) (z122 : Int) (f120 : pF) (H : Heap) (locs : List Loc) (ls : Array Slot), (z122 - (-1)).toNat = n125 → ((-2147483648) ≤ z121) → (z121 ≤ 2147483647) → ((-1) ≤ z122) → (z122 ≤ 15) → pH D cCl (pA L sz) s.heap L f120 H locs → tS E T (tFr κ L [1] []) κ L f κ L f120 → lv_has ls 10 [(0, .ref h), (5, .int (iI z121)), (6, .int (iI z122))] → W p l e (kRm 1 60 0 0) s m AV below meth c H locs 0 0 QQ (F0 m 138 ls []) := by
                intro n125
                induction n125 using Nat.strongRecOn with
                | ind n125 ih124 =>
                  intro z121 z122 f120 H locs ls hm126 l121 u121 l122 u122 Y S hl
                  refine lv_iload X.1 X.2.1 d_Va_fold_138 (lv_at hl 2 rfl) ?_
                  refine z_if_lt (tgt := 187) X.1 X.2.1 d_Va_fold_140 (by decide) ⟨by omega, by omega⟩ (fun h127 => ?_) (fun h127 => ?_)
                  · exact c_retv hQQ X Y hr hlk ⟨rfl, S, trivial⟩ d_Va_fold_187
                  · refine lv_iload X.1 X.2.1 d_Va_fold_143 (lv_at hl 1 rfl) ?_
                    refine z_if_le (tgt := 187) X.1 X.2.1 d_Va_fold_145 (by decide) ⟨by omega, by omega⟩ (fun h128 => ?_) (fun h128 => ?_)
                    · exact c_retv hQQ X Y hr hlk ⟨rfl, S, trivial⟩ d_Va_fold_187
                    · refine lv_iload X.1 X.2.1 d_Va_fold_148 (lv_at hl 1 rfl) ?_
                      refine lv_aload_n X.1 X.2.1 d_Va_fold_150 rfl (lv_at hl 0 rfl) ?_
                      refine t_getr (ci := 11) X Y S k0 rfl i_Va 10 (by decide) rfl (k1 := 1) (k2 := 32) rfl rfl lk_Va_52 (fun _ h9 => h9) d_Va_fold_151 (fun b129 e129 k129 => ?_)
                      refine lv_iload X.1 X.2.1 d_Va_fold_154 (lv_at hl 2 rfl) ?_
                      refine t_bald X Y S (Or.inl k129) (by omega) (by omega) (by omega) d_Va_fold_156 (fun z130 l130 u130 => ?_)
                      refine lv_sipush (v := iI 255) X.1 X.2.1 d_Va_fold_157 (by decide) ?_
                      refine z_iand X.1 X.2.1 (by omega) (by omega) d_Va_fold_160 (fun z131 l131 u131 => ?_)
                      refine lv_iadd X.1 X.2.1 d_Va_fold_161 ?_
                      refine t_u (fun z132 l132 u132 => ?_)
                      refine lv_istore (lv' := [(5, .int (iI z132)), (0, .ref h), (6, .int (iI z122))]) X.1 X.2.1 d_Va_fold_162 hl (by decide) rfl (fun ls hl => ?_)
                      refine lv_aload_n X.1 X.2.1 d_Va_fold_164 rfl (lv_at hl 1 rfl) ?_
                      refine t_get0 (ci := 11) X Y S k0 rfl i_Va 10 (by decide) rfl lk_Va_52 (fun _ h9 => h9) d_Va_fold_165 e129 ?_
                      refine lv_iload X.1 X.2.1 d_Va_fold_168 (lv_at hl 2 rfl) ?_
                      refine lv_iload X.1 X.2.1 d_Va_fold_170 (lv_at hl 0 rfl) ?_
                      refine lv_i2b X.1 X.2.1 d_Va_fold_172 rfl ?_
                      refine t_u (fun z133 l133 u133 => ?_)
                      refine t_bast X Y S k129 (by omega) (by omega) (by omega) (nF_of S k129 (by decide)) d_Va_fold_173 (fun f134 H locs Y S w134 => ?_)
                      refine lv_iload X.1 X.2.1 d_Va_fold_174 (lv_at hl 0 rfl) ?_
                      refine lv_bipush (v := iI 8) X.1 X.2.1 d_Va_fold_176 (by decide) ?_
                      refine lv_ishr X.1 X.2.1 d_Va_fold_178 ?_
                      refine t_u (fun z135 l135 u135 => ?_)
                      refine lv_istore (lv' := [(5, .int (iI z135)), (0, .ref h), (6, .int (iI z122))]) X.1 X.2.1 d_Va_fold_179 hl (by decide) rfl (fun ls hl => ?_)
                      refine lv_iinc (v := iI (z122 - 1)) (lv' := [(6, .int (iI (z122 - 1))), (5, .int (iI z135)), (0, .ref h)]) X.1 X.2.1 d_Va_fold_181 hl (k := 2) rfl ((iI_add _ _).trans (congrArg iI (by omega))) (by decide) rfl (fun ls hl => ?_)
                      refine lv_goto (tgt := 138) X.1 X.2.1 d_Va_fold_184 (by decide) ?_
                      exact ih124 (((z122 - 1) - (-1)).toNat) (by omega) z135 (z122 - 1) f134 _ _ _ rfl (by omega) (by omega) (by omega) (by omega) Y S (lv_sub hl [2, 1, 0] rfl)
              refine lv_istore (lv' := [(6, .int (iI 15)), (0, .ref h), (3, .long v104), (5, .int (iI z113))]) X.1 X.2.1 d_Va_fold_136 hl (by decide) rfl (fun ls hl => ?_)
              exact J123 _ z113 15 f112 _ _ _ rfl (by omega) (by omega) (by omega) (by omega) Y S (lv_sub hl [1, 3, 0] rfl)
            · refine lv_iload X.1 X.2.1 d_Va_fold_45 (lv_at hl 3 rfl) ?_
              refine lv_iconst (v := iI 5) X.1 X.2.1 d_Va_fold_47 (by decide) ?_
              refine z_idiv X.1 X.2.1 (by omega) (by omega) ⟨by decide, by decide⟩ d_Va_fold_48 ?_
              refine lv_bipush (v := iI 13) X.1 X.2.1 d_Va_fold_49 (by decide) ?_
              refine z_imul X.1 X.2.1 d_Va_fold_51 ?_
              refine lv_bipush (v := iI 8) X.1 X.2.1 d_Va_fold_52 (by decide) ?_
              refine lv_iconst (v := iI 4) X.1 X.2.1 d_Va_fold_54 (by decide) ?_
              refine lv_iload X.1 X.2.1 d_Va_fold_55 (lv_at hl 3 rfl) ?_
              refine lv_iconst (v := iI 5) X.1 X.2.1 d_Va_fold_57 (by decide) ?_
              refine z_irem X.1 X.2.1 (by omega) (by omega) ⟨by decide, by decide⟩ d_Va_fold_58 ?_
              refine z_isub X.1 X.2.1 d_Va_fold_59 ?_
              refine z_imul X.1 X.2.1 d_Va_fold_60 ?_
              refine z_iadd X.1 X.2.1 d_Va_fold_61 ?_
              refine lv_bipush (v := iI 40) X.1 X.2.1 d_Va_fold_62 (by decide) ?_
              refine z_irem X.1 X.2.1 (by omega) (by omega) ⟨by decide, by decide⟩ d_Va_fold_64 ?_
              refine lv_istore (lv' := [(7, .int (iI ((((z114 / 5) * 13) + (8 * (4 - (z114 % 5)))) % 40))), (0, .ref h), (3, .long v104), (5, .int (iI z113)), (6, .int (iI z114))]) X.1 X.2.1 d_Va_fold_65 hl (by decide) rfl (fun ls hl => ?_)
              refine lv_lload_n X.1 X.2.1 d_Va_fold_67 rfl (lv_at hl 2 rfl) ?_
              refine lv_iload X.1 X.2.1 d_Va_fold_68 (lv_at hl 0 rfl) ?_
              refine lv_lushr X.1 X.2.1 d_Va_fold_70 rfl ?_
              refine t_anyl (fun v136 => ?_)
              refine lv_lload_n X.1 X.2.1 d_Va_fold_71 rfl (lv_at hl 2 rfl) ?_
              refine lv_bipush (v := iI 40) X.1 X.2.1 d_Va_fold_72 (by decide) ?_
              refine lv_iload X.1 X.2.1 d_Va_fold_74 (lv_at hl 0 rfl) ?_
              refine z_isub X.1 X.2.1 d_Va_fold_76 ?_
              refine lv_lshl X.1 X.2.1 d_Va_fold_77 rfl ?_
              refine t_anyl (fun v137 => ?_)
              refine lv_lor X.1 X.2.1 d_Va_fold_78 ?_
              refine t_anyl (fun v138 => ?_)
              refine lv_lstore (lv' := [(8, .long v138), (7, .int (iI ((((z114 / 5) * 13) + (8 * (4 - (z114 % 5)))) % 40))), (0, .ref h), (3, .long v104), (5, .int (iI z113)), (6, .int (iI z114))]) X.1 X.2.1 d_Va_fold_79 hl (by decide) rfl (fun ls hl => ?_)
              refine lv_iload X.1 X.2.1 d_Va_fold_81 (lv_at hl 4 rfl) ?_
              refine lv_lload X.1 X.2.1 d_Va_fold_83 (lv_at hl 0 rfl) ?_
              refine lv_ldc2 (v := (255)) X.1 X.2.1 X.2.2.2.1 (X.2.2.1 _ cl_Va_164) d_Va_fold_85 ?_
              refine lv_land X.1 X.2.1 d_Va_fold_88 ?_
              refine t_anyl (fun v139 => ?_)
              refine lv_l2i X.1 X.2.1 d_Va_fold_89 rfl ?_
              refine t_u (fun z140 l140 u140 => ?_)
              refine lv_aload_n X.1 X.2.1 d_Va_fold_90 rfl (lv_at hl 2 rfl) ?_
              refine t_getr (ci := 11) X Y S k0 rfl i_Va 10 (by decide) rfl (k1 := 1) (k2 := 32) rfl rfl lk_Va_52 (fun _ h9 => h9) d_Va_fold_91 (fun b141 e141 k141 => ?_)
              refine lv_iload X.1 X.2.1 d_Va_fold_94 (lv_at hl 5 rfl) ?_
              refine lv_bipush (v := iI 16) X.1 X.2.1 d_Va_fold_96 (by decide) ?_
              refine z_irem X.1 X.2.1 (by omega) (by omega) ⟨by decide, by decide⟩ d_Va_fold_98 ?_
              refine t_bald X Y S (Or.inl k141) (by omega) (by omega) (by omega) d_Va_fold_99 (fun z142 l142 u142 => ?_)
              refine lv_sipush (v := iI 255) X.1 X.2.1 d_Va_fold_100 (by decide) ?_
              refine z_iand X.1 X.2.1 (by omega) (by omega) d_Va_fold_103 (fun z143 l143 u143 => ?_)
              refine lv_iadd X.1 X.2.1 d_Va_fold_104 ?_
              refine t_u (fun z144 l144 u144 => ?_)
              refine lv_iadd X.1 X.2.1 d_Va_fold_105 ?_
              refine t_u (fun z145 l145 u145 => ?_)
              refine lv_istore (lv' := [(5, .int (iI z145)), (8, .long v138), (7, .int (iI ((((z114 / 5) * 13) + (8 * (4 - (z114 % 5)))) % 40))), (0, .ref h), (3, .long v104), (6, .int (iI z114))]) X.1 X.2.1 d_Va_fold_106 hl (by decide) rfl (fun ls hl => ?_)
              refine lv_aload_n X.1 X.2.1 d_Va_fold_108 rfl (lv_at hl 3 rfl) ?_
              refine t_get0 (ci := 11) X Y S k0 rfl i_Va 10 (by decide) rfl lk_Va_52 (fun _ h9 => h9) d_Va_fold_109 e141 ?_
              refine lv_iload X.1 X.2.1 d_Va_fold_112 (lv_at hl 5 rfl) ?_
              refine lv_bipush (v := iI 16) X.1 X.2.1 d_Va_fold_114 (by decide) ?_
              refine z_irem X.1 X.2.1 (by omega) (by omega) ⟨by decide, by decide⟩ d_Va_fold_116 ?_
              refine lv_iload X.1 X.2.1 d_Va_fold_117 (lv_at hl 0 rfl) ?_
              refine lv_i2b X.1 X.2.1 d_Va_fold_119 rfl ?_
              refine t_u (fun z146 l146 u146 => ?_)
              refine t_bast X Y S k141 (by omega) (by omega) (by omega) (nF_of S k141 (by decide)) d_Va_fold_120 (fun f147 H locs Y S w147 => ?_)
              refine lv_iload X.1 X.2.1 d_Va_fold_121 (lv_at hl 0 rfl) ?_
              refine lv_bipush (v := iI 8) X.1 X.2.1 d_Va_fold_123 (by decide) ?_
              refine lv_ishr X.1 X.2.1 d_Va_fold_125 ?_
              refine t_u (fun z148 l148 u148 => ?_)
              refine lv_istore (lv' := [(5, .int (iI z148)), (8, .long v138), (7, .int (iI ((((z114 / 5) * 13) + (8 * (4 - (z114 % 5)))) % 40))), (0, .ref h), (3, .long v104), (6, .int (iI z114))]) X.1 X.2.1 d_Va_fold_126 hl (by decide) rfl (fun ls hl => ?_)
              refine lv_iinc (v := iI (z114 - 1)) (lv' := [(6, .int (iI (z114 - 1))), (5, .int (iI z148)), (8, .long v138), (7, .int (iI ((((z114 / 5) * 13) + (8 * (4 - (z114 % 5)))) % 40))), (0, .ref h), (3, .long v104)]) X.1 X.2.1 d_Va_fold_128 hl (k := 5) rfl ((iI_add _ _).trans (congrArg iI (by omega))) (by decide) rfl (fun ls hl => ?_)
              refine lv_goto (tgt := 40) X.1 X.2.1 d_Va_fold_131 (by decide) ?_
              exact ih116 (((z114 - 1) - (-1)).toNat) (by omega) z148 (z114 - 1) f147 _ _ _ rfl (by omega) (by omega) (by omega) (by omega) Y S (lv_sub hl [4, 5, 1, 0] rfl)
        refine lv_istore (lv' := [(6, .int (iI 79)), (5, .int (iI 0)), (0, .ref h), (3, .long v104)]) X.1 X.2.1 d_Va_fold_38 hl (by decide) rfl (fun ls hl => ?_)
        exact J115 _ 0 79 f105 _ _ _ rfl (by omega) (by omega) (by omega) (by omega) Y S (lv_sub hl [2, 3, 1, 0] rfl)
      · refine lv_aload_n X.1 X.2.1 d_Va_fold_19 rfl (lv_at hl 0 rfl) ?_
        refine t_getr (ci := 11) X Y S k0 rfl i_Va 10 (by decide) rfl (k1 := 1) (k2 := 32) rfl rfl lk_Va_52 (fun _ h9 => h9) d_Va_fold_20 (fun b149 e149 k149 => ?_)
        refine lv_iload X.1 X.2.1 d_Va_fold_23 (lv_at hl 2 rfl) ?_
        refine lv_iconst (v := iI 0) X.1 X.2.1 d_Va_fold_25 (by decide) ?_
        refine t_bast X Y S k149 (by omega) (by omega) (by omega) (nF_of S k149 (by decide)) d_Va_fold_26 (fun f150 H locs Y S w150 => ?_)
        refine lv_iinc (v := iI (z106 + 1)) (lv' := [(5, .int (iI (z106 + 1))), (0, .ref h), (3, .long v104)]) X.1 X.2.1 d_Va_fold_27 hl (k := 2) rfl ((iI_add _ _).trans (congrArg iI (by omega))) (by decide) rfl (fun ls hl => ?_)
        refine lv_goto (tgt := 12) X.1 X.2.1 d_Va_fold_30 (by decide) ?_
        exact ih108 ((16 - (z106 + 1)).toNat) (by omega) (z106 + 1) f150 _ _ _ rfl (by omega) (by omega) Y S (lv_sub hl [1, 2, 0] rfl)
  refine lv_istore (lv' := [(5, .int (iI 0)), (3, .long v104), (0, .ref h), (1, .int (iI a1)), (2, .int (iI a2))]) X.1 X.2.1 d_Va_fold_10 hl (by decide) rfl (fun ls hl => ?_)
  exact J107 _ 0 f _ _ _ rfl (by omega) (by omega) Y S (lv_sub hl [2, 1, 0] rfl)
set_option maxHeartbeats 4000000 in
set_option maxRecDepth 100000 in
theorem c_Va_derive (l : Launch) (D : va_G) (E : cE) (T : cT) (κ : tK) (L : List Nat) (f : pF) (sz : Nat) (h : Nat) (k0 : κ h = (21, 0)) (a1 n1 : Nat) (k1 : tKey T κ a1 n1) (x1 : n1 = 0 ∨ n1 = 16 ∨ n1 = 32) (a2 : Int) (l_a2 : (-2147483648) ≤ a2) (u_a2 : a2 ≤ 2147483647) (a3 : Int) (l_a3 : (-2147483648) ≤ a3) (u_a3 : a3 ≤ 2147483647) (hw : tW E T κ L f) : Met l y_Va_derive (k_Va_derive :: lw_tg) (kRm 4 132 0 0) (va_Pc [.ref h, .ref a1, .int (iI a2), .int (iI a3)] (kPre D E T L f sz)) (va_Qv (nPv E T [1, 2, 3, 4, 11] κ L f (fun (g : pF) => True)) (cPost D E (pA L sz)) (pA L sz)) 0 0 (pA L sz) := by
  refine k_enter (own := R_Va) (by decide) rfl (Nat.le_of_ble_eq_true rfl) (fun p e s m below meth c ls AV QQ H locs hQQ X Y hA hin hr hlk hml hl KS KR => ?_)
  have hl : lv_has ls 4 [(0, .ref h), (1, .ref a1), (2, .int (iI a2)), (3, .int (iI a3))] := hl
  have S : tS E T (tFr κ L [1, 2, 3, 4, 11] []) κ L f κ L f := tS_rf hw
  refine lv_aload_n X.1 X.2.1 d_Va_derive_0 rfl (lv_at hl 0 rfl) ?_
  refine lv_iload_n X.1 X.2.1 d_Va_derive_1 rfl (lv_at hl 2 rfl) ?_
  refine lv_iload_n X.1 X.2.1 d_Va_derive_2 rfl (lv_at hl 3 rfl) ?_
  refine t_nv (t_runV (As := [.int (iI a2), .int (iI a3)]) (rest := []) (n := 2) X Y S k0 hml hl.1 (c_Va_fold l D E T κ L f H.size h k0 a2 (by omega) (by omega) a3 (by omega) (by omega) S.1) (ok_k X Y hA KS KR) rfl kl_Va_Va_fold ks_Va_fold kx_Va_fold ki_Va_fold ini_Va ⟨rfl, rfl⟩ hd_Va_fold ⟨Nat.le_of_ble_eq_true rfl, Nat.le_of_ble_eq_true rfl⟩ rfl (Nat.le_of_ble_eq_true rfl) d_Va_derive_3 ⟨Nat.le_of_ble_eq_true rfl, Nat.le_of_ble_eq_true rfl⟩) X Y hA S (by decide) (fun f101 H locs Y S s101 p101 => ?_)
  refine lv_aload_n X.1 X.2.1 d_Va_derive_6 rfl (lv_at hl 0 rfl) ?_
  refine t_getr (ci := 11) X Y S k0 rfl i_Va 4 (by decide) rfl (k1 := 11) (k2 := 0) rfl rfl lk_Va_38 (fun _ h9 => h9) d_Va_derive_7 (fun b102 e102 k102 => ?_)
  refine lv_aload_n X.1 X.2.1 d_Va_derive_10 rfl (lv_at hl 1 rfl) ?_
  refine lv_aload_n X.1 X.2.1 d_Va_derive_11 rfl (lv_at hl 1 rfl) ?_
  refine t_alen X Y S KS (tKey_src k1) (by omega) d_Va_derive_12 ?_
  refine t_nv (t_runV (As := [.ref a1, .int (iI ((n1 : Int)))]) (rest := []) (n := 2) X Y S k102 hml hl.1 (c_Ae_setKey l D E T κ L f101 H.size b102 k102 a1 n1 (tKey_src k1) (by omega) ((n1 : Int)) (by omega) (by omega) S.1) (ok_k X Y hA KS KR) rfl kl_Va_Ae_setKey ks_Ae_setKey kx_Ae_setKey ki_Ae_setKey ini_Ae ⟨rfl, rfl⟩ hd_Ae_setKey ⟨Nat.le_of_ble_eq_true rfl, Nat.le_of_ble_eq_true rfl⟩ rfl (Nat.le_of_ble_eq_true rfl) d_Va_derive_13 ⟨Nat.le_of_ble_eq_true rfl, Nat.le_of_ble_eq_true rfl⟩) X Y hA S (by decide) (fun f103 H locs Y S s103 p103 => ?_)
  refine lv_aload_n X.1 X.2.1 d_Va_derive_16 rfl (lv_at hl 0 rfl) ?_
  refine lv_aload_n X.1 X.2.1 d_Va_derive_17 rfl (lv_at hl 0 rfl) ?_
  refine t_getr (ci := 11) X Y S k0 rfl i_Va 10 (by decide) rfl (k1 := 1) (k2 := 32) rfl rfl lk_Va_52 (fun _ h9 => h9) d_Va_derive_18 (fun b104 e104 k104 => ?_)
  refine lv_aload_n X.1 X.2.1 d_Va_derive_21 rfl (lv_at hl 1 rfl) ?_
  refine t_alen X Y S KS (tKey_src k1) (by omega) d_Va_derive_22 ?_
  refine t_nv (t_runV (As := [.ref b104, .int (iI ((n1 : Int)))]) (rest := []) (n := 2) X Y S k0 hml hl.1 (c_Va_chain l D E T κ L f103 H.size h k0 b104 32 k104 (by omega) ((n1 : Int)) (by omega) (by omega) S.1) (ok_k X Y hA KS KR) rfl kl_Va_Va_chain ks_Va_chain kx_Va_chain ki_Va_chain ini_Va ⟨rfl, rfl⟩ hd_Va_chain ⟨Nat.le_of_ble_eq_true rfl, Nat.le_of_ble_eq_true rfl⟩ rfl (Nat.le_of_ble_eq_true rfl) d_Va_derive_23 ⟨Nat.le_of_ble_eq_true rfl, Nat.le_of_ble_eq_true rfl⟩) X Y hA S (by decide) (fun f105 H locs Y S s105 p105 => ?_)
  exact c_retv hQQ X Y hr hlk ⟨rfl, S, trivial⟩ d_Va_derive_26
set_option maxHeartbeats 4000000 in
set_option maxRecDepth 100000 in
theorem c_Va_digest (l : Launch) (D : va_G) (E : cE) (T : cT) (κ : tK) (L : List Nat) (f : pF) (sz : Nat) (h : Nat) (k0 : κ h = (21, 0)) (a1 n1 : Nat) (k1 : κ a1 = (13, n1)) (x1 : n1 ≤ 12288) (a2 : Int) (l_a2 : (-1) ≤ a2) (u_a2 : a2 ≤ 20200) (a3 : Int) (l_a3 : (-1) ≤ a3) (u_a3 : a3 ≤ 20200) (hw : tW E T κ L f) : Met l y_Va_digest (k_Va_digest :: lw_tg) (kRm 4 130 0 0) (va_Pc [.ref h, .ref a1, .int (iI a2), .int (iI a3)] (kPre D E T L f sz)) (va_Qv (nPv E T [1, 2, 3, 4, 16] κ L f (fun (g : pF) => True)) (cPost D E (pA L sz)) (pA L sz)) 0 0 (pA L sz) := by
  refine k_enter (own := R_Va) (by decide) rfl (Nat.le_of_ble_eq_true rfl) (fun p e s m below meth c ls AV QQ H locs hQQ X Y hA hin hr hlk hml hl KS KR => ?_)
  have hl : lv_has ls 4 [(0, .ref h), (1, .ref a1), (2, .int (iI a2)), (3, .int (iI a3))] := hl
  have S : tS E T (tFr κ L [1, 2, 3, 4, 16] []) κ L f κ L f := tS_rf hw
  refine lv_aload_n X.1 X.2.1 d_Va_digest_0 rfl (lv_at hl 0 rfl) ?_
  refine t_getr (ci := 11) X Y S k0 rfl i_Va 3 (by decide) rfl (k1 := 16) (k2 := 0) rfl rfl lk_Va_31 (fun _ h9 => h9) d_Va_digest_1 (fun b101 e101 k101 => ?_)
  refine t_nv (t_runV (As := []) (rest := []) (n := 0) X Y S k101 hml hl.1 (c_Ha_begin l D E T κ L f H.size b101 k101 S.1) (ok_k X Y hA KS KR) rfl kl_Va_Ha_begin ks_Ha_begin kx_Ha_begin ki_Ha_begin ini_Ha ⟨rfl, rfl⟩ hd_Ha_begin ⟨Nat.le_of_ble_eq_true rfl, Nat.le_of_ble_eq_true rfl⟩ rfl (Nat.le_of_ble_eq_true rfl) d_Va_digest_4 ⟨Nat.le_of_ble_eq_true rfl, Nat.le_of_ble_eq_true rfl⟩) X Y hA S (by decide) (fun f102 H locs Y S s102 p102 => ?_)
  have x102 := p102
  obtain ⟨z103, e103, l103, u103⟩ := x102
  refine lv_aload_n X.1 X.2.1 d_Va_digest_7 rfl (lv_at hl 0 rfl) ?_
  refine t_get0 (ci := 11) X Y S k0 rfl i_Va 3 (by decide) rfl lk_Va_31 (fun _ h9 => h9) d_Va_digest_8 ((gF_same (s102.2.2.2 _ ⟨(t_obj S.1 k0).1, nM_of k0 (by decide), by simp⟩).1 3).trans e101) ?_
  refine lv_aload_n X.1 X.2.1 d_Va_digest_11 rfl (lv_at hl 1 rfl) ?_
  refine t_getrow (ci := 3) X Y S k1 rfl i_By 0 (by decide) rfl lk_Va_86 (fun _ h9 => h9) d_Va_digest_12 (fun b104 e104 k104 => ?_)
  refine lv_iload_n X.1 X.2.1 d_Va_digest_15 rfl (lv_at hl 2 rfl) ?_
  refine lv_iload_n X.1 X.2.1 d_Va_digest_16 rfl (lv_at hl 3 rfl) ?_
  refine lv_iload_n X.1 X.2.1 d_Va_digest_17 rfl (lv_at hl 2 rfl) ?_
  refine z_isub X.1 X.2.1 d_Va_digest_18 ?_
  refine t_nv (t_runV (As := [.ref b104, .int (iI a2), .int (iI (a3 - a2))]) (rest := []) (n := 3) X Y S k101 hml hl.1 (c_Ha_add l D E T κ L f102 H.size b101 k101 b104 n1 (Or.inl k104) (by omega) a2 (by omega) (by omega) (a3 - a2) (by omega) (by omega) S.1 z103 e103 (by omega) (by omega)) (ok_k X Y hA KS KR) rfl kl_Va_Ha_add ks_Ha_add kx_Ha_add ki_Ha_add ini_Ha ⟨rfl, rfl⟩ hd_Ha_add ⟨Nat.le_of_ble_eq_true rfl, Nat.le_of_ble_eq_true rfl⟩ rfl (Nat.le_of_ble_eq_true rfl) d_Va_digest_19 ⟨Nat.le_of_ble_eq_true rfl, Nat.le_of_ble_eq_true rfl⟩) X Y hA S (by decide) (fun f105 H locs Y S s105 p105 => ?_)
  have x105 := p105
  obtain ⟨z106, e106, l106, u106⟩ := x105
  refine lv_aload_n X.1 X.2.1 d_Va_digest_22 rfl (lv_at hl 0 rfl) ?_
  refine t_get0 (ci := 11) X Y S k0 rfl i_Va 3 (by decide) rfl lk_Va_31 (fun _ h9 => h9) d_Va_digest_23 ((gF_same (s105.2.2.2 _ ⟨(t_obj S.1 k0).1, nM_of k0 (by decide), by simp⟩).1 3).trans ((gF_same (s102.2.2.2 _ ⟨(t_obj S.1 k0).1, nM_of k0 (by decide), by simp⟩).1 3).trans e101)) ?_
  refine t_nv (t_runV (As := []) (rest := []) (n := 0) X Y S k101 hml hl.1 (c_Ha_finish l D E T κ L f105 H.size b101 k101 S.1 z106 e106 (by omega) (by omega)) (ok_k X Y hA KS KR) rfl kl_Va_Ha_finish ks_Ha_finish kx_Ha_finish ki_Ha_finish ini_Ha ⟨rfl, rfl⟩ hd_Ha_finish ⟨Nat.le_of_ble_eq_true rfl, Nat.le_of_ble_eq_true rfl⟩ rfl (Nat.le_of_ble_eq_true rfl) d_Va_digest_26 ⟨Nat.le_of_ble_eq_true rfl, Nat.le_of_ble_eq_true rfl⟩) X Y hA S (by decide) (fun f107 H locs Y S s107 p107 => ?_)
  exact c_retv hQQ X Y hr hlk ⟨rfl, S, trivial⟩ d_Va_digest_29
set_option maxHeartbeats 4000000 in
set_option maxRecDepth 100000 in
theorem c_Va_isMac (l : Launch) (D : va_G) (E : cE) (T : cT) (κ : tK) (L : List Nat) (f : pF) (sz : Nat) (h : Nat) (k0 : κ h = (21, 0)) (a1 n1 : Nat) (k1 : κ a1 = (13, n1)) (x1 : n1 ≤ 12288) (a2 : Int) (l_a2 : (-20300) ≤ a2) (u_a2 : a2 ≤ 20300) (hw : tW E T κ L f) : Met l y_Va_isMac (k_Va_isMac :: lw_tg) (kRm 2 81 0 0) (va_Pc [.ref h, .ref a1, .int (iI a2)] (kPre D E T L f sz)) (va_Qi (uPi L f (fun (z : Int) => 0 ≤ z ∧ z ≤ 1)) (cPost D E (pA L sz)) (pA L sz)) 0 0 (pA L sz) := by
  refine k_enter (own := R_Va) (by decide) rfl (Nat.le_of_ble_eq_true rfl) (fun p e s m below meth c ls AV QQ H locs hQQ X Y hA hin hr hlk hml hl KS KR => ?_)
  have hl : lv_has ls 4 [(0, .ref h), (1, .ref a1), (2, .int (iI a2))] := hl
  have S : tS E T (tFr κ L [] []) κ L f κ L f := tS_rf hw
  refine lv_iconst (v := iI 0) X.1 X.2.1 d_Va_isMac_0 (by decide) ?_
  have J102 : ∀ (n104 : Nat) (z101 : Int) (H : Heap) (locs : List Loc) (ls : Array Slot), (12 - z101).toNat = n104 → (0 ≤ z101) → (z101 ≤ 12) → pH D cCl (pA L sz) s.heap L f H locs → tS E T (tFr κ L [] []) κ L f κ L f → lv_has ls 4 [(0, .ref h), (1, .ref a1), (2, .int (iI a2)), (3, .int (iI z101))] → W p l e (kRm 2 81 0 0) s m AV below meth c H locs 0 0 QQ (F0 m 2 ls []) := by
    intro n104
    induction n104 using Nat.strongRecOn with
    | ind n104 ih103 =>
      intro z101 H locs ls hm105 l101 u101 Y S hl
      refine lv_iload_n X.1 X.2.1 d_Va_isMac_2 rfl (lv_at hl 3 rfl) ?_
      refine lv_bipush (v := iI 12) X.1 X.2.1 d_Va_isMac_3 (by decide) ?_
      refine z_icmp_ge (tgt := 39) X.1 X.2.1 d_Va_isMac_5 (by decide) ⟨by omega, by omega⟩ ⟨by omega, by omega⟩ (fun h106 => ?_) (fun h106 => ?_)
      · refine lv_iconst (v := iI 1) X.1 X.2.1 d_Va_isMac_39 (by decide) ?_
        exact c_retz hQQ X Y hr hlk (iI_bool (by omega) (by omega)).1 ⟨rfl, rfl, 1, rfl, ⟨by omega, by omega⟩⟩ d_Va_isMac_40
      · refine lv_aload_n X.1 X.2.1 d_Va_isMac_8 rfl (lv_at hl 1 rfl) ?_
        refine lv_iload_n X.1 X.2.1 d_Va_isMac_9 rfl (lv_at hl 2 rfl) ?_
        refine lv_iload_n X.1 X.2.1 d_Va_isMac_10 rfl (lv_at hl 3 rfl) ?_
        refine z_iadd X.1 X.2.1 d_Va_isMac_11 ?_
        refine t_ui (t_runV (As := [.int (iI (a2 + z101))]) (rest := []) (n := 1) X Y S k1 hml hl.1 (c_By_at l D E T κ L f H.size a1 n1 k1 (by omega) (a2 + z101) (by omega) (by omega) S.1) (ok_k X Y hA KS KR) rfl kl_Va_By_at ks_By_at kx_By_at ki_By_at ini_By ⟨rfl, rfl⟩ hd_By_at ⟨Nat.le_of_ble_eq_true rfl, Nat.le_of_ble_eq_true rfl⟩ rfl (Nat.le_of_ble_eq_true rfl) d_Va_isMac_12 ⟨Nat.le_of_ble_eq_true rfl, Nat.le_of_ble_eq_true rfl⟩) X Y hA (fun z107 H locs Y p107 => ?_)
        obtain ⟨l107, u107⟩ := p107
        refine lv_aload_n X.1 X.2.1 d_Va_isMac_15 rfl (lv_at hl 0 rfl) ?_
        refine t_getr (ci := 11) X Y S k0 rfl i_Va 3 (by decide) rfl (k1 := 16) (k2 := 0) rfl rfl lk_Va_31 (fun _ h9 => h9) d_Va_isMac_16 (fun b108 e108 k108 => ?_)
        refine t_getr (ci := 6) X Y S k108 rfl i_Ha 7 (by decide) rfl (k1 := 1) (k2 := 20) rfl rfl lk_Va_125 (fun _ h9 => h9) d_Va_isMac_19 (fun b109 e109 k109 => ?_)
        refine lv_iload_n X.1 X.2.1 d_Va_isMac_22 rfl (lv_at hl 3 rfl) ?_
        refine t_bald X Y S (Or.inl k109) (by omega) (by omega) (by omega) d_Va_isMac_23 (fun z110 l110 u110 => ?_)
        refine lv_sipush (v := iI 255) X.1 X.2.1 d_Va_isMac_24 (by decide) ?_
        refine z_iand X.1 X.2.1 (by omega) (by omega) d_Va_isMac_27 (fun z111 l111 u111 => ?_)
        refine z_icmp_eq (tgt := 33) X.1 X.2.1 d_Va_isMac_28 (by decide) ⟨by omega, by omega⟩ ⟨by omega, by omega⟩ (fun h112 => ?_) (fun h112 => ?_)
        · refine lv_iinc (v := iI (z101 + 1)) (lv' := [(3, .int (iI (z101 + 1))), (0, .ref h), (1, .ref a1), (2, .int (iI a2))]) X.1 X.2.1 d_Va_isMac_33 hl (k := 3) rfl ((iI_add _ _).trans (congrArg iI (by omega))) (by decide) rfl (fun ls hl => ?_)
          refine lv_goto (tgt := 2) X.1 X.2.1 d_Va_isMac_36 (by decide) ?_
          exact ih103 ((12 - (z101 + 1)).toNat) (by omega) (z101 + 1) _ _ _ rfl (by omega) (by omega) Y S (lv_sub hl [1, 2, 3, 0] rfl)
        · refine lv_iconst (v := iI 0) X.1 X.2.1 d_Va_isMac_31 (by decide) ?_
          exact c_retz hQQ X Y hr hlk (iI_bool (by omega) (by omega)).1 ⟨rfl, rfl, 0, rfl, ⟨by omega, by omega⟩⟩ d_Va_isMac_32
  refine lv_istore_n (lv' := [(3, .int (iI 0)), (0, .ref h), (1, .ref a1), (2, .int (iI a2))]) X.1 X.2.1 d_Va_isMac_1 rfl hl (by decide) rfl (fun ls hl => ?_)
  exact J102 _ 0 _ _ _ rfl (by omega) (by omega) Y S (lv_sub hl [1, 2, 3, 0] rfl)
set_option maxHeartbeats 4000000 in
set_option maxRecDepth 100000 in
theorem c_Va_putSealed (l : Launch) (D : va_G) (E : cE) (T : cT) (κ : tK) (L : List Nat) (f : pF) (sz : Nat) (h : Nat) (k0 : κ h = (21, 0)) (a1 n1 : Nat) (k1 : κ a1 = (13, n1)) (x1 : n1 ≤ 12288) (a2 n2 : Nat) (k2 : tKey T κ a2 n2) (x2 : n2 = 0 ∨ n2 = 16 ∨ n2 = 32) (a3 : Int) (l_a3 : (-2147483648) ≤ a3) (u_a3 : a3 ≤ 2147483647) (a4 : Int) (l_a4 : (-2147483648) ≤ a4) (u_a4 : a4 ≤ 2147483647) (hw : tW E T κ L f) : Met l y_Va_putSealed (k_Va_putSealed :: lw_tg) (kRm 5 158 0 0) (va_Pc [.ref h, .ref a1, .ref a2, .int (iI a3), .int (iI a4)] (kPre D E T L f sz)) (va_Qv (nPv E T [1, 2, 3, 4, 11, 13, 16, 21] κ L f (fun (g : pF) => True)) (cPost D E (pA L sz)) (pA L sz)) 0 0 (pA L sz) := by
  refine k_enter (own := R_Va) (by decide) rfl (Nat.le_of_ble_eq_true rfl) (fun p e s m below meth c ls AV QQ H locs hQQ X Y hA hin hr hlk hml hl KS KR => ?_)
  have hl : lv_has ls 10 [(0, .ref h), (1, .ref a1), (2, .ref a2), (3, .int (iI a3)), (4, .int (iI a4))] := hl
  have S : tS E T (tFr κ L [1, 2, 3, 4, 11, 13, 16, 21] []) κ L f κ L f := tS_rf hw
  refine lv_aload_n X.1 X.2.1 d_Va_putSealed_0 rfl (lv_at hl 1 rfl) ?_
  refine lv_bipush (v := iI 48) X.1 X.2.1 d_Va_putSealed_1 (by decide) ?_
  refine t_ni (t_runV (As := [.int (iI 48)]) (rest := []) (n := 1) X Y S k1 hml hl.1 (c_By_open l D E T κ L f H.size a1 n1 k1 (by omega) 48 (by omega) (by omega) S.1) (ok_k X Y hA KS KR) rfl kl_Va_By_open ks_By_open kx_By_open ki_By_open ini_By ⟨rfl, rfl⟩ hd_By_open ⟨Nat.le_of_ble_eq_true rfl, Nat.le_of_ble_eq_true rfl⟩ rfl (Nat.le_of_ble_eq_true rfl) d_Va_putSealed_3 ⟨Nat.le_of_ble_eq_true rfl, Nat.le_of_ble_eq_true rfl⟩) X Y hA S (by decide) (fun z101 f101 H locs Y S s101 p101 => ?_)
  obtain ⟨l101, u101⟩ := p101
  refine lv_istore (lv' := [(5, .int (iI z101)), (0, .ref h), (1, .ref a1), (2, .ref a2), (3, .int (iI a3)), (4, .int (iI a4))]) X.1 X.2.1 d_Va_putSealed_6 hl (by decide) rfl (fun ls hl => ?_)
  refine lv_aload_n X.1 X.2.1 d_Va_putSealed_8 rfl (lv_at hl 2 rfl) ?_
  refine lv_iconst (v := iI 0) X.1 X.2.1 d_Va_putSealed_9 (by decide) ?_
  refine lv_aload_n X.1 X.2.1 d_Va_putSealed_10 rfl (lv_at hl 3 rfl) ?_
  refine t_ui (x_runS (As := [.ref a2]) (rest := [.int (iI 0), .ref a1]) (n := 1) X hml hl.1 (c_Va_typeOf l D E T κ L f101 H.size a2 n2 k2 (by omega) S.1) (ok_k X Y hA KS KR) kl_Va_Va_typeOf ks_Va_typeOf ki_Va_typeOf ini_Va ⟨rfl, rfl⟩ hd_Va_typeOf.2 ⟨Nat.le_of_ble_eq_true rfl, Nat.le_of_ble_eq_true rfl⟩ rfl (Nat.le_of_ble_eq_true rfl) d_Va_putSealed_11 ⟨Nat.le_of_ble_eq_true rfl, Nat.le_of_ble_eq_true rfl⟩) X Y hA (fun z102 H locs Y p102 => ?_)
  obtain ⟨l102, u102⟩ := p102
  refine lv_i2l X.1 X.2.1 d_Va_putSealed_14 rfl ?_
  refine t_anyl (fun v103 => ?_)
  refine t_nv (t_runV (As := [.int (iI 0), .long v103]) (rest := []) (n := 2) X Y S k1 hml hl.1 (c_By_putNumber l D E T κ L f101 H.size a1 n1 k1 (by omega) 0 (by omega) (by omega) v103 S.1) (ok_k X Y hA KS KR) rfl kl_Va_By_putNumber ks_By_putNumber kx_By_putNumber ki_By_putNumber ini_By ⟨rfl, rfl⟩ hd_By_putNumber ⟨Nat.le_of_ble_eq_true rfl, Nat.le_of_ble_eq_true rfl⟩ rfl (Nat.le_of_ble_eq_true rfl) d_Va_putSealed_15 ⟨Nat.le_of_ble_eq_true rfl, Nat.le_of_ble_eq_true rfl⟩) X Y hA S (by decide) (fun f104 H locs Y S s104 p104 => ?_)
  refine lv_iload X.1 X.2.1 d_Va_putSealed_18 (lv_at hl 5 rfl) ?_
  have J106 : ∀ (f105 : pF) (H : Heap) (locs : List Loc) (ls : Array Slot), pH D cCl (pA L sz) s.heap L f105 H locs → tS E T (tFr κ L [1, 2, 3, 4, 11, 13, 16, 21] []) κ L f κ L f105 → lv_has ls 10 [(0, .ref h), (1, .ref a1), (2, .ref a2), (3, .int (iI a3)), (5, .int (iI z101))] → W p l e (kRm 5 158 0 0) s m AV below meth c H locs 0 0 QQ (F0 m 31 ls []) := by
    intro f105 H locs ls  Y S hl
    refine lv_aload_n X.1 X.2.1 d_Va_putSealed_31 rfl (lv_at hl 1 rfl) ?_
    refine lv_iconst (v := iI 2) X.1 X.2.1 d_Va_putSealed_32 (by decide) ?_
    refine t_ni (t_runV (As := [.int (iI 2)]) (rest := []) (n := 1) X Y S k1 hml hl.1 (c_By_openField l D E T κ L f105 H.size a1 n1 k1 (by omega) 2 (by omega) (by omega) S.1) (ok_k X Y hA KS KR) rfl kl_Va_By_openField ks_By_openField kx_By_openField ki_By_openField ini_By ⟨rfl, rfl⟩ hd_By_openField ⟨Nat.le_of_ble_eq_true rfl, Nat.le_of_ble_eq_true rfl⟩ rfl (Nat.le_of_ble_eq_true rfl) d_Va_putSealed_33 ⟨Nat.le_of_ble_eq_true rfl, Nat.le_of_ble_eq_true rfl⟩) X Y hA S (by decide) (fun z110 f110 H locs Y S s110 p110 => ?_)
    obtain ⟨l110, u110⟩ := p110
    refine lv_istore (lv' := [(6, .int (iI z110)), (0, .ref h), (1, .ref a1), (2, .ref a2), (3, .int (iI a3)), (5, .int (iI z101))]) X.1 X.2.1 d_Va_putSealed_36 hl (by decide) rfl (fun ls hl => ?_)
    refine lv_aload_n X.1 X.2.1 d_Va_putSealed_38 rfl (lv_at hl 2 rfl) ?_
    refine lv_iconst (v := iI 4) X.1 X.2.1 d_Va_putSealed_39 (by decide) ?_
    refine t_ni (t_runV (As := [.int (iI 4)]) (rest := []) (n := 1) X Y S k1 hml hl.1 (c_By_open l D E T κ L f110 H.size a1 n1 k1 (by omega) 4 (by omega) (by omega) S.1) (ok_k X Y hA KS KR) rfl kl_Va_By_open ks_By_open kx_By_open ki_By_open ini_By ⟨rfl, rfl⟩ hd_By_open ⟨Nat.le_of_ble_eq_true rfl, Nat.le_of_ble_eq_true rfl⟩ rfl (Nat.le_of_ble_eq_true rfl) d_Va_putSealed_40 ⟨Nat.le_of_ble_eq_true rfl, Nat.le_of_ble_eq_true rfl⟩) X Y hA S (by decide) (fun z111 f111 H locs Y S s111 p111 => ?_)
    obtain ⟨l111, u111⟩ := p111
    refine lv_istore (lv' := [(7, .int (iI z111)), (6, .int (iI z110)), (0, .ref h), (1, .ref a1), (2, .ref a2), (3, .int (iI a3)), (5, .int (iI z101))]) X.1 X.2.1 d_Va_putSealed_43 hl (by decide) rfl (fun ls hl => ?_)
    refine lv_aload_n X.1 X.2.1 d_Va_putSealed_45 rfl (lv_at hl 3 rfl) ?_
    refine t_gets (ci := 3) X Y S k1 rfl i_By 1 (by decide) rfl lk_Va_77 (fun _ h9 => h9) d_Va_putSealed_46 (fun z112 e112 l112 u112 => ?_)
    refine lv_istore (lv' := [(8, .int (iI z112)), (7, .int (iI z111)), (6, .int (iI z110)), (0, .ref h), (1, .ref a1), (2, .ref a2), (3, .int (iI a3)), (5, .int (iI z101))]) X.1 X.2.1 d_Va_putSealed_49 hl (by decide) rfl (fun ls hl => ?_)
    refine lv_iconst (v := iI 0) X.1 X.2.1 d_Va_putSealed_51 (by decide) ?_
    have J115 : ∀ (n117 : Nat) (z114 : Int) (f113 : pF) (H : Heap) (locs : List Loc) (ls : Array Slot), (16 - z114).toNat = n117 → (0 ≤ z114) → (z114 ≤ 16) → pH D cCl (pA L sz) s.heap L f113 H locs → tS E T (tFr κ L [1, 2, 3, 4, 11, 13, 16, 21] []) κ L f κ L f113 → lv_has ls 10 [(0, .ref h), (1, .ref a1), (2, .ref a2), (3, .int (iI a3)), (5, .int (iI z101)), (6, .int (iI z110)), (7, .int (iI z111)), (8, .int (iI z112)), (9, .int (iI z114))] → W p l e (kRm 5 158 0 0) s m AV below meth c H locs 0 0 QQ (F0 m 54 ls []) := by
      intro n117
      induction n117 using Nat.strongRecOn with
      | ind n117 ih116 =>
        intro z114 f113 H locs ls hm118 l114 u114 Y S hl
        refine lv_iload X.1 X.2.1 d_Va_putSealed_54 (lv_at hl 8 rfl) ?_
        refine lv_bipush (v := iI 16) X.1 X.2.1 d_Va_putSealed_56 (by decide) ?_
        refine z_icmp_ge (tgt := 75) X.1 X.2.1 d_Va_putSealed_58 (by decide) ⟨by omega, by omega⟩ ⟨by omega, by omega⟩ (fun h119 => ?_) (fun h119 => ?_)
        · refine lv_aload_n X.1 X.2.1 d_Va_putSealed_75 rfl (lv_at hl 1 rfl) ?_
          refine lv_aload_n X.1 X.2.1 d_Va_putSealed_76 rfl (lv_at hl 0 rfl) ?_
          refine t_getr (ci := 11) X Y S k0 rfl i_Va 1 (by decide) rfl (k1 := 13) (k2 := 6144) rfl rfl lk_Va_21 (fun _ h9 => h9) d_Va_putSealed_77 (fun b120 e120 k120 => ?_)
          refine t_getrow (ci := 3) X Y S k120 rfl i_By 0 (by decide) rfl lk_Va_86 (fun _ h9 => h9) d_Va_putSealed_80 (fun b121 e121 k121 => ?_)
          refine lv_iconst (v := iI 0) X.1 X.2.1 d_Va_putSealed_83 (by decide) ?_
          refine lv_aload_n X.1 X.2.1 d_Va_putSealed_84 rfl (lv_at hl 0 rfl) ?_
          refine t_get0 (ci := 11) X Y S k0 rfl i_Va 1 (by decide) rfl lk_Va_21 (fun _ h9 => h9) d_Va_putSealed_85 e120 ?_
          refine t_gets (ci := 3) X Y S k120 rfl i_By 1 (by decide) rfl lk_Va_77 (fun _ h9 => h9) d_Va_putSealed_88 (fun z122 e122 l122 u122 => ?_)
          refine t_nv (t_runV (As := [.ref b121, .int (iI 0), .int (iI z122)]) (rest := []) (n := 3) X Y S k1 hml hl.1 (c_By_append l D E T κ L f113 H.size a1 n1 k1 (by omega) b121 6144 (Or.inl k121) (by omega) 0 (by omega) (by omega) z122 (by omega) (by omega) S.1) (ok_k X Y hA KS KR) rfl kl_Va_By_append ks_By_append kx_By_append ki_By_append ini_By ⟨rfl, rfl⟩ hd_By_append ⟨Nat.le_of_ble_eq_true rfl, Nat.le_of_ble_eq_true rfl⟩ rfl (Nat.le_of_ble_eq_true rfl) d_Va_putSealed_91 ⟨Nat.le_of_ble_eq_true rfl, Nat.le_of_ble_eq_true rfl⟩) X Y hA S (by decide) (fun f123 H locs Y S s123 p123 => ?_)
          refine lv_aload_n X.1 X.2.1 d_Va_putSealed_94 rfl (lv_at hl 0 rfl) ?_
          refine lv_aload_n X.1 X.2.1 d_Va_putSealed_95 rfl (lv_at hl 2 rfl) ?_
          refine lv_iload_n X.1 X.2.1 d_Va_putSealed_96 rfl (lv_at hl 3 rfl) ?_
          refine lv_bipush (v := iI 85) X.1 X.2.1 d_Va_putSealed_97 (by decide) ?_
          refine t_nv (t_runV (As := [.ref a2, .int (iI a3), .int (iI 85)]) (rest := []) (n := 3) X Y S k0 hml hl.1 (c_Va_derive l D E T κ L f123 H.size h k0 a2 n2 k2 (by omega) a3 (by omega) (by omega) 85 (by omega) (by omega) S.1) (ok_k X Y hA KS KR) rfl kl_Va_Va_derive ks_Va_derive kx_Va_derive ki_Va_derive ini_Va ⟨rfl, rfl⟩ hd_Va_derive ⟨Nat.le_of_ble_eq_true rfl, Nat.le_of_ble_eq_true rfl⟩ rfl (Nat.le_of_ble_eq_true rfl) d_Va_putSealed_99 ⟨Nat.le_of_ble_eq_true rfl, Nat.le_of_ble_eq_true rfl⟩) X Y hA S (by decide) (fun f124 H locs Y S s124 p124 => ?_)
          refine lv_aload_n X.1 X.2.1 d_Va_putSealed_102 rfl (lv_at hl 0 rfl) ?_
          refine t_getr (ci := 11) X Y S k0 rfl i_Va 3 (by decide) rfl (k1 := 16) (k2 := 0) rfl rfl lk_Va_31 (fun _ h9 => h9) d_Va_putSealed_103 (fun b125 e125 k125 => ?_)
          refine lv_aload_n X.1 X.2.1 d_Va_putSealed_106 rfl (lv_at hl 0 rfl) ?_
          refine t_getr (ci := 11) X Y S k0 rfl i_Va 10 (by decide) rfl (k1 := 1) (k2 := 32) rfl rfl lk_Va_52 (fun _ h9 => h9) d_Va_putSealed_107 (fun b126 e126 k126 => ?_)
          refine lv_iconst (v := iI 0) X.1 X.2.1 d_Va_putSealed_110 (by decide) ?_
          refine lv_aload_n X.1 X.2.1 d_Va_putSealed_111 rfl (lv_at hl 2 rfl) ?_
          refine t_alen X Y S KS (tKey_src k2) (by omega) d_Va_putSealed_112 ?_
          refine t_nv (t_runV (As := [.ref b126, .int (iI 0), .int (iI ((n2 : Int)))]) (rest := []) (n := 3) X Y S k125 hml hl.1 (c_Ha_setKey l D E T κ L f124 H.size b125 k125 b126 32 (Or.inl k126) (by omega) 0 (by omega) (by omega) ((n2 : Int)) (by omega) (by omega) S.1) (ok_k X Y hA KS KR) rfl kl_Va_Ha_setKey ks_Ha_setKey kx_Ha_setKey ki_Ha_setKey ini_Ha ⟨rfl, rfl⟩ hd_Ha_setKey ⟨Nat.le_of_ble_eq_true rfl, Nat.le_of_ble_eq_true rfl⟩ rfl (Nat.le_of_ble_eq_true rfl) d_Va_putSealed_113 ⟨Nat.le_of_ble_eq_true rfl, Nat.le_of_ble_eq_true rfl⟩) X Y hA S (by decide) (fun f127 H locs Y S s127 p127 => ?_)
          refine lv_aload_n X.1 X.2.1 d_Va_putSealed_116 rfl (lv_at hl 0 rfl) ?_
          refine lv_aload_n X.1 X.2.1 d_Va_putSealed_117 rfl (lv_at hl 1 rfl) ?_
          refine lv_iload X.1 X.2.1 d_Va_putSealed_118 (lv_at hl 7 rfl) ?_
          refine lv_aload_n X.1 X.2.1 d_Va_putSealed_120 rfl (lv_at hl 1 rfl) ?_
          refine t_gets (ci := 3) X Y S k1 rfl i_By 1 (by decide) rfl lk_Va_77 (fun _ h9 => h9) d_Va_putSealed_121 (fun z128 e128 l128 u128 => ?_)
          refine t_nv (t_runV (As := [.ref a1, .int (iI z112), .int (iI z128)]) (rest := []) (n := 3) X Y S k0 hml hl.1 (c_Va_digest l D E T κ L f127 H.size h k0 a1 n1 k1 (by omega) z112 (by omega) (by omega) z128 (by omega) (by omega) S.1) (ok_k X Y hA KS KR) rfl kl_Va_Va_digest ks_Va_digest kx_Va_digest ki_Va_digest ini_Va ⟨rfl, rfl⟩ hd_Va_digest ⟨Nat.le_of_ble_eq_true rfl, Nat.le_of_ble_eq_true rfl⟩ rfl (Nat.le_of_ble_eq_true rfl) d_Va_putSealed_124 ⟨Nat.le_of_ble_eq_true rfl, Nat.le_of_ble_eq_true rfl⟩) X Y hA S (by decide) (fun f129 H locs Y S s129 p129 => ?_)
          refine lv_aload_n X.1 X.2.1 d_Va_putSealed_127 rfl (lv_at hl 0 rfl) ?_
          refine lv_aload_n X.1 X.2.1 d_Va_putSealed_128 rfl (lv_at hl 2 rfl) ?_
          refine lv_iload_n X.1 X.2.1 d_Va_putSealed_129 rfl (lv_at hl 3 rfl) ?_
          refine lv_sipush (v := iI 170) X.1 X.2.1 d_Va_putSealed_130 (by decide) ?_
          refine t_nv (t_runV (As := [.ref a2, .int (iI a3), .int (iI 170)]) (rest := []) (n := 3) X Y S k0 hml hl.1 (c_Va_derive l D E T κ L f129 H.size h k0 a2 n2 k2 (by omega) a3 (by omega) (by omega) 170 (by omega) (by omega) S.1) (ok_k X Y hA KS KR) rfl kl_Va_Va_derive ks_Va_derive kx_Va_derive ki_Va_derive ini_Va ⟨rfl, rfl⟩ hd_Va_derive ⟨Nat.le_of_ble_eq_true rfl, Nat.le_of_ble_eq_true rfl⟩ rfl (Nat.le_of_ble_eq_true rfl) d_Va_putSealed_133 ⟨Nat.le_of_ble_eq_true rfl, Nat.le_of_ble_eq_true rfl⟩) X Y hA S (by decide) (fun f130 H locs Y S s130 p130 => ?_)
          refine lv_aload_n X.1 X.2.1 d_Va_putSealed_136 rfl (lv_at hl 0 rfl) ?_
          refine t_getr (ci := 11) X Y S k0 rfl i_Va 4 (by decide) rfl (k1 := 11) (k2 := 0) rfl rfl lk_Va_38 (fun _ h9 => h9) d_Va_putSealed_137 (fun b131 e131 k131 => ?_)
          refine lv_aload_n X.1 X.2.1 d_Va_putSealed_140 rfl (lv_at hl 0 rfl) ?_
          refine t_get0 (ci := 11) X Y S k0 rfl i_Va 10 (by decide) rfl lk_Va_52 (fun _ h9 => h9) d_Va_putSealed_141 ((gF_same (s130.2.2.2 _ ⟨(t_obj S.1 k0).1, nM_of k0 (by decide), by simp⟩).1 10).trans ((gF_same (s129.2.2.2 _ ⟨(t_obj S.1 k0).1, nM_of k0 (by decide), by simp⟩).1 10).trans ((gF_same (s127.2.2.2 _ ⟨(t_obj S.1 k0).1, nM_of k0 (by decide), by simp⟩).1 10).trans e126))) ?_
          refine lv_aload_n X.1 X.2.1 d_Va_putSealed_144 rfl (lv_at hl 2 rfl) ?_
          refine t_alen X Y S KS (tKey_src k2) (by omega) d_Va_putSealed_145 ?_
          refine t_nv (t_runV (As := [.ref b126, .int (iI ((n2 : Int)))]) (rest := []) (n := 2) X Y S k131 hml hl.1 (c_Ae_setKey l D E T κ L f130 H.size b131 k131 b126 32 (Or.inl k126) (by omega) ((n2 : Int)) (by omega) (by omega) S.1) (ok_k X Y hA KS KR) rfl kl_Va_Ae_setKey ks_Ae_setKey kx_Ae_setKey ki_Ae_setKey ini_Ae ⟨rfl, rfl⟩ hd_Ae_setKey ⟨Nat.le_of_ble_eq_true rfl, Nat.le_of_ble_eq_true rfl⟩ rfl (Nat.le_of_ble_eq_true rfl) d_Va_putSealed_146 ⟨Nat.le_of_ble_eq_true rfl, Nat.le_of_ble_eq_true rfl⟩) X Y hA S (by decide) (fun f132 H locs Y S s132 p132 => ?_)
          refine lv_aload_n X.1 X.2.1 d_Va_putSealed_149 rfl (lv_at hl 0 rfl) ?_
          refine t_get0 (ci := 11) X Y S k0 rfl i_Va 4 (by decide) rfl lk_Va_38 (fun _ h9 => h9) d_Va_putSealed_150 ((gF_same (s132.2.2.2 _ ⟨(t_obj S.1 k0).1, nM_of k0 (by decide), by simp⟩).1 4).trans e131) ?_
          refine lv_aload_n X.1 X.2.1 d_Va_putSealed_153 rfl (lv_at hl 1 rfl) ?_
          refine t_getrow (ci := 3) X Y S k1 rfl i_By 0 (by decide) rfl lk_Va_86 (fun _ h9 => h9) d_Va_putSealed_154 (fun b133 e133 k133 => ?_)
          refine lv_iload X.1 X.2.1 d_Va_putSealed_157 (lv_at hl 7 rfl) ?_
          refine lv_aload_n X.1 X.2.1 d_Va_putSealed_159 rfl (lv_at hl 1 rfl) ?_
          refine t_get0 (ci := 3) X Y S k1 rfl i_By 1 (by decide) rfl lk_Va_77 (fun _ h9 => h9) d_Va_putSealed_160 ((gF_same (s132.2.2.2 _ ⟨(t_obj S.1 k1).1, nM_of k1 (by decide), by simp⟩).1 1).trans ((gF_same (s130.2.2.2 _ ⟨(t_obj S.1 k1).1, nM_of k1 (by decide), by simp⟩).1 1).trans ((gF_same (s129.2.2.2 _ ⟨(t_obj S.1 k1).1, nM_of k1 (by decide), by simp⟩).1 1).trans e128))) ?_
          refine lv_iload X.1 X.2.1 d_Va_putSealed_163 (lv_at hl 7 rfl) ?_
          refine z_isub X.1 X.2.1 d_Va_putSealed_165 ?_
          refine t_nv (t_runV (As := [.ref b133, .int (iI z112), .int (iI (z128 - z112))]) (rest := []) (n := 3) X Y S k131 hml hl.1 (c_Ae_lock l D E T κ L f132 H.size b131 k131 b133 n1 k133 (by omega) z112 (by omega) (by omega) (z128 - z112) (by omega) (by omega) S.1) (ok_k X Y hA KS KR) rfl kl_Va_Ae_lock ks_Ae_lock kx_Ae_lock ki_Ae_lock ini_Ae ⟨rfl, rfl⟩ hd_Ae_lock ⟨Nat.le_of_ble_eq_true rfl, Nat.le_of_ble_eq_true rfl⟩ rfl (Nat.le_of_ble_eq_true rfl) d_Va_putSealed_166 ⟨Nat.le_of_ble_eq_true rfl, Nat.le_of_ble_eq_true rfl⟩) X Y hA S (by decide) (fun f134 H locs Y S s134 p134 => ?_)
          refine lv_aload_n X.1 X.2.1 d_Va_putSealed_169 rfl (lv_at hl 1 rfl) ?_
          refine lv_aload_n X.1 X.2.1 d_Va_putSealed_170 rfl (lv_at hl 0 rfl) ?_
          refine t_get0 (ci := 11) X Y S k0 rfl i_Va 3 (by decide) rfl lk_Va_31 (fun _ h9 => h9) d_Va_putSealed_171 ((gF_same (s134.2.2.2 _ ⟨(t_obj S.1 k0).1, nM_of k0 (by decide), by simp⟩).1 3).trans ((gF_same (s132.2.2.2 _ ⟨(t_obj S.1 k0).1, nM_of k0 (by decide), by simp⟩).1 3).trans ((gF_same (s130.2.2.2 _ ⟨(t_obj S.1 k0).1, nM_of k0 (by decide), by simp⟩).1 3).trans ((gF_same (s129.2.2.2 _ ⟨(t_obj S.1 k0).1, nM_of k0 (by decide), by simp⟩).1 3).trans ((gF_same (s127.2.2.2 _ ⟨(t_obj S.1 k0).1, nM_of k0 (by decide), by simp⟩).1 3).trans e125))))) ?_
          refine t_getr (ci := 6) X Y S k125 rfl i_Ha 7 (by decide) rfl (k1 := 1) (k2 := 20) rfl rfl lk_Va_125 (fun _ h9 => h9) d_Va_putSealed_174 (fun b135 e135 k135 => ?_)
          refine lv_iconst (v := iI 0) X.1 X.2.1 d_Va_putSealed_177 (by decide) ?_
          refine lv_bipush (v := iI 12) X.1 X.2.1 d_Va_putSealed_178 (by decide) ?_
          refine t_nv (t_runV (As := [.ref b135, .int (iI 0), .int (iI 12)]) (rest := []) (n := 3) X Y S k1 hml hl.1 (c_By_append l D E T κ L f134 H.size a1 n1 k1 (by omega) b135 20 (Or.inl k135) (by omega) 0 (by omega) (by omega) 12 (by omega) (by omega) S.1) (ok_k X Y hA KS KR) rfl kl_Va_By_append ks_By_append kx_By_append ki_By_append ini_By ⟨rfl, rfl⟩ hd_By_append ⟨Nat.le_of_ble_eq_true rfl, Nat.le_of_ble_eq_true rfl⟩ rfl (Nat.le_of_ble_eq_true rfl) d_Va_putSealed_180 ⟨Nat.le_of_ble_eq_true rfl, Nat.le_of_ble_eq_true rfl⟩) X Y hA S (by decide) (fun f136 H locs Y S s136 p136 => ?_)
          refine lv_aload_n X.1 X.2.1 d_Va_putSealed_183 rfl (lv_at hl 1 rfl) ?_
          refine lv_iload X.1 X.2.1 d_Va_putSealed_184 (lv_at hl 6 rfl) ?_
          refine t_nv (t_runV (As := [.int (iI z111)]) (rest := []) (n := 1) X Y S k1 hml hl.1 (c_By_close l D E T κ L f136 H.size a1 n1 k1 (by omega) z111 (by omega) (by omega) S.1) (ok_k X Y hA KS KR) rfl kl_Va_By_close ks_By_close kx_By_close ki_By_close ini_By ⟨rfl, rfl⟩ hd_By_close ⟨Nat.le_of_ble_eq_true rfl, Nat.le_of_ble_eq_true rfl⟩ rfl (Nat.le_of_ble_eq_true rfl) d_Va_putSealed_186 ⟨Nat.le_of_ble_eq_true rfl, Nat.le_of_ble_eq_true rfl⟩) X Y hA S (by decide) (fun f137 H locs Y S s137 p137 => ?_)
          refine lv_aload_n X.1 X.2.1 d_Va_putSealed_189 rfl (lv_at hl 1 rfl) ?_
          refine lv_iload X.1 X.2.1 d_Va_putSealed_190 (lv_at hl 5 rfl) ?_
          refine t_nv (t_runV (As := [.int (iI z110)]) (rest := []) (n := 1) X Y S k1 hml hl.1 (c_By_close l D E T κ L f137 H.size a1 n1 k1 (by omega) z110 (by omega) (by omega) S.1) (ok_k X Y hA KS KR) rfl kl_Va_By_close ks_By_close kx_By_close ki_By_close ini_By ⟨rfl, rfl⟩ hd_By_close ⟨Nat.le_of_ble_eq_true rfl, Nat.le_of_ble_eq_true rfl⟩ rfl (Nat.le_of_ble_eq_true rfl) d_Va_putSealed_192 ⟨Nat.le_of_ble_eq_true rfl, Nat.le_of_ble_eq_true rfl⟩) X Y hA S (by decide) (fun f138 H locs Y S s138 p138 => ?_)
          refine lv_aload_n X.1 X.2.1 d_Va_putSealed_195 rfl (lv_at hl 1 rfl) ?_
          refine lv_iload X.1 X.2.1 d_Va_putSealed_196 (lv_at hl 4 rfl) ?_
          refine t_nv (t_runV (As := [.int (iI z101)]) (rest := []) (n := 1) X Y S k1 hml hl.1 (c_By_close l D E T κ L f138 H.size a1 n1 k1 (by omega) z101 (by omega) (by omega) S.1) (ok_k X Y hA KS KR) rfl kl_Va_By_close ks_By_close kx_By_close ki_By_close ini_By ⟨rfl, rfl⟩ hd_By_close ⟨Nat.le_of_ble_eq_true rfl, Nat.le_of_ble_eq_true rfl⟩ rfl (Nat.le_of_ble_eq_true rfl) d_Va_putSealed_198 ⟨Nat.le_of_ble_eq_true rfl, Nat.le_of_ble_eq_true rfl⟩) X Y hA S (by decide) (fun f139 H locs Y S s139 p139 => ?_)
          exact c_retv hQQ X Y hr hlk ⟨rfl, S, trivial⟩ d_Va_putSealed_201
        · refine lv_aload_n X.1 X.2.1 d_Va_putSealed_61 rfl (lv_at hl 1 rfl) ?_
          refine lv_aload_n X.1 X.2.1 d_Va_putSealed_62 rfl (lv_at hl 0 rfl) ?_
          refine t_ni (t_runV (As := []) (rest := [.ref a1]) (n := 0) X Y S k0 hml hl.1 (c_Va_coin l D E T κ L f113 H.size h k0 S.1) (ok_k X Y hA KS KR) rfl kl_Va_Va_coin ks_Va_coin kx_Va_coin ki_Va_coin ini_Va ⟨rfl, rfl⟩ hd_Va_coin ⟨Nat.le_of_ble_eq_true rfl, Nat.le_of_ble_eq_true rfl⟩ rfl (Nat.le_of_ble_eq_true rfl) d_Va_putSealed_63 ⟨Nat.le_of_ble_eq_true rfl, Nat.le_of_ble_eq_true rfl⟩) X Y hA S (by decide) (fun z140 f140 H locs Y S s140 p140 => ?_)
          obtain ⟨l140, u140⟩ := p140
          refine t_nv (t_runV (As := [.int (iI z140)]) (rest := []) (n := 1) X Y S k1 hml hl.1 (c_By_put l D E T κ L f140 H.size a1 n1 k1 (by omega) z140 (by omega) (by omega) S.1) (ok_k X Y hA KS KR) rfl kl_Va_By_put ks_By_put kx_By_put ki_By_put ini_By ⟨rfl, rfl⟩ hd_By_put ⟨Nat.le_of_ble_eq_true rfl, Nat.le_of_ble_eq_true rfl⟩ rfl (Nat.le_of_ble_eq_true rfl) d_Va_putSealed_66 ⟨Nat.le_of_ble_eq_true rfl, Nat.le_of_ble_eq_true rfl⟩) X Y hA S (by decide) (fun f141 H locs Y S s141 p141 => ?_)
          refine lv_iinc (v := iI (z114 + 1)) (lv' := [(9, .int (iI (z114 + 1))), (0, .ref h), (1, .ref a1), (2, .ref a2), (3, .int (iI a3)), (5, .int (iI z101)), (6, .int (iI z110)), (7, .int (iI z111)), (8, .int (iI z112))]) X.1 X.2.1 d_Va_putSealed_69 hl (k := 8) rfl ((iI_add _ _).trans (congrArg iI (by omega))) (by decide) rfl (fun ls hl => ?_)
          refine lv_goto (tgt := 54) X.1 X.2.1 d_Va_putSealed_72 (by decide) ?_
          exact ih116 ((16 - (z114 + 1)).toNat) (by omega) (z114 + 1) f141 _ _ _ rfl (by omega) (by omega) Y S (lv_sub hl [1, 2, 3, 4, 5, 6, 7, 8, 0] rfl)
    refine lv_istore (lv' := [(9, .int (iI 0)), (8, .int (iI z112)), (7, .int (iI z111)), (6, .int (iI z110)), (0, .ref h), (1, .ref a1), (2, .ref a2), (3, .int (iI a3)), (5, .int (iI z101))]) X.1 X.2.1 d_Va_putSealed_52 hl (by decide) rfl (fun ls hl => ?_)
    exact J115 _ 0 f111 _ _ _ rfl (by omega) (by omega) Y S (lv_sub hl [4, 5, 6, 7, 8, 3, 2, 1, 0] rfl)
  refine z_if_le (tgt := 31) X.1 X.2.1 d_Va_putSealed_20 (by decide) ⟨by omega, by omega⟩ (fun h142 => ?_) (fun h142 => ?_)
  · exact J106 f104 _ _ _  Y S (lv_sub hl [1, 2, 3, 4, 0] rfl)
  · refine lv_aload_n X.1 X.2.1 d_Va_putSealed_23 rfl (lv_at hl 2 rfl) ?_
    refine lv_iconst (v := iI 1) X.1 X.2.1 d_Va_putSealed_24 (by decide) ?_
    refine lv_iload X.1 X.2.1 d_Va_putSealed_25 (lv_at hl 5 rfl) ?_
    refine lv_i2l X.1 X.2.1 d_Va_putSealed_27 rfl ?_
    refine t_anyl (fun v143 => ?_)
    refine t_nv (t_runV (As := [.int (iI 1), .long v143]) (rest := []) (n := 2) X Y S k1 hml hl.1 (c_By_putNumber l D E T κ L f104 H.size a1 n1 k1 (by omega) 1 (by omega) (by omega) v143 S.1) (ok_k X Y hA KS KR) rfl kl_Va_By_putNumber ks_By_putNumber kx_By_putNumber ki_By_putNumber ini_By ⟨rfl, rfl⟩ hd_By_putNumber ⟨Nat.le_of_ble_eq_true rfl, Nat.le_of_ble_eq_true rfl⟩ rfl (Nat.le_of_ble_eq_true rfl) d_Va_putSealed_28 ⟨Nat.le_of_ble_eq_true rfl, Nat.le_of_ble_eq_true rfl⟩) X Y hA S (by decide) (fun f144 H locs Y S s144 p144 => ?_)
    exact J106 f144 _ _ _  Y S (lv_sub hl [1, 2, 3, 4, 0] rfl)
set_option maxHeartbeats 4000000 in
set_option maxRecDepth 100000 in
theorem c_Va_opens (l : Launch) (D : va_G) (E : cE) (T : cT) (κ : tK) (L : List Nat) (f : pF) (sz : Nat) (h : Nat) (k0 : κ h = (21, 0)) (a1 n1 : Nat) (k1 : κ a1 = (13, n1)) (x1 : n1 ≤ 12288) (a2 : Int) (l_a2 : (-1) ≤ a2) (u_a2 : a2 ≤ 20200) (a3 n3 : Nat) (k3 : tKey T κ a3 n3) (x3 : n3 = 0 ∨ n3 = 16 ∨ n3 = 32) (a4 : Int) (l_a4 : (-2147483648) ≤ a4) (u_a4 : a4 ≤ 2147483647) (a5 n5 : Nat) (k5 : κ a5 = (13, n5)) (x5 : n5 ≤ 12288) (hw : tW E T κ L f) : Met l y_Va_opens (k_Va_opens :: lw_tg) (kRm 5 155 0 0) (va_Pc [.ref h, .ref a1, .int (iI a2), .ref a3, .int (iI a4), .ref a5] (kPre D E T L f sz)) (va_Qi (nPi E T [1, 2, 3, 4, 11, 13, 16] κ L f (fun (z : Int) (g : pF) => 0 ≤ z ∧ z ≤ 1)) (cPost D E (pA L sz)) (pA L sz)) 0 0 (pA L sz) := by
  refine k_enter (own := R_Va) (by decide) rfl (Nat.le_of_ble_eq_true rfl) (fun p e s m below meth c ls AV QQ H locs hQQ X Y hA hin hr hlk hml hl KS KR => ?_)
  have hl : lv_has ls 9 [(0, .ref h), (1, .ref a1), (2, .int (iI a2)), (3, .ref a3), (4, .int (iI a4)), (5, .ref a5)] := hl
  have S : tS E T (tFr κ L [1, 2, 3, 4, 11, 13, 16] []) κ L f κ L f := tS_rf hw
  refine lv_aload_n X.1 X.2.1 d_Va_opens_0 rfl (lv_at hl 1 rfl) ?_
  refine lv_iload_n X.1 X.2.1 d_Va_opens_1 rfl (lv_at hl 2 rfl) ?_
  refine lv_iconst (v := iI 2) X.1 X.2.1 d_Va_opens_2 (by decide) ?_
  refine t_ui (t_runV (As := [.int (iI a2), .int (iI 2)]) (rest := []) (n := 2) X Y S k1 hml hl.1 (c_By_field l D E T κ L f H.size a1 n1 k1 (by omega) a2 (by omega) (by omega) 2 (by omega) (by omega) S.1) (ok_k X Y hA KS KR) rfl kl_Va_By_field ks_By_field kx_By_field ki_By_field ini_By ⟨rfl, rfl⟩ hd_By_field ⟨Nat.le_of_ble_eq_true rfl, Nat.le_of_ble_eq_true rfl⟩ rfl (Nat.le_of_ble_eq_true rfl) d_Va_opens_3 ⟨Nat.le_of_ble_eq_true rfl, Nat.le_of_ble_eq_true rfl⟩) X Y hA (fun z101 H locs Y p101 => ?_)
  obtain ⟨l101, u101⟩ := p101
  refine lv_istore (lv' := [(6, .int (iI z101)), (0, .ref h), (1, .ref a1), (2, .int (iI a2)), (3, .ref a3), (4, .int (iI a4)), (5, .ref a5)]) X.1 X.2.1 d_Va_opens_6 hl (by decide) rfl (fun ls hl => ?_)
  refine lv_aload_n X.1 X.2.1 d_Va_opens_8 rfl (lv_at hl 2 rfl) ?_
  refine lv_iload X.1 X.2.1 d_Va_opens_9 (lv_at hl 0 rfl) ?_
  obtain ⟨z102, e102, l102, u102⟩ := t_size S k1
  refine t_ui (t_runV (As := [.int (iI z101)]) (rest := []) (n := 1) X Y S k1 hml hl.1 (c_By_body l D E T κ L f H.size a1 n1 k1 (by omega) z101 (by omega) (by omega) S.1 z102 e102 (by omega) (by omega)) (ok_k X Y hA KS KR) rfl kl_Va_By_body ks_By_body kx_By_body ki_By_body ini_By ⟨rfl, rfl⟩ hd_By_body ⟨Nat.le_of_ble_eq_true rfl, Nat.le_of_ble_eq_true rfl⟩ rfl (Nat.le_of_ble_eq_true rfl) d_Va_opens_11 ⟨Nat.le_of_ble_eq_true rfl, Nat.le_of_ble_eq_true rfl⟩) X Y hA (fun z103 H locs Y p103 => ?_)
  obtain ⟨l103, u103, x103⟩ := p103
  refine lv_istore (lv' := [(7, .int (iI z103)), (6, .int (iI z101)), (0, .ref h), (1, .ref a1), (2, .int (iI a2)), (3, .ref a3), (4, .int (iI a4)), (5, .ref a5)]) X.1 X.2.1 d_Va_opens_14 hl (by decide) rfl (fun ls hl => ?_)
  refine lv_aload_n X.1 X.2.1 d_Va_opens_16 rfl (lv_at hl 3 rfl) ?_
  refine lv_iload X.1 X.2.1 d_Va_opens_17 (lv_at hl 1 rfl) ?_
  refine lv_aload_n X.1 X.2.1 d_Va_opens_19 rfl (lv_at hl 3 rfl) ?_
  refine t_get0 (ci := 3) X Y S k1 rfl i_By 1 (by decide) rfl lk_Va_77 (fun _ h9 => h9) d_Va_opens_20 e102 ?_
  refine t_ui (t_runV (As := [.int (iI z101), .int (iI z102)]) (rest := []) (n := 2) X Y S k1 hml hl.1 (c_By_stop l D E T κ L f H.size a1 n1 k1 (by omega) z101 (by omega) (by omega) z102 (by omega) (by omega) S.1 z102 e102 (by omega) (by omega)) (ok_k X Y hA KS KR) rfl kl_Va_By_stop ks_By_stop kx_By_stop ki_By_stop ini_By ⟨rfl, rfl⟩ hd_By_stop ⟨Nat.le_of_ble_eq_true rfl, Nat.le_of_ble_eq_true rfl⟩ rfl (Nat.le_of_ble_eq_true rfl) d_Va_opens_23 ⟨Nat.le_of_ble_eq_true rfl, Nat.le_of_ble_eq_true rfl⟩) X Y hA (fun z104 H locs Y p104 => ?_)
  obtain ⟨l104, u104, x104⟩ := p104
  refine lv_iload X.1 X.2.1 d_Va_opens_26 (lv_at hl 0 rfl) ?_
  refine z_isub X.1 X.2.1 d_Va_opens_28 ?_
  refine lv_bipush (v := iI 12) X.1 X.2.1 d_Va_opens_29 (by decide) ?_
  refine z_isub X.1 X.2.1 d_Va_opens_31 ?_
  refine lv_istore (lv' := [(8, .int (iI ((z104 - z103) - 12))), (7, .int (iI z103)), (6, .int (iI z101)), (0, .ref h), (1, .ref a1), (2, .int (iI a2)), (3, .ref a3), (4, .int (iI a4)), (5, .ref a5)]) X.1 X.2.1 d_Va_opens_32 hl (by decide) rfl (fun ls hl => ?_)
  refine lv_iload X.1 X.2.1 d_Va_opens_34 (lv_at hl 2 rfl) ?_
  refine z_if_lt (tgt := 70) X.1 X.2.1 d_Va_opens_36 (by decide) ⟨by omega, by omega⟩ (fun h105 => ?_) (fun h105 => ?_)
  · refine lv_iconst (v := iI 0) X.1 X.2.1 d_Va_opens_70 (by decide) ?_
    exact c_retz hQQ X Y hr hlk (iI_bool (by omega) (by omega)).1 ⟨rfl, S, 0, rfl, ⟨by omega, by omega⟩⟩ d_Va_opens_71
  · refine lv_iload X.1 X.2.1 d_Va_opens_39 (lv_at hl 0 rfl) ?_
    refine lv_bipush (v := iI 16) X.1 X.2.1 d_Va_opens_41 (by decide) ?_
    refine z_icmp_lt (tgt := 70) X.1 X.2.1 d_Va_opens_43 (by decide) ⟨by omega, by omega⟩ ⟨by omega, by omega⟩ (fun h106 => ?_) (fun h106 => ?_)
    · refine lv_iconst (v := iI 0) X.1 X.2.1 d_Va_opens_70 (by decide) ?_
      exact c_retz hQQ X Y hr hlk (iI_bool (by omega) (by omega)).1 ⟨rfl, S, 0, rfl, ⟨by omega, by omega⟩⟩ d_Va_opens_71
    · refine lv_aload_n X.1 X.2.1 d_Va_opens_46 rfl (lv_at hl 6 rfl) ?_
      refine t_alen X Y S KS (tKey_src k3) (by omega) d_Va_opens_47 ?_
      refine z_if_eq (tgt := 70) X.1 X.2.1 d_Va_opens_48 (by decide) ⟨by omega, by omega⟩ (fun h107 => ?_) (fun h107 => ?_)
      · refine lv_iconst (v := iI 0) X.1 X.2.1 d_Va_opens_70 (by decide) ?_
        exact c_retz hQQ X Y hr hlk (iI_bool (by omega) (by omega)).1 ⟨rfl, S, 0, rfl, ⟨by omega, by omega⟩⟩ d_Va_opens_71
      · refine lv_aload_n X.1 X.2.1 d_Va_opens_51 rfl (lv_at hl 4 rfl) ?_
        refine lv_aload_n X.1 X.2.1 d_Va_opens_52 rfl (lv_at hl 4 rfl) ?_
        refine lv_iload_n X.1 X.2.1 d_Va_opens_53 rfl (lv_at hl 5 rfl) ?_
        refine lv_iconst (v := iI 0) X.1 X.2.1 d_Va_opens_54 (by decide) ?_
        refine t_ui (t_runV (As := [.int (iI a2), .int (iI 0)]) (rest := [.ref a1]) (n := 2) X Y S k1 hml hl.1 (c_By_field l D E T κ L f H.size a1 n1 k1 (by omega) a2 (by omega) (by omega) 0 (by omega) (by omega) S.1) (ok_k X Y hA KS KR) rfl kl_Va_By_field ks_By_field kx_By_field ki_By_field ini_By ⟨rfl, rfl⟩ hd_By_field ⟨Nat.le_of_ble_eq_true rfl, Nat.le_of_ble_eq_true rfl⟩ rfl (Nat.le_of_ble_eq_true rfl) d_Va_opens_55 ⟨Nat.le_of_ble_eq_true rfl, Nat.le_of_ble_eq_true rfl⟩) X Y hA (fun z108 H locs Y p108 => ?_)
        obtain ⟨l108, u108⟩ := p108
        refine t_ul (t_runV (As := [.int (iI z108)]) (rest := []) (n := 1) X Y S k1 hml hl.1 (c_By_numberAt l D E T κ L f H.size a1 n1 k1 (by omega) z108 (by omega) (by omega) S.1) (ok_k X Y hA KS KR) rfl kl_Va_By_numberAt ks_By_numberAt kx_By_numberAt ki_By_numberAt ini_By ⟨rfl, rfl⟩ hd_By_numberAt ⟨Nat.le_of_ble_eq_true rfl, Nat.le_of_ble_eq_true rfl⟩ rfl (Nat.le_of_ble_eq_true rfl) d_Va_opens_58 ⟨Nat.le_of_ble_eq_true rfl, Nat.le_of_ble_eq_true rfl⟩) X Y hA (fun v109 H locs Y p109 => ?_)
        refine lv_aload_n X.1 X.2.1 d_Va_opens_61 rfl (lv_at hl 6 rfl) ?_
        refine t_ui (x_runS (As := [.ref a3]) (rest := [.long v109]) (n := 1) X hml hl.1 (c_Va_typeOf l D E T κ L f H.size a3 n3 k3 (by omega) S.1) (ok_k X Y hA KS KR) kl_Va_Va_typeOf ks_Va_typeOf ki_Va_typeOf ini_Va ⟨rfl, rfl⟩ hd_Va_typeOf.2 ⟨Nat.le_of_ble_eq_true rfl, Nat.le_of_ble_eq_true rfl⟩ rfl (Nat.le_of_ble_eq_true rfl) d_Va_opens_62 ⟨Nat.le_of_ble_eq_true rfl, Nat.le_of_ble_eq_true rfl⟩) X Y hA (fun z110 H locs Y p110 => ?_)
        obtain ⟨l110, u110⟩ := p110
        refine lv_i2l X.1 X.2.1 d_Va_opens_65 rfl ?_
        refine t_anyl (fun v111 => ?_)
        refine W.lcmp X.1 X.2.1 d_Va_opens_66 ?_
        refine t_u (fun z112 l112 u112 => ?_)
        refine z_if_eq (tgt := 72) X.1 X.2.1 d_Va_opens_67 (by decide) ⟨by omega, by omega⟩ (fun h113 => ?_) (fun h113 => ?_)
        · refine lv_aload X.1 X.2.1 d_Va_opens_72 (lv_at hl 8 rfl) ?_
          refine t_nv (t_runV (As := []) (rest := []) (n := 0) X Y S k5 hml hl.1 (c_By_clear l D E T κ L f H.size a5 n5 k5 (by omega) S.1) (ok_k X Y hA KS KR) rfl kl_Va_By_clear ks_By_clear kx_By_clear ki_By_clear ini_By ⟨rfl, rfl⟩ hd_By_clear ⟨Nat.le_of_ble_eq_true rfl, Nat.le_of_ble_eq_true rfl⟩ rfl (Nat.le_of_ble_eq_true rfl) d_Va_opens_74 ⟨Nat.le_of_ble_eq_true rfl, Nat.le_of_ble_eq_true rfl⟩) X Y hA S (by decide) (fun f114 H locs Y S s114 p114 => ?_)
          refine lv_aload X.1 X.2.1 d_Va_opens_77 (lv_at hl 8 rfl) ?_
          refine lv_aload_n X.1 X.2.1 d_Va_opens_79 rfl (lv_at hl 4 rfl) ?_
          refine t_getrow (ci := 3) X Y S k1 rfl i_By 0 (by decide) rfl lk_Va_86 (fun _ h9 => h9) d_Va_opens_80 (fun b115 e115 k115 => ?_)
          refine lv_iload X.1 X.2.1 d_Va_opens_83 (lv_at hl 1 rfl) ?_
          refine lv_iload X.1 X.2.1 d_Va_opens_85 (lv_at hl 0 rfl) ?_
          refine t_nv (t_runV (As := [.ref b115, .int (iI z103), .int (iI ((z104 - z103) - 12))]) (rest := []) (n := 3) X Y S k5 hml hl.1 (c_By_append l D E T κ L f114 H.size a5 n5 k5 (by omega) b115 n1 (Or.inl k115) (by omega) z103 (by omega) (by omega) ((z104 - z103) - 12) (by omega) (by omega) S.1) (ok_k X Y hA KS KR) rfl kl_Va_By_append ks_By_append kx_By_append ki_By_append ini_By ⟨rfl, rfl⟩ hd_By_append ⟨Nat.le_of_ble_eq_true rfl, Nat.le_of_ble_eq_true rfl⟩ rfl (Nat.le_of_ble_eq_true rfl) d_Va_opens_87 ⟨Nat.le_of_ble_eq_true rfl, Nat.le_of_ble_eq_true rfl⟩) X Y hA S (by decide) (fun f116 H locs Y S s116 p116 => ?_)
          refine lv_aload_n X.1 X.2.1 d_Va_opens_90 rfl (lv_at hl 3 rfl) ?_
          refine lv_aload_n X.1 X.2.1 d_Va_opens_91 rfl (lv_at hl 6 rfl) ?_
          refine lv_iload X.1 X.2.1 d_Va_opens_92 (lv_at hl 7 rfl) ?_
          refine lv_sipush (v := iI 170) X.1 X.2.1 d_Va_opens_94 (by decide) ?_
          refine t_nv (t_runV (As := [.ref a3, .int (iI a4), .int (iI 170)]) (rest := []) (n := 3) X Y S k0 hml hl.1 (c_Va_derive l D E T κ L f116 H.size h k0 a3 n3 k3 (by omega) a4 (by omega) (by omega) 170 (by omega) (by omega) S.1) (ok_k X Y hA KS KR) rfl kl_Va_Va_derive ks_Va_derive kx_Va_derive ki_Va_derive ini_Va ⟨rfl, rfl⟩ hd_Va_derive ⟨Nat.le_of_ble_eq_true rfl, Nat.le_of_ble_eq_true rfl⟩ rfl (Nat.le_of_ble_eq_true rfl) d_Va_opens_97 ⟨Nat.le_of_ble_eq_true rfl, Nat.le_of_ble_eq_true rfl⟩) X Y hA S (by decide) (fun f117 H locs Y S s117 p117 => ?_)
          refine lv_aload_n X.1 X.2.1 d_Va_opens_100 rfl (lv_at hl 3 rfl) ?_
          refine t_getr (ci := 11) X Y S k0 rfl i_Va 4 (by decide) rfl (k1 := 11) (k2 := 0) rfl rfl lk_Va_38 (fun _ h9 => h9) d_Va_opens_101 (fun b118 e118 k118 => ?_)
          refine lv_aload_n X.1 X.2.1 d_Va_opens_104 rfl (lv_at hl 3 rfl) ?_
          refine t_getr (ci := 11) X Y S k0 rfl i_Va 10 (by decide) rfl (k1 := 1) (k2 := 32) rfl rfl lk_Va_52 (fun _ h9 => h9) d_Va_opens_105 (fun b119 e119 k119 => ?_)
          refine lv_aload_n X.1 X.2.1 d_Va_opens_108 rfl (lv_at hl 6 rfl) ?_
          refine t_alen X Y S KS (tKey_src k3) (by omega) d_Va_opens_109 ?_
          refine t_nv (t_runV (As := [.ref b119, .int (iI ((n3 : Int)))]) (rest := []) (n := 2) X Y S k118 hml hl.1 (c_Ae_setKey l D E T κ L f117 H.size b118 k118 b119 32 (Or.inl k119) (by omega) ((n3 : Int)) (by omega) (by omega) S.1) (ok_k X Y hA KS KR) rfl kl_Va_Ae_setKey ks_Ae_setKey kx_Ae_setKey ki_Ae_setKey ini_Ae ⟨rfl, rfl⟩ hd_Ae_setKey ⟨Nat.le_of_ble_eq_true rfl, Nat.le_of_ble_eq_true rfl⟩ rfl (Nat.le_of_ble_eq_true rfl) d_Va_opens_110 ⟨Nat.le_of_ble_eq_true rfl, Nat.le_of_ble_eq_true rfl⟩) X Y hA S (by decide) (fun f120 H locs Y S s120 p120 => ?_)
          refine lv_aload_n X.1 X.2.1 d_Va_opens_113 rfl (lv_at hl 3 rfl) ?_
          refine t_get0 (ci := 11) X Y S k0 rfl i_Va 4 (by decide) rfl lk_Va_38 (fun _ h9 => h9) d_Va_opens_114 ((gF_same (s120.2.2.2 _ ⟨(t_obj S.1 k0).1, nM_of k0 (by decide), by simp⟩).1 4).trans e118) ?_
          refine lv_aload X.1 X.2.1 d_Va_opens_117 (lv_at hl 8 rfl) ?_
          refine t_getrow (ci := 3) X Y S k5 rfl i_By 0 (by decide) rfl lk_Va_86 (fun _ h9 => h9) d_Va_opens_119 (fun b121 e121 k121 => ?_)
          refine lv_iconst (v := iI 0) X.1 X.2.1 d_Va_opens_122 (by decide) ?_
          refine lv_aload X.1 X.2.1 d_Va_opens_123 (lv_at hl 8 rfl) ?_
          refine t_gets (ci := 3) X Y S k5 rfl i_By 1 (by decide) rfl lk_Va_77 (fun _ h9 => h9) d_Va_opens_125 (fun z122 e122 l122 u122 => ?_)
          refine t_nv (t_runV (As := [.ref b121, .int (iI 0), .int (iI z122)]) (rest := []) (n := 3) X Y S k118 hml hl.1 (c_Ae_unlock l D E T κ L f120 H.size b118 k118 b121 n5 k121 (by omega) 0 (by omega) (by omega) z122 (by omega) (by omega) S.1) (ok_k X Y hA KS KR) rfl kl_Va_Ae_unlock ks_Ae_unlock kx_Ae_unlock ki_Ae_unlock ini_Ae ⟨rfl, rfl⟩ hd_Ae_unlock ⟨Nat.le_of_ble_eq_true rfl, Nat.le_of_ble_eq_true rfl⟩ rfl (Nat.le_of_ble_eq_true rfl) d_Va_opens_128 ⟨Nat.le_of_ble_eq_true rfl, Nat.le_of_ble_eq_true rfl⟩) X Y hA S (by decide) (fun f123 H locs Y S s123 p123 => ?_)
          refine lv_aload_n X.1 X.2.1 d_Va_opens_131 rfl (lv_at hl 3 rfl) ?_
          refine lv_aload_n X.1 X.2.1 d_Va_opens_132 rfl (lv_at hl 6 rfl) ?_
          refine lv_iload X.1 X.2.1 d_Va_opens_133 (lv_at hl 7 rfl) ?_
          refine lv_bipush (v := iI 85) X.1 X.2.1 d_Va_opens_135 (by decide) ?_
          refine t_nv (t_runV (As := [.ref a3, .int (iI a4), .int (iI 85)]) (rest := []) (n := 3) X Y S k0 hml hl.1 (c_Va_derive l D E T κ L f123 H.size h k0 a3 n3 k3 (by omega) a4 (by omega) (by omega) 85 (by omega) (by omega) S.1) (ok_k X Y hA KS KR) rfl kl_Va_Va_derive ks_Va_derive kx_Va_derive ki_Va_derive ini_Va ⟨rfl, rfl⟩ hd_Va_derive ⟨Nat.le_of_ble_eq_true rfl, Nat.le_of_ble_eq_true rfl⟩ rfl (Nat.le_of_ble_eq_true rfl) d_Va_opens_137 ⟨Nat.le_of_ble_eq_true rfl, Nat.le_of_ble_eq_true rfl⟩) X Y hA S (by decide) (fun f124 H locs Y S s124 p124 => ?_)
          refine lv_aload_n X.1 X.2.1 d_Va_opens_140 rfl (lv_at hl 3 rfl) ?_
          refine t_getr (ci := 11) X Y S k0 rfl i_Va 3 (by decide) rfl (k1 := 16) (k2 := 0) rfl rfl lk_Va_31 (fun _ h9 => h9) d_Va_opens_141 (fun b125 e125 k125 => ?_)
          refine lv_aload_n X.1 X.2.1 d_Va_opens_144 rfl (lv_at hl 3 rfl) ?_
          refine t_get0 (ci := 11) X Y S k0 rfl i_Va 10 (by decide) rfl lk_Va_52 (fun _ h9 => h9) d_Va_opens_145 ((gF_same (s124.2.2.2 _ ⟨(t_obj S.1 k0).1, nM_of k0 (by decide), by simp⟩).1 10).trans ((gF_same (s123.2.2.2 _ ⟨(t_obj S.1 k0).1, nM_of k0 (by decide), by simp⟩).1 10).trans ((gF_same (s120.2.2.2 _ ⟨(t_obj S.1 k0).1, nM_of k0 (by decide), by simp⟩).1 10).trans e119))) ?_
          refine lv_iconst (v := iI 0) X.1 X.2.1 d_Va_opens_148 (by decide) ?_
          refine lv_aload_n X.1 X.2.1 d_Va_opens_149 rfl (lv_at hl 6 rfl) ?_
          refine t_alen X Y S KS (tKey_src k3) (by omega) d_Va_opens_150 ?_
          refine t_nv (t_runV (As := [.ref b119, .int (iI 0), .int (iI ((n3 : Int)))]) (rest := []) (n := 3) X Y S k125 hml hl.1 (c_Ha_setKey l D E T κ L f124 H.size b125 k125 b119 32 (Or.inl k119) (by omega) 0 (by omega) (by omega) ((n3 : Int)) (by omega) (by omega) S.1) (ok_k X Y hA KS KR) rfl kl_Va_Ha_setKey ks_Ha_setKey kx_Ha_setKey ki_Ha_setKey ini_Ha ⟨rfl, rfl⟩ hd_Ha_setKey ⟨Nat.le_of_ble_eq_true rfl, Nat.le_of_ble_eq_true rfl⟩ rfl (Nat.le_of_ble_eq_true rfl) d_Va_opens_151 ⟨Nat.le_of_ble_eq_true rfl, Nat.le_of_ble_eq_true rfl⟩) X Y hA S (by decide) (fun f126 H locs Y S s126 p126 => ?_)
          refine lv_aload_n X.1 X.2.1 d_Va_opens_154 rfl (lv_at hl 3 rfl) ?_
          refine lv_aload X.1 X.2.1 d_Va_opens_155 (lv_at hl 8 rfl) ?_
          refine lv_iconst (v := iI 0) X.1 X.2.1 d_Va_opens_157 (by decide) ?_
          refine lv_aload X.1 X.2.1 d_Va_opens_158 (lv_at hl 8 rfl) ?_
          refine t_get0 (ci := 3) X Y S k5 rfl i_By 1 (by decide) rfl lk_Va_77 (fun _ h9 => h9) d_Va_opens_160 ((gF_same (s126.2.2.2 _ ⟨(t_obj S.1 k5).1, nM_of k5 (by decide), by simp⟩).1 1).trans ((gF_same (s124.2.2.2 _ ⟨(t_obj S.1 k5).1, nM_of k5 (by decide), by simp⟩).1 1).trans ((gF_same (s123.2.2.2 _ ⟨(t_obj S.1 k5).1, nM_of k5 (by decide), by simp⟩).1 1).trans e122))) ?_
          refine t_nv (t_runV (As := [.ref a5, .int (iI 0), .int (iI z122)]) (rest := []) (n := 3) X Y S k0 hml hl.1 (c_Va_digest l D E T κ L f126 H.size h k0 a5 n5 k5 (by omega) 0 (by omega) (by omega) z122 (by omega) (by omega) S.1) (ok_k X Y hA KS KR) rfl kl_Va_Va_digest ks_Va_digest kx_Va_digest ki_Va_digest ini_Va ⟨rfl, rfl⟩ hd_Va_digest ⟨Nat.le_of_ble_eq_true rfl, Nat.le_of_ble_eq_true rfl⟩ rfl (Nat.le_of_ble_eq_true rfl) d_Va_opens_163 ⟨Nat.le_of_ble_eq_true rfl, Nat.le_of_ble_eq_true rfl⟩) X Y hA S (by decide) (fun f127 H locs Y S s127 p127 => ?_)
          refine lv_aload X.1 X.2.1 d_Va_opens_166 (lv_at hl 8 rfl) ?_
          refine lv_bipush (v := iI 16) X.1 X.2.1 d_Va_opens_168 (by decide) ?_
          refine t_nv (t_runV (As := [.int (iI 16)]) (rest := []) (n := 1) X Y S k5 hml hl.1 (c_By_skip l D E T κ L f127 H.size a5 n5 k5 (by omega) 16 (by omega) (by omega) S.1) (ok_k X Y hA KS KR) rfl kl_Va_By_skip ks_By_skip kx_By_skip ki_By_skip ini_By ⟨rfl, rfl⟩ hd_By_skip ⟨Nat.le_of_ble_eq_true rfl, Nat.le_of_ble_eq_true rfl⟩ rfl (Nat.le_of_ble_eq_true rfl) d_Va_opens_170 ⟨Nat.le_of_ble_eq_true rfl, Nat.le_of_ble_eq_true rfl⟩) X Y hA S (by decide) (fun f128 H locs Y S s128 p128 => ?_)
          refine lv_aload_n X.1 X.2.1 d_Va_opens_173 rfl (lv_at hl 3 rfl) ?_
          refine lv_aload_n X.1 X.2.1 d_Va_opens_174 rfl (lv_at hl 4 rfl) ?_
          refine lv_iload X.1 X.2.1 d_Va_opens_175 (lv_at hl 1 rfl) ?_
          refine lv_iload X.1 X.2.1 d_Va_opens_177 (lv_at hl 0 rfl) ?_
          refine z_iadd X.1 X.2.1 d_Va_opens_179 ?_
          refine t_ui (t_runV (As := [.ref a1, .int (iI (z103 + ((z104 - z103) - 12)))]) (rest := []) (n := 2) X Y S k0 hml hl.1 (c_Va_isMac l D E T κ L f128 H.size h k0 a1 n1 k1 (by omega) (z103 + ((z104 - z103) - 12)) (by omega) (by omega) S.1) (ok_k X Y hA KS KR) rfl kl_Va_Va_isMac ks_Va_isMac kx_Va_isMac ki_Va_isMac ini_Va ⟨rfl, rfl⟩ hd_Va_isMac ⟨Nat.le_of_ble_eq_true rfl, Nat.le_of_ble_eq_true rfl⟩ rfl (Nat.le_of_ble_eq_true rfl) d_Va_opens_180 ⟨Nat.le_of_ble_eq_true rfl, Nat.le_of_ble_eq_true rfl⟩) X Y hA (fun z129 H locs Y p129 => ?_)
          obtain ⟨l129, u129⟩ := p129
          exact c_retz hQQ X Y hr hlk (iI_bool (by omega) (by omega)).1 ⟨rfl, S, z129, rfl, ⟨by omega, by omega⟩⟩ d_Va_opens_183
        · refine lv_iconst (v := iI 0) X.1 X.2.1 d_Va_opens_70 (by decide) ?_
          exact c_retz hQQ X Y hr hlk (iI_bool (by omega) (by omega)).1 ⟨rfl, S, 0, rfl, ⟨by omega, by omega⟩⟩ d_Va_opens_71
set_option maxHeartbeats 4000000 in
set_option maxRecDepth 100000 in
theorem c_Va_sum (l : Launch) (D : va_G) (E : cE) (T : cT) (κ : tK) (L : List Nat) (f : pF) (sz : Nat) (h : Nat) (k0 : κ h = (21, 0)) (a1 n1 : Nat) (k1 : tKey T κ a1 n1) (x1 : n1 = 0 ∨ n1 = 16 ∨ n1 = 32) (a2 : Int) (l_a2 : (-2147483648) ≤ a2) (u_a2 : a2 ≤ 2147483647) (a3 n3 : Nat) (k3 : κ a3 = (13, n3)) (x3 : n3 ≤ 12288) (a4 : Int) (l_a4 : (-1) ≤ a4) (u_a4 : a4 ≤ 20200) (a5 : Int) (l_a5 : (-1) ≤ a5) (u_a5 : a5 ≤ 20200) (hw : tW E T κ L f) : Met l y_Va_sum (k_Va_sum :: lw_tg) (kRm 5 155 0 0) (va_Pc [.ref h, .ref a1, .int (iI a2), .ref a3, .int (iI a4), .int (iI a5)] (kPre D E T L f sz)) (va_Qv (nPv E T [1, 2, 3, 4, 11, 16] κ L f (fun (g : pF) => True)) (cPost D E (pA L sz)) (pA L sz)) 0 0 (pA L sz) := by
  refine k_enter (own := R_Va) (by decide) rfl (Nat.le_of_ble_eq_true rfl) (fun p e s m below meth c ls AV QQ H locs hQQ X Y hA hin hr hlk hml hl KS KR => ?_)
  have hl : lv_has ls 6 [(0, .ref h), (1, .ref a1), (2, .int (iI a2)), (3, .ref a3), (4, .int (iI a4)), (5, .int (iI a5))] := hl
  have S : tS E T (tFr κ L [1, 2, 3, 4, 11, 16] []) κ L f κ L f := tS_rf hw
  refine lv_aload_n X.1 X.2.1 d_Va_sum_0 rfl (lv_at hl 0 rfl) ?_
  refine lv_aload_n X.1 X.2.1 d_Va_sum_1 rfl (lv_at hl 1 rfl) ?_
  refine lv_iload_n X.1 X.2.1 d_Va_sum_2 rfl (lv_at hl 2 rfl) ?_
  refine lv_sipush (v := iI 153) X.1 X.2.1 d_Va_sum_3 (by decide) ?_
  refine t_nv (t_runV (As := [.ref a1, .int (iI a2), .int (iI 153)]) (rest := []) (n := 3) X Y S k0 hml hl.1 (c_Va_derive l D E T κ L f H.size h k0 a1 n1 k1 (by omega) a2 (by omega) (by omega) 153 (by omega) (by omega) S.1) (ok_k X Y hA KS KR) rfl kl_Va_Va_derive ks_Va_derive kx_Va_derive ki_Va_derive ini_Va ⟨rfl, rfl⟩ hd_Va_derive ⟨Nat.le_of_ble_eq_true rfl, Nat.le_of_ble_eq_true rfl⟩ rfl (Nat.le_of_ble_eq_true rfl) d_Va_sum_6 ⟨Nat.le_of_ble_eq_true rfl, Nat.le_of_ble_eq_true rfl⟩) X Y hA S (by decide) (fun f101 H locs Y S s101 p101 => ?_)
  refine lv_aload_n X.1 X.2.1 d_Va_sum_9 rfl (lv_at hl 0 rfl) ?_
  refine t_getr (ci := 11) X Y S k0 rfl i_Va 3 (by decide) rfl (k1 := 16) (k2 := 0) rfl rfl lk_Va_31 (fun _ h9 => h9) d_Va_sum_10 (fun b102 e102 k102 => ?_)
  refine lv_aload_n X.1 X.2.1 d_Va_sum_13 rfl (lv_at hl 0 rfl) ?_
  refine t_getr (ci := 11) X Y S k0 rfl i_Va 10 (by decide) rfl (k1 := 1) (k2 := 32) rfl rfl lk_Va_52 (fun _ h9 => h9) d_Va_sum_14 (fun b103 e103 k103 => ?_)
  refine lv_iconst (v := iI 0) X.1 X.2.1 d_Va_sum_17 (by decide) ?_
  refine lv_aload_n X.1 X.2.1 d_Va_sum_18 rfl (lv_at hl 1 rfl) ?_
  refine t_alen X Y S KS (tKey_src k1) (by omega) d_Va_sum_19 ?_
  refine t_nv (t_runV (As := [.ref b103, .int (iI 0), .int (iI ((n1 : Int)))]) (rest := []) (n := 3) X Y S k102 hml hl.1 (c_Ha_setKey l D E T κ L f101 H.size b102 k102 b103 32 (Or.inl k103) (by omega) 0 (by omega) (by omega) ((n1 : Int)) (by omega) (by omega) S.1) (ok_k X Y hA KS KR) rfl kl_Va_Ha_setKey ks_Ha_setKey kx_Ha_setKey ki_Ha_setKey ini_Ha ⟨rfl, rfl⟩ hd_Ha_setKey ⟨Nat.le_of_ble_eq_true rfl, Nat.le_of_ble_eq_true rfl⟩ rfl (Nat.le_of_ble_eq_true rfl) d_Va_sum_20 ⟨Nat.le_of_ble_eq_true rfl, Nat.le_of_ble_eq_true rfl⟩) X Y hA S (by decide) (fun f104 H locs Y S s104 p104 => ?_)
  refine lv_aload_n X.1 X.2.1 d_Va_sum_23 rfl (lv_at hl 0 rfl) ?_
  refine lv_aload_n X.1 X.2.1 d_Va_sum_24 rfl (lv_at hl 3 rfl) ?_
  refine lv_iload X.1 X.2.1 d_Va_sum_25 (lv_at hl 4 rfl) ?_
  refine lv_iload X.1 X.2.1 d_Va_sum_27 (lv_at hl 5 rfl) ?_
  refine t_nv (t_runV (As := [.ref a3, .int (iI a4), .int (iI a5)]) (rest := []) (n := 3) X Y S k0 hml hl.1 (c_Va_digest l D E T κ L f104 H.size h k0 a3 n3 k3 (by omega) a4 (by omega) (by omega) a5 (by omega) (by omega) S.1) (ok_k X Y hA KS KR) rfl kl_Va_Va_digest ks_Va_digest kx_Va_digest ki_Va_digest ini_Va ⟨rfl, rfl⟩ hd_Va_digest ⟨Nat.le_of_ble_eq_true rfl, Nat.le_of_ble_eq_true rfl⟩ rfl (Nat.le_of_ble_eq_true rfl) d_Va_sum_29 ⟨Nat.le_of_ble_eq_true rfl, Nat.le_of_ble_eq_true rfl⟩) X Y hA S (by decide) (fun f105 H locs Y S s105 p105 => ?_)
  exact c_retv hQQ X Y hr hlk ⟨rfl, S, trivial⟩ d_Va_sum_32
set_option maxHeartbeats 4000000 in
set_option maxRecDepth 100000 in
theorem c_Va_putSum (l : Launch) (D : va_G) (E : cE) (T : cT) (κ : tK) (L : List Nat) (f : pF) (sz : Nat) (h : Nat) (k0 : κ h = (21, 0)) (a1 n1 : Nat) (k1 : κ a1 = (13, n1)) (x1 : n1 ≤ 12288) (a2 n2 : Nat) (k2 : tKey T κ a2 n2) (x2 : n2 = 0 ∨ n2 = 16 ∨ n2 = 32) (hw : tW E T κ L f) : Met l y_Va_putSum (k_Va_putSum :: lw_tg) (kRm 5 159 0 0) (va_Pc [.ref h, .ref a1, .ref a2] (kPre D E T L f sz)) (va_Qv (nPv E T [1, 13] κ L f (fun (g : pF) => True)) (cPost D E (pA L sz)) (pA L sz)) 0 0 (pA L sz) := by
  refine k_enter (own := R_Va) (by decide) rfl (Nat.le_of_ble_eq_true rfl) (fun p e s m below meth c ls AV QQ H locs hQQ X Y hA hin hr hlk hml hl KS KR => ?_)
  have hl : lv_has ls 3 [(0, .ref h), (1, .ref a1), (2, .ref a2)] := hl
  have S : tS E T (tFr κ L [1, 13] []) κ L f κ L f := tS_rf hw
  refine lv_aload_n X.1 X.2.1 d_Va_putSum_0 rfl (lv_at hl 1 rfl) ?_
  refine lv_iconst (v := iI 3) X.1 X.2.1 d_Va_putSum_1 (by decide) ?_
  refine lv_aload_n X.1 X.2.1 d_Va_putSum_2 rfl (lv_at hl 2 rfl) ?_
  refine t_ui (x_runS (As := [.ref a2]) (rest := [.int (iI 3), .ref a1]) (n := 1) X hml hl.1 (c_Va_typeOf l D E T κ L f H.size a2 n2 k2 (by omega) S.1) (ok_k X Y hA KS KR) kl_Va_Va_typeOf ks_Va_typeOf ki_Va_typeOf ini_Va ⟨rfl, rfl⟩ hd_Va_typeOf.2 ⟨Nat.le_of_ble_eq_true rfl, Nat.le_of_ble_eq_true rfl⟩ rfl (Nat.le_of_ble_eq_true rfl) d_Va_putSum_3 ⟨Nat.le_of_ble_eq_true rfl, Nat.le_of_ble_eq_true rfl⟩) X Y hA (fun z101 H locs Y p101 => ?_)
  obtain ⟨l101, u101⟩ := p101
  refine lv_iconst (v := iI 2) X.1 X.2.1 d_Va_putSum_6 (by decide) ?_
  refine z_isub X.1 X.2.1 d_Va_putSum_7 ?_
  refine lv_aload_n X.1 X.2.1 d_Va_putSum_8 rfl (lv_at hl 0 rfl) ?_
  refine t_getr (ci := 11) X Y S k0 rfl i_Va 3 (by decide) rfl (k1 := 16) (k2 := 0) rfl rfl lk_Va_31 (fun _ h9 => h9) d_Va_putSum_9 (fun b102 e102 k102 => ?_)
  refine t_getr (ci := 6) X Y S k102 rfl i_Ha 7 (by decide) rfl (k1 := 1) (k2 := 20) rfl rfl lk_Va_125 (fun _ h9 => h9) d_Va_putSum_12 (fun b103 e103 k103 => ?_)
  refine lv_bipush (v := iI 12) X.1 X.2.1 d_Va_putSum_15 (by decide) ?_
  refine t_nv (t_runV (As := [.int (iI 3), .int (iI (z101 - 2)), .ref b103, .int (iI 12)]) (rest := []) (n := 4) X Y S k1 hml hl.1 (c_By_putPair l D E T κ L f H.size a1 n1 k1 (by omega) 3 (by omega) (by omega) (z101 - 2) (by omega) (by omega) b103 20 (Or.inl k103) (by omega) 12 (by omega) (by omega) S.1) (ok_k X Y hA KS KR) rfl kl_Va_By_putPair ks_By_putPair kx_By_putPair ki_By_putPair ini_By ⟨rfl, rfl⟩ hd_By_putPair ⟨Nat.le_of_ble_eq_true rfl, Nat.le_of_ble_eq_true rfl⟩ rfl (Nat.le_of_ble_eq_true rfl) d_Va_putSum_17 ⟨Nat.le_of_ble_eq_true rfl, Nat.le_of_ble_eq_true rfl⟩) X Y hA S (by decide) (fun f104 H locs Y S s104 p104 => ?_)
  exact c_retv hQQ X Y hr hlk ⟨rfl, S, trivial⟩ d_Va_putSum_20
set_option maxHeartbeats 4000000 in
set_option maxRecDepth 100000 in
theorem c_Va_isSumFor (l : Launch) (D : va_G) (E : cE) (T : cT) (κ : tK) (L : List Nat) (f : pF) (sz : Nat) (a1 n1 : Nat) (k1 : tKey T κ a1 n1) (x1 : n1 = 0 ∨ n1 = 16 ∨ n1 = 32) (a2 n2 : Nat) (k2 : κ a2 = (13, n2)) (x2 : n2 ≤ 12288) (a3 : Int) (l_a3 : (-1) ≤ a3) (u_a3 : a3 ≤ 20200) (hw : tW E T κ L f) : Met l y_Va_isSumFor (k_Va_isSumFor :: lw_tg) (kRm 3 112 0 0) (va_Pc [.ref a1, .ref a2, .int (iI a3)] (kPre D E T L f sz)) (va_Qi (uPi L f (fun (z : Int) => 0 ≤ z ∧ z ≤ 1)) (cPost D E (pA L sz)) (pA L sz)) 0 0 (pA L sz) := by
  refine k_enter (own := R_Va) (by decide) rfl (Nat.le_of_ble_eq_true rfl) (fun p e s m below meth c ls AV QQ H locs hQQ X Y hA hin hr hlk hml hl KS KR => ?_)
  have hl : lv_has ls 3 [(0, .ref a1), (1, .ref a2), (2, .int (iI a3))] := hl
  have S : tS E T (tFr κ L [] []) κ L f κ L f := tS_rf hw
  refine lv_aload_n X.1 X.2.1 d_Va_isSumFor_0 rfl (lv_at hl 1 rfl) ?_
  refine lv_aload_n X.1 X.2.1 d_Va_isSumFor_1 rfl (lv_at hl 1 rfl) ?_
  refine lv_iload_n X.1 X.2.1 d_Va_isSumFor_2 rfl (lv_at hl 2 rfl) ?_
  refine lv_iconst (v := iI 0) X.1 X.2.1 d_Va_isSumFor_3 (by decide) ?_
  refine t_ui (t_runV (As := [.int (iI a3), .int (iI 0)]) (rest := [.ref a2]) (n := 2) X Y S k2 hml hl.1 (c_By_field l D E T κ L f H.size a2 n2 k2 (by omega) a3 (by omega) (by omega) 0 (by omega) (by omega) S.1) (ok_k X Y hA KS KR) rfl kl_Va_By_field ks_By_field kx_By_field ki_By_field ini_By ⟨rfl, rfl⟩ hd_By_field ⟨Nat.le_of_ble_eq_true rfl, Nat.le_of_ble_eq_true rfl⟩ rfl (Nat.le_of_ble_eq_true rfl) d_Va_isSumFor_4 ⟨Nat.le_of_ble_eq_true rfl, Nat.le_of_ble_eq_true rfl⟩) X Y hA (fun z101 H locs Y p101 => ?_)
  obtain ⟨l101, u101⟩ := p101
  refine t_ul (t_runV (As := [.int (iI z101)]) (rest := []) (n := 1) X Y S k2 hml hl.1 (c_By_numberAt l D E T κ L f H.size a2 n2 k2 (by omega) z101 (by omega) (by omega) S.1) (ok_k X Y hA KS KR) rfl kl_Va_By_numberAt ks_By_numberAt kx_By_numberAt ki_By_numberAt ini_By ⟨rfl, rfl⟩ hd_By_numberAt ⟨Nat.le_of_ble_eq_true rfl, Nat.le_of_ble_eq_true rfl⟩ rfl (Nat.le_of_ble_eq_true rfl) d_Va_isSumFor_7 ⟨Nat.le_of_ble_eq_true rfl, Nat.le_of_ble_eq_true rfl⟩) X Y hA (fun v102 H locs Y p102 => ?_)
  refine lv_aload_n X.1 X.2.1 d_Va_isSumFor_10 rfl (lv_at hl 0 rfl) ?_
  refine t_ui (x_runS (As := [.ref a1]) (rest := [.long v102]) (n := 1) X hml hl.1 (c_Va_typeOf l D E T κ L f H.size a1 n1 k1 (by omega) S.1) (ok_k X Y hA KS KR) kl_Va_Va_typeOf ks_Va_typeOf ki_Va_typeOf ini_Va ⟨rfl, rfl⟩ hd_Va_typeOf.2 ⟨Nat.le_of_ble_eq_true rfl, Nat.le_of_ble_eq_true rfl⟩ rfl (Nat.le_of_ble_eq_true rfl) d_Va_isSumFor_11 ⟨Nat.le_of_ble_eq_true rfl, Nat.le_of_ble_eq_true rfl⟩) X Y hA (fun z103 H locs Y p103 => ?_)
  obtain ⟨l103, u103⟩ := p103
  refine lv_iconst (v := iI 2) X.1 X.2.1 d_Va_isSumFor_14 (by decide) ?_
  refine z_isub X.1 X.2.1 d_Va_isSumFor_15 ?_
  refine lv_i2l X.1 X.2.1 d_Va_isSumFor_16 rfl ?_
  refine t_anyl (fun v104 => ?_)
  refine W.lcmp X.1 X.2.1 d_Va_isSumFor_17 ?_
  refine t_u (fun z105 l105 u105 => ?_)
  refine z_if_ne (tgt := 25) X.1 X.2.1 d_Va_isSumFor_18 (by decide) ⟨by omega, by omega⟩ (fun h106 => ?_) (fun h106 => ?_)
  · refine lv_iconst (v := iI 0) X.1 X.2.1 d_Va_isSumFor_25 (by decide) ?_
    exact c_retz hQQ X Y hr hlk (iI_bool (by omega) (by omega)).1 ⟨rfl, rfl, 0, rfl, ⟨by omega, by omega⟩⟩ d_Va_isSumFor_26
  · refine lv_iconst (v := iI 1) X.1 X.2.1 d_Va_isSumFor_21 (by decide) ?_
    refine lv_goto (tgt := 26) X.1 X.2.1 d_Va_isSumFor_22 (by decide) ?_
    exact c_retz hQQ X Y hr hlk (iI_bool (by omega) (by omega)).1 ⟨rfl, rfl, 1, rfl, ⟨by omega, by omega⟩⟩ d_Va_isSumFor_26
set_option maxHeartbeats 4000000 in
set_option maxRecDepth 100000 in
theorem c_Va_isSum (l : Launch) (D : va_G) (E : cE) (T : cT) (κ : tK) (L : List Nat) (f : pF) (sz : Nat) (h : Nat) (k0 : κ h = (21, 0)) (a1 n1 : Nat) (k1 : κ a1 = (13, n1)) (x1 : n1 ≤ 12288) (a2 : Int) (l_a2 : (-1) ≤ a2) (u_a2 : a2 ≤ 20200) (hw : tW E T κ L f) : Met l y_Va_isSum (k_Va_isSum :: lw_tg) (kRm 3 112 0 0) (va_Pc [.ref h, .ref a1, .int (iI a2)] (kPre D E T L f sz)) (va_Qi (uPi L f (fun (z : Int) => 0 ≤ z ∧ z ≤ 1)) (cPost D E (pA L sz)) (pA L sz)) 0 0 (pA L sz) := by
  refine k_enter (own := R_Va) (by decide) rfl (Nat.le_of_ble_eq_true rfl) (fun p e s m below meth c ls AV QQ H locs hQQ X Y hA hin hr hlk hml hl KS KR => ?_)
  have hl : lv_has ls 5 [(0, .ref h), (1, .ref a1), (2, .int (iI a2))] := hl
  have S : tS E T (tFr κ L [] []) κ L f κ L f := tS_rf hw
  refine lv_aload_n X.1 X.2.1 d_Va_isSum_0 rfl (lv_at hl 1 rfl) ?_
  refine lv_iload_n X.1 X.2.1 d_Va_isSum_1 rfl (lv_at hl 2 rfl) ?_
  refine lv_iconst (v := iI 1) X.1 X.2.1 d_Va_isSum_2 (by decide) ?_
  refine t_ui (t_runV (As := [.int (iI a2), .int (iI 1)]) (rest := []) (n := 2) X Y S k1 hml hl.1 (c_By_field l D E T κ L f H.size a1 n1 k1 (by omega) a2 (by omega) (by omega) 1 (by omega) (by omega) S.1) (ok_k X Y hA KS KR) rfl kl_Va_By_field ks_By_field kx_By_field ki_By_field ini_By ⟨rfl, rfl⟩ hd_By_field ⟨Nat.le_of_ble_eq_true rfl, Nat.le_of_ble_eq_true rfl⟩ rfl (Nat.le_of_ble_eq_true rfl) d_Va_isSum_3 ⟨Nat.le_of_ble_eq_true rfl, Nat.le_of_ble_eq_true rfl⟩) X Y hA (fun z101 H locs Y p101 => ?_)
  obtain ⟨l101, u101⟩ := p101
  refine lv_istore_n (lv' := [(3, .int (iI z101)), (0, .ref h), (1, .ref a1), (2, .int (iI a2))]) X.1 X.2.1 d_Va_isSum_6 rfl hl (by decide) rfl (fun ls hl => ?_)
  refine lv_aload_n X.1 X.2.1 d_Va_isSum_7 rfl (lv_at hl 2 rfl) ?_
  refine lv_iload_n X.1 X.2.1 d_Va_isSum_8 rfl (lv_at hl 0 rfl) ?_
  obtain ⟨z102, e102, l102, u102⟩ := t_size S k1
  refine t_ui (t_runV (As := [.int (iI z101)]) (rest := []) (n := 1) X Y S k1 hml hl.1 (c_By_body l D E T κ L f H.size a1 n1 k1 (by omega) z101 (by omega) (by omega) S.1 z102 e102 (by omega) (by omega)) (ok_k X Y hA KS KR) rfl kl_Va_By_body ks_By_body kx_By_body ki_By_body ini_By ⟨rfl, rfl⟩ hd_By_body ⟨Nat.le_of_ble_eq_true rfl, Nat.le_of_ble_eq_true rfl⟩ rfl (Nat.le_of_ble_eq_true rfl) d_Va_isSum_9 ⟨Nat.le_of_ble_eq_true rfl, Nat.le_of_ble_eq_true rfl⟩) X Y hA (fun z103 H locs Y p103 => ?_)
  obtain ⟨l103, u103, x103⟩ := p103
  refine lv_istore (lv' := [(4, .int (iI z103)), (3, .int (iI z101)), (0, .ref h), (1, .ref a1), (2, .int (iI a2))]) X.1 X.2.1 d_Va_isSum_12 hl (by decide) rfl (fun ls hl => ?_)
  refine lv_iload_n X.1 X.2.1 d_Va_isSum_14 rfl (lv_at hl 1 rfl) ?_
  refine z_if_lt (tgt := 49) X.1 X.2.1 d_Va_isSum_15 (by decide) ⟨by omega, by omega⟩ (fun h104 => ?_) (fun h104 => ?_)
  · refine lv_iconst (v := iI 0) X.1 X.2.1 d_Va_isSum_49 (by decide) ?_
    exact c_retz hQQ X Y hr hlk (iI_bool (by omega) (by omega)).1 ⟨rfl, rfl, 0, rfl, ⟨by omega, by omega⟩⟩ d_Va_isSum_50
  · refine lv_aload_n X.1 X.2.1 d_Va_isSum_18 rfl (lv_at hl 3 rfl) ?_
    refine lv_iload_n X.1 X.2.1 d_Va_isSum_19 rfl (lv_at hl 1 rfl) ?_
    refine lv_aload_n X.1 X.2.1 d_Va_isSum_20 rfl (lv_at hl 3 rfl) ?_
    refine t_get0 (ci := 3) X Y S k1 rfl i_By 1 (by decide) rfl lk_Va_77 (fun _ h9 => h9) d_Va_isSum_21 e102 ?_
    refine t_ui (t_runV (As := [.int (iI z101), .int (iI z102)]) (rest := []) (n := 2) X Y S k1 hml hl.1 (c_By_stop l D E T κ L f H.size a1 n1 k1 (by omega) z101 (by omega) (by omega) z102 (by omega) (by omega) S.1 z102 e102 (by omega) (by omega)) (ok_k X Y hA KS KR) rfl kl_Va_By_stop ks_By_stop kx_By_stop ki_By_stop ini_By ⟨rfl, rfl⟩ hd_By_stop ⟨Nat.le_of_ble_eq_true rfl, Nat.le_of_ble_eq_true rfl⟩ rfl (Nat.le_of_ble_eq_true rfl) d_Va_isSum_24 ⟨Nat.le_of_ble_eq_true rfl, Nat.le_of_ble_eq_true rfl⟩) X Y hA (fun z105 H locs Y p105 => ?_)
    obtain ⟨l105, u105, x105⟩ := p105
    refine lv_iload X.1 X.2.1 d_Va_isSum_27 (lv_at hl 0 rfl) ?_
    refine z_isub X.1 X.2.1 d_Va_isSum_29 ?_
    refine lv_bipush (v := iI 12) X.1 X.2.1 d_Va_isSum_30 (by decide) ?_
    refine z_icmp_ne (tgt := 49) X.1 X.2.1 d_Va_isSum_32 (by decide) ⟨by omega, by omega⟩ ⟨by omega, by omega⟩ (fun h106 => ?_) (fun h106 => ?_)
    · refine lv_iconst (v := iI 0) X.1 X.2.1 d_Va_isSum_49 (by decide) ?_
      exact c_retz hQQ X Y hr hlk (iI_bool (by omega) (by omega)).1 ⟨rfl, rfl, 0, rfl, ⟨by omega, by omega⟩⟩ d_Va_isSum_50
    · refine lv_aload_n X.1 X.2.1 d_Va_isSum_35 rfl (lv_at hl 2 rfl) ?_
      refine lv_aload_n X.1 X.2.1 d_Va_isSum_36 rfl (lv_at hl 3 rfl) ?_
      refine lv_iload X.1 X.2.1 d_Va_isSum_37 (lv_at hl 0 rfl) ?_
      refine t_ui (t_runV (As := [.ref a1, .int (iI z103)]) (rest := []) (n := 2) X Y S k0 hml hl.1 (c_Va_isMac l D E T κ L f H.size h k0 a1 n1 k1 (by omega) z103 (by omega) (by omega) S.1) (ok_k X Y hA KS KR) rfl kl_Va_Va_isMac ks_Va_isMac kx_Va_isMac ki_Va_isMac ini_Va ⟨rfl, rfl⟩ hd_Va_isMac ⟨Nat.le_of_ble_eq_true rfl, Nat.le_of_ble_eq_true rfl⟩ rfl (Nat.le_of_ble_eq_true rfl) d_Va_isSum_39 ⟨Nat.le_of_ble_eq_true rfl, Nat.le_of_ble_eq_true rfl⟩) X Y hA (fun z107 H locs Y p107 => ?_)
      obtain ⟨l107, u107⟩ := p107
      refine z_if_eq (tgt := 49) X.1 X.2.1 d_Va_isSum_42 (by decide) ⟨by omega, by omega⟩ (fun h108 => ?_) (fun h108 => ?_)
      · refine lv_iconst (v := iI 0) X.1 X.2.1 d_Va_isSum_49 (by decide) ?_
        exact c_retz hQQ X Y hr hlk (iI_bool (by omega) (by omega)).1 ⟨rfl, rfl, 0, rfl, ⟨by omega, by omega⟩⟩ d_Va_isSum_50
      · refine lv_iconst (v := iI 1) X.1 X.2.1 d_Va_isSum_45 (by decide) ?_
        refine lv_goto (tgt := 50) X.1 X.2.1 d_Va_isSum_46 (by decide) ?_
        exact c_retz hQQ X Y hr hlk (iI_bool (by omega) (by omega)).1 ⟨rfl, rfl, 1, rfl, ⟨by omega, by omega⟩⟩ d_Va_isSum_50
set_option maxHeartbeats 4000000 in
set_option maxRecDepth 100000 in
theorem c_Va_keyAt (l : Launch) (D : va_G) (E : cE) (T : cT) (κ : tK) (L : List Nat) (f : pF) (sz : Nat) (a1 n1 : Nat) (k1 : κ a1 = (13, n1)) (x1 : n1 ≤ 12288) (a2 : Int) (l_a2 : (-1) ≤ a2) (u_a2 : a2 ≤ 20200) (hw : tW E T κ L f) : Met l y_Va_keyAt (k_Va_keyAt :: lw_tg) (kRm 3 112 1 32) (va_Pc [.ref a1, .int (iI a2)] (kPre D E T L f sz)) (va_Qr (fun _ : cU => True) (fun u r t => aPr E T [1] [] κ L f (fun (z : Nat) (k : tK) (g : pF) => (∃ n : Nat, tKey T k z n)) r u ∧ cPost D E (pA L sz) u t) (pA L sz)) 1 32 (pA L sz) := by
  refine k_enter (own := R_Va) (by decide) rfl (Nat.le_of_ble_eq_true rfl) (fun p e s m below meth c ls AV QQ H locs hQQ X Y hA hin hr hlk hml hl KS KR => ?_)
  have hl : lv_has ls 8 [(0, .ref a1), (1, .int (iI a2))] := hl
  have S : tS E T (tFr κ L [1] []) κ L f κ L f := tS_rf hw
  have hF0 : ∀ b, tFr κ L [1] [] b → b ∈ L := fun b h9 => h9.1
  refine lv_aload_n X.1 X.2.1 d_Va_keyAt_0 rfl (lv_at hl 0 rfl) ?_
  refine lv_iload_n X.1 X.2.1 d_Va_keyAt_1 rfl (lv_at hl 1 rfl) ?_
  refine lv_iconst (v := iI 1) X.1 X.2.1 d_Va_keyAt_2 (by decide) ?_
  refine t_ui (t_runV (As := [.int (iI a2), .int (iI 1)]) (rest := []) (n := 2) X Y S k1 hml hl.1 (c_By_field l D E T κ L f H.size a1 n1 k1 (by omega) a2 (by omega) (by omega) 1 (by omega) (by omega) S.1) (ok_k X Y hA KS KR) rfl kl_Va_By_field ks_By_field kx_By_field ki_By_field ini_By ⟨rfl, rfl⟩ hd_By_field ⟨Nat.le_of_ble_eq_true rfl, Nat.le_of_ble_eq_true rfl⟩ rfl (Nat.le_of_ble_eq_true rfl) d_Va_keyAt_3 ⟨Nat.le_of_ble_eq_true rfl, Nat.le_of_ble_eq_true rfl⟩) X Y hA (fun z101 H locs Y p101 => ?_)
  obtain ⟨l101, u101⟩ := p101
  refine lv_istore_n (lv' := [(2, .int (iI z101)), (0, .ref a1), (1, .int (iI a2))]) X.1 X.2.1 d_Va_keyAt_6 rfl hl (by decide) rfl (fun ls hl => ?_)
  refine lv_aload_n X.1 X.2.1 d_Va_keyAt_7 rfl (lv_at hl 1 rfl) ?_
  refine lv_aload_n X.1 X.2.1 d_Va_keyAt_8 rfl (lv_at hl 1 rfl) ?_
  refine lv_iload_n X.1 X.2.1 d_Va_keyAt_9 rfl (lv_at hl 2 rfl) ?_
  refine lv_iconst (v := iI 0) X.1 X.2.1 d_Va_keyAt_10 (by decide) ?_
  refine t_ui (t_runV (As := [.int (iI a2), .int (iI 0)]) (rest := [.ref a1]) (n := 2) X Y S k1 hml hl.1 (c_By_field l D E T κ L f H.size a1 n1 k1 (by omega) a2 (by omega) (by omega) 0 (by omega) (by omega) S.1) (ok_k X Y hA KS KR) rfl kl_Va_By_field ks_By_field kx_By_field ki_By_field ini_By ⟨rfl, rfl⟩ hd_By_field ⟨Nat.le_of_ble_eq_true rfl, Nat.le_of_ble_eq_true rfl⟩ rfl (Nat.le_of_ble_eq_true rfl) d_Va_keyAt_11 ⟨Nat.le_of_ble_eq_true rfl, Nat.le_of_ble_eq_true rfl⟩) X Y hA (fun z102 H locs Y p102 => ?_)
  obtain ⟨l102, u102⟩ := p102
  refine t_ul (t_runV (As := [.int (iI z102)]) (rest := []) (n := 1) X Y S k1 hml hl.1 (c_By_numberAt l D E T κ L f H.size a1 n1 k1 (by omega) z102 (by omega) (by omega) S.1) (ok_k X Y hA KS KR) rfl kl_Va_By_numberAt ks_By_numberAt kx_By_numberAt ki_By_numberAt ini_By ⟨rfl, rfl⟩ hd_By_numberAt ⟨Nat.le_of_ble_eq_true rfl, Nat.le_of_ble_eq_true rfl⟩ rfl (Nat.le_of_ble_eq_true rfl) d_Va_keyAt_14 ⟨Nat.le_of_ble_eq_true rfl, Nat.le_of_ble_eq_true rfl⟩) X Y hA (fun v103 H locs Y p103 => ?_)
  refine lv_lstore_n (lv' := [(3, .long v103), (2, .int (iI z101)), (0, .ref a1), (1, .int (iI a2))]) X.1 X.2.1 d_Va_keyAt_17 rfl hl (by decide) rfl (fun ls hl => ?_)
  refine lv_lload_n X.1 X.2.1 d_Va_keyAt_18 rfl (lv_at hl 0 rfl) ?_
  refine lv_ldc2 (v := (18)) X.1 X.2.1 X.2.2.2.1 (X.2.2.1 _ cl_Va_69) d_Va_keyAt_19 ?_
  refine W.lcmp X.1 X.2.1 d_Va_keyAt_22 ?_
  refine t_u (fun z104 l104 u104 => ?_)
  refine z_if_ne (tgt := 31) X.1 X.2.1 d_Va_keyAt_23 (by decide) ⟨by omega, by omega⟩ (fun h105 => ?_) (fun h105 => ?_)
  · refine lv_bipush (v := iI 16) X.1 X.2.1 d_Va_keyAt_31 (by decide) ?_
    refine lv_istore (lv' := [(5, .int (iI 16)), (3, .long v103), (2, .int (iI z101)), (0, .ref a1), (1, .int (iI a2))]) X.1 X.2.1 d_Va_keyAt_33 hl (by decide) rfl (fun ls hl => ?_)
    refine lv_aload_n X.1 X.2.1 d_Va_keyAt_35 rfl (lv_at hl 3 rfl) ?_
    refine lv_iload_n X.1 X.2.1 d_Va_keyAt_36 rfl (lv_at hl 2 rfl) ?_
    obtain ⟨z106, e106, l106, u106⟩ := t_size S k1
    refine t_ui (t_runV (As := [.int (iI z101)]) (rest := []) (n := 1) X Y S k1 hml hl.1 (c_By_body l D E T κ L f H.size a1 n1 k1 (by omega) z101 (by omega) (by omega) S.1 z106 e106 (by omega) (by omega)) (ok_k X Y hA KS KR) rfl kl_Va_By_body ks_By_body kx_By_body ki_By_body ini_By ⟨rfl, rfl⟩ hd_By_body ⟨Nat.le_of_ble_eq_true rfl, Nat.le_of_ble_eq_true rfl⟩ rfl (Nat.le_of_ble_eq_true rfl) d_Va_keyAt_37 ⟨Nat.le_of_ble_eq_true rfl, Nat.le_of_ble_eq_true rfl⟩) X Y hA (fun z107 H locs Y p107 => ?_)
    obtain ⟨l107, u107, x107⟩ := p107
    refine lv_istore (lv' := [(6, .int (iI z107)), (5, .int (iI 16)), (3, .long v103), (2, .int (iI z101)), (0, .ref a1), (1, .int (iI a2))]) X.1 X.2.1 d_Va_keyAt_40 hl (by decide) rfl (fun ls hl => ?_)
    refine lv_iload_n X.1 X.2.1 d_Va_keyAt_42 rfl (lv_at hl 3 rfl) ?_
    refine z_if_lt (tgt := 79) X.1 X.2.1 d_Va_keyAt_43 (by decide) ⟨by omega, by omega⟩ (fun h108 => ?_) (fun h108 => ?_)
    · refine k_getsN X Y KS KR (by decide) d_Va_keyAt_79 ?_
      refine W.widen (k := 1) (n := 32) (Nat.le_of_ble_eq_true rfl) (Nat.le_of_ble_eq_true rfl) ?_
      exact k_retr hQQ X Y hr (Or.inr ⟨_, rfl⟩) hlk ⟨κ, S, ⟨0, tKey_no⟩⟩ d_Va_keyAt_82
    · refine lv_lload_n X.1 X.2.1 d_Va_keyAt_46 rfl (lv_at hl 2 rfl) ?_
      refine lv_ldc2 (v := (17)) X.1 X.2.1 X.2.2.2.1 (X.2.2.1 _ cl_Va_75) d_Va_keyAt_47 ?_
      refine W.lcmp X.1 X.2.1 d_Va_keyAt_50 ?_
      refine t_u (fun z109 l109 u109 => ?_)
      have J110 : ∀  (H : Heap) (locs : List Loc) (ls : Array Slot), pH D cCl (pA L sz) s.heap L f H locs → tS E T (tFr κ L [1] []) κ L f κ L f → lv_has ls 8 [(0, .ref a1), (2, .int (iI z101)), (5, .int (iI 16)), (6, .int (iI z107))] → W p l e (kRm 3 112 1 32) s m AV below meth c H locs 0 0 QQ (F0 m 62 ls []) := by
        intro  H locs ls  Y S hl
        refine lv_aload_n X.1 X.2.1 d_Va_keyAt_62 rfl (lv_at hl 0 rfl) ?_
        refine lv_iload_n X.1 X.2.1 d_Va_keyAt_63 rfl (lv_at hl 1 rfl) ?_
        refine lv_aload_n X.1 X.2.1 d_Va_keyAt_64 rfl (lv_at hl 0 rfl) ?_
        refine t_get0 (ci := 3) X Y S k1 rfl i_By 1 (by decide) rfl lk_Va_77 (fun _ h9 => h9) d_Va_keyAt_65 e106 ?_
        refine t_ui (t_runV (As := [.int (iI z101), .int (iI z106)]) (rest := []) (n := 2) X Y S k1 hml hl.1 (c_By_stop l D E T κ L f H.size a1 n1 k1 (by omega) z101 (by omega) (by omega) z106 (by omega) (by omega) S.1 z106 e106 (by omega) (by omega)) (ok_k X Y hA KS KR) rfl kl_Va_By_stop ks_By_stop kx_By_stop ki_By_stop ini_By ⟨rfl, rfl⟩ hd_By_stop ⟨Nat.le_of_ble_eq_true rfl, Nat.le_of_ble_eq_true rfl⟩ rfl (Nat.le_of_ble_eq_true rfl) d_Va_keyAt_68 ⟨Nat.le_of_ble_eq_true rfl, Nat.le_of_ble_eq_true rfl⟩) X Y hA (fun z114 H locs Y p114 => ?_)
        obtain ⟨l114, u114, x114⟩ := p114
        refine lv_iload X.1 X.2.1 d_Va_keyAt_71 (lv_at hl 3 rfl) ?_
        refine z_isub X.1 X.2.1 d_Va_keyAt_73 ?_
        refine lv_iload X.1 X.2.1 d_Va_keyAt_74 (lv_at hl 2 rfl) ?_
        refine z_icmp_eq (tgt := 83) X.1 X.2.1 d_Va_keyAt_76 (by decide) ⟨by omega, by omega⟩ ⟨by omega, by omega⟩ (fun h115 => ?_) (fun h115 => ?_)
        · refine lv_iload X.1 X.2.1 d_Va_keyAt_83 (lv_at hl 2 rfl) ?_
          refine t_newB X Y S hA hF0 (N := 16) (mx := 16) (by omega) (by omega) (by decide) (Nat.le_of_ble_eq_true rfl) (Nat.le_of_ble_eq_true rfl) d_Va_keyAt_85 (fun q116 κ116 L116 f116 H Y S s116 k116 => ?_)
          have k117 : κ116 a1 = (13, n1) := tLe_k s116.2.2.1 k1
          refine lv_astore (lv' := [(7, .ref q116), (0, .ref a1), (2, .int (iI z101)), (5, .int (iI 16)), (6, .int (iI z107))]) X.1 X.2.1 d_Va_keyAt_87 hl (by decide) rfl (fun ls hl => ?_)
          refine lv_aload_n X.1 X.2.1 d_Va_keyAt_89 rfl (lv_at hl 1 rfl) ?_
          refine t_getrow (ci := 3) X Y S k117 rfl i_By 0 (by decide) rfl lk_Va_86 (fun _ h9 => h9) d_Va_keyAt_90 (fun b118 e118 k118 => ?_)
          refine lv_iload X.1 X.2.1 d_Va_keyAt_93 (lv_at hl 4 rfl) ?_
          refine lv_aload X.1 X.2.1 d_Va_keyAt_95 (lv_at hl 0 rfl) ?_
          refine lv_iconst (v := iI 0) X.1 X.2.1 d_Va_keyAt_97 (by decide) ?_
          refine lv_iload X.1 X.2.1 d_Va_keyAt_98 (lv_at hl 3 rfl) ?_
          refine t_copyB X Y S KS (hml.trans hl.1.symm) kl_Va_copy (Or.inl k118) k116 (by omega) (by omega) (by omega) (by omega) (by omega) (by omega) (by omega) (nF_of S k116 (by decide)) (Nat.le_of_ble_eq_true rfl) (Nat.le_of_ble_eq_true rfl) d_Va_keyAt_100 (fun f119 H locs Y S w119 => ?_)
          refine lv_aload X.1 X.2.1 d_Va_keyAt_103 (lv_at hl 0 rfl) ?_
          refine W.widen (k := 1) (n := 32) (Nat.le_of_ble_eq_true rfl) (Nat.le_of_ble_eq_true rfl) ?_
          exact k_retr hQQ X Y hr (Or.inr ⟨_, rfl⟩) hlk ⟨κ116, S, ⟨16, (Or.inl ⟨k116, by omega⟩)⟩⟩ d_Va_keyAt_105
        · refine k_getsN X Y KS KR (by decide) d_Va_keyAt_79 ?_
          refine W.widen (k := 1) (n := 32) (Nat.le_of_ble_eq_true rfl) (Nat.le_of_ble_eq_true rfl) ?_
          exact k_retr hQQ X Y hr (Or.inr ⟨_, rfl⟩) hlk ⟨κ, S, ⟨0, tKey_no⟩⟩ d_Va_keyAt_82
      refine z_if_eq (tgt := 62) X.1 X.2.1 d_Va_keyAt_51 (by decide) ⟨by omega, by omega⟩ (fun h120 => ?_) (fun h120 => ?_)
      · exact J110  _ _ _  Y S (lv_sub hl [4, 3, 1, 0] rfl)
      · refine lv_lload_n X.1 X.2.1 d_Va_keyAt_54 rfl (lv_at hl 2 rfl) ?_
        refine lv_ldc2 (v := (18)) X.1 X.2.1 X.2.2.2.1 (X.2.2.1 _ cl_Va_69) d_Va_keyAt_55 ?_
        refine W.lcmp X.1 X.2.1 d_Va_keyAt_58 ?_
        refine t_u (fun z121 l121 u121 => ?_)
        refine z_if_ne (tgt := 79) X.1 X.2.1 d_Va_keyAt_59 (by decide) ⟨by omega, by omega⟩ (fun h122 => ?_) (fun h122 => ?_)
        · refine k_getsN X Y KS KR (by decide) d_Va_keyAt_79 ?_
          refine W.widen (k := 1) (n := 32) (Nat.le_of_ble_eq_true rfl) (Nat.le_of_ble_eq_true rfl) ?_
          exact k_retr hQQ X Y hr (Or.inr ⟨_, rfl⟩) hlk ⟨κ, S, ⟨0, tKey_no⟩⟩ d_Va_keyAt_82
        · exact J110  _ _ _  Y S (lv_sub hl [4, 3, 1, 0] rfl)
  · refine lv_bipush (v := iI 32) X.1 X.2.1 d_Va_keyAt_26 (by decide) ?_
    refine lv_goto (tgt := 33) X.1 X.2.1 d_Va_keyAt_28 (by decide) ?_
    refine lv_istore (lv' := [(5, .int (iI 32)), (3, .long v103), (2, .int (iI z101)), (0, .ref a1), (1, .int (iI a2))]) X.1 X.2.1 d_Va_keyAt_33 hl (by decide) rfl (fun ls hl => ?_)
    refine lv_aload_n X.1 X.2.1 d_Va_keyAt_35 rfl (lv_at hl 3 rfl) ?_
    refine lv_iload_n X.1 X.2.1 d_Va_keyAt_36 rfl (lv_at hl 2 rfl) ?_
    obtain ⟨z123, e123, l123, u123⟩ := t_size S k1
    refine t_ui (t_runV (As := [.int (iI z101)]) (rest := []) (n := 1) X Y S k1 hml hl.1 (c_By_body l D E T κ L f H.size a1 n1 k1 (by omega) z101 (by omega) (by omega) S.1 z123 e123 (by omega) (by omega)) (ok_k X Y hA KS KR) rfl kl_Va_By_body ks_By_body kx_By_body ki_By_body ini_By ⟨rfl, rfl⟩ hd_By_body ⟨Nat.le_of_ble_eq_true rfl, Nat.le_of_ble_eq_true rfl⟩ rfl (Nat.le_of_ble_eq_true rfl) d_Va_keyAt_37 ⟨Nat.le_of_ble_eq_true rfl, Nat.le_of_ble_eq_true rfl⟩) X Y hA (fun z124 H locs Y p124 => ?_)
    obtain ⟨l124, u124, x124⟩ := p124
    refine lv_istore (lv' := [(6, .int (iI z124)), (5, .int (iI 32)), (3, .long v103), (2, .int (iI z101)), (0, .ref a1), (1, .int (iI a2))]) X.1 X.2.1 d_Va_keyAt_40 hl (by decide) rfl (fun ls hl => ?_)
    refine lv_iload_n X.1 X.2.1 d_Va_keyAt_42 rfl (lv_at hl 3 rfl) ?_
    refine z_if_lt (tgt := 79) X.1 X.2.1 d_Va_keyAt_43 (by decide) ⟨by omega, by omega⟩ (fun h125 => ?_) (fun h125 => ?_)
    · refine k_getsN X Y KS KR (by decide) d_Va_keyAt_79 ?_
      refine W.widen (k := 1) (n := 32) (Nat.le_of_ble_eq_true rfl) (Nat.le_of_ble_eq_true rfl) ?_
      exact k_retr hQQ X Y hr (Or.inr ⟨_, rfl⟩) hlk ⟨κ, S, ⟨0, tKey_no⟩⟩ d_Va_keyAt_82
    · refine lv_lload_n X.1 X.2.1 d_Va_keyAt_46 rfl (lv_at hl 2 rfl) ?_
      refine lv_ldc2 (v := (17)) X.1 X.2.1 X.2.2.2.1 (X.2.2.1 _ cl_Va_75) d_Va_keyAt_47 ?_
      refine W.lcmp X.1 X.2.1 d_Va_keyAt_50 ?_
      refine t_u (fun z126 l126 u126 => ?_)
      have J127 : ∀  (H : Heap) (locs : List Loc) (ls : Array Slot), pH D cCl (pA L sz) s.heap L f H locs → tS E T (tFr κ L [1] []) κ L f κ L f → lv_has ls 8 [(0, .ref a1), (2, .int (iI z101)), (5, .int (iI 32)), (6, .int (iI z124))] → W p l e (kRm 3 112 1 32) s m AV below meth c H locs 0 0 QQ (F0 m 62 ls []) := by
        intro  H locs ls  Y S hl
        refine lv_aload_n X.1 X.2.1 d_Va_keyAt_62 rfl (lv_at hl 0 rfl) ?_
        refine lv_iload_n X.1 X.2.1 d_Va_keyAt_63 rfl (lv_at hl 1 rfl) ?_
        refine lv_aload_n X.1 X.2.1 d_Va_keyAt_64 rfl (lv_at hl 0 rfl) ?_
        refine t_get0 (ci := 3) X Y S k1 rfl i_By 1 (by decide) rfl lk_Va_77 (fun _ h9 => h9) d_Va_keyAt_65 e123 ?_
        refine t_ui (t_runV (As := [.int (iI z101), .int (iI z123)]) (rest := []) (n := 2) X Y S k1 hml hl.1 (c_By_stop l D E T κ L f H.size a1 n1 k1 (by omega) z101 (by omega) (by omega) z123 (by omega) (by omega) S.1 z123 e123 (by omega) (by omega)) (ok_k X Y hA KS KR) rfl kl_Va_By_stop ks_By_stop kx_By_stop ki_By_stop ini_By ⟨rfl, rfl⟩ hd_By_stop ⟨Nat.le_of_ble_eq_true rfl, Nat.le_of_ble_eq_true rfl⟩ rfl (Nat.le_of_ble_eq_true rfl) d_Va_keyAt_68 ⟨Nat.le_of_ble_eq_true rfl, Nat.le_of_ble_eq_true rfl⟩) X Y hA (fun z131 H locs Y p131 => ?_)
        obtain ⟨l131, u131, x131⟩ := p131
        refine lv_iload X.1 X.2.1 d_Va_keyAt_71 (lv_at hl 3 rfl) ?_
        refine z_isub X.1 X.2.1 d_Va_keyAt_73 ?_
        refine lv_iload X.1 X.2.1 d_Va_keyAt_74 (lv_at hl 2 rfl) ?_
        refine z_icmp_eq (tgt := 83) X.1 X.2.1 d_Va_keyAt_76 (by decide) ⟨by omega, by omega⟩ ⟨by omega, by omega⟩ (fun h132 => ?_) (fun h132 => ?_)
        · refine lv_iload X.1 X.2.1 d_Va_keyAt_83 (lv_at hl 2 rfl) ?_
          refine t_newB X Y S hA hF0 (N := 32) (mx := 32) (by omega) (by omega) (by decide) (Nat.le_of_ble_eq_true rfl) (Nat.le_of_ble_eq_true rfl) d_Va_keyAt_85 (fun q133 κ133 L133 f133 H Y S s133 k133 => ?_)
          have k134 : κ133 a1 = (13, n1) := tLe_k s133.2.2.1 k1
          refine lv_astore (lv' := [(7, .ref q133), (0, .ref a1), (2, .int (iI z101)), (5, .int (iI 32)), (6, .int (iI z124))]) X.1 X.2.1 d_Va_keyAt_87 hl (by decide) rfl (fun ls hl => ?_)
          refine lv_aload_n X.1 X.2.1 d_Va_keyAt_89 rfl (lv_at hl 1 rfl) ?_
          refine t_getrow (ci := 3) X Y S k134 rfl i_By 0 (by decide) rfl lk_Va_86 (fun _ h9 => h9) d_Va_keyAt_90 (fun b135 e135 k135 => ?_)
          refine lv_iload X.1 X.2.1 d_Va_keyAt_93 (lv_at hl 4 rfl) ?_
          refine lv_aload X.1 X.2.1 d_Va_keyAt_95 (lv_at hl 0 rfl) ?_
          refine lv_iconst (v := iI 0) X.1 X.2.1 d_Va_keyAt_97 (by decide) ?_
          refine lv_iload X.1 X.2.1 d_Va_keyAt_98 (lv_at hl 3 rfl) ?_
          refine t_copyB X Y S KS (hml.trans hl.1.symm) kl_Va_copy (Or.inl k135) k133 (by omega) (by omega) (by omega) (by omega) (by omega) (by omega) (by omega) (nF_of S k133 (by decide)) (Nat.le_of_ble_eq_true rfl) (Nat.le_of_ble_eq_true rfl) d_Va_keyAt_100 (fun f136 H locs Y S w136 => ?_)
          refine lv_aload X.1 X.2.1 d_Va_keyAt_103 (lv_at hl 0 rfl) ?_
          exact k_retr hQQ X Y hr (Or.inr ⟨_, rfl⟩) hlk ⟨κ133, S, ⟨32, (Or.inl ⟨k133, by omega⟩)⟩⟩ d_Va_keyAt_105
        · refine k_getsN X Y KS KR (by decide) d_Va_keyAt_79 ?_
          refine W.widen (k := 1) (n := 32) (Nat.le_of_ble_eq_true rfl) (Nat.le_of_ble_eq_true rfl) ?_
          exact k_retr hQQ X Y hr (Or.inr ⟨_, rfl⟩) hlk ⟨κ, S, ⟨0, tKey_no⟩⟩ d_Va_keyAt_82
      refine z_if_eq (tgt := 62) X.1 X.2.1 d_Va_keyAt_51 (by decide) ⟨by omega, by omega⟩ (fun h137 => ?_) (fun h137 => ?_)
      · exact J127  _ _ _  Y S (lv_sub hl [4, 3, 1, 0] rfl)
      · refine lv_lload_n X.1 X.2.1 d_Va_keyAt_54 rfl (lv_at hl 2 rfl) ?_
        refine lv_ldc2 (v := (18)) X.1 X.2.1 X.2.2.2.1 (X.2.2.1 _ cl_Va_69) d_Va_keyAt_55 ?_
        refine W.lcmp X.1 X.2.1 d_Va_keyAt_58 ?_
        refine t_u (fun z138 l138 u138 => ?_)
        refine z_if_ne (tgt := 79) X.1 X.2.1 d_Va_keyAt_59 (by decide) ⟨by omega, by omega⟩ (fun h139 => ?_) (fun h139 => ?_)
        · refine k_getsN X Y KS KR (by decide) d_Va_keyAt_79 ?_
          refine W.widen (k := 1) (n := 32) (Nat.le_of_ble_eq_true rfl) (Nat.le_of_ble_eq_true rfl) ?_
          exact k_retr hQQ X Y hr (Or.inr ⟨_, rfl⟩) hlk ⟨κ, S, ⟨0, tKey_no⟩⟩ d_Va_keyAt_82
        · exact J127  _ _ _  Y S (lv_sub hl [4, 3, 1, 0] rfl)
