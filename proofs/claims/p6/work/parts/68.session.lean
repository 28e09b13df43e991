set_option maxHeartbeats 4000000 in
set_option maxRecDepth 100000 in
theorem c_So_putApRep (l : Launch) (D : va_G) (E : cE) (T : cT) (κ : tK) (L : List Nat) (f : pF) (sz : Nat) (h : Nat) (k0 : κ h = (19, 0)) (a1 n1 : Nat) (k1 : κ a1 = (13, n1)) (x1 : n1 ≤ 12288) (hw : tW E T κ L f) : Met l y_So_putApRep (k_So_putApRep :: lw_tg) (kRm 6 187 0 0) (va_Pc [.ref h, .ref a1] (kPre D E T L f sz)) (va_Qv (nPv E T [1, 2, 3, 4, 11, 13, 16, 21] κ L f (fun (g : pF) => True)) (cPost D E (pA L sz)) (pA L sz)) 0 0 (pA L sz) := by
  refine k_enter (own := R_So) (by decide) rfl (Nat.le_of_ble_eq_true rfl) (fun p e s m below meth c ls AV QQ H locs hQQ X Y hA hin hr hlk hml hl KS KR => ?_)
  have hl : lv_has ls 8 [(0, .ref h), (1, .ref a1)] := hl
  have S : tS E T (tFr κ L [1, 2, 3, 4, 11, 13, 16, 21] []) κ L f κ L f := tS_rf hw
  refine lv_aload_n X.1 X.2.1 d_So_putApRep_0 rfl (lv_at hl 0 rfl) ?_
  refine t_getr (ci := 9) X Y S k0 rfl i_So 0 (by decide) rfl (k1 := 21) (k2 := 0) rfl rfl lk_So_35 (fun _ h9 => h9) d_So_putApRep_1 (fun b1 e1 k1 => ?_)
  refine t_getr (ci := 11) X Y S k1 rfl i_Va 1 (by decide) rfl (k1 := 13) (k2 := 6144) rfl rfl lk_So_91 (fun _ h9 => h9) d_So_putApRep_4 (fun b2 e2 k2 => ?_)
  refine lv_astore_n (lv' := [(2, .ref b2), (0, .ref h), (1, .ref a1)]) X.1 X.2.1 d_So_putApRep_7 rfl hl (by decide) rfl (fun ls hl => ?_)
  refine lv_aload_n X.1 X.2.1 d_So_putApRep_8 rfl (lv_at hl 0 rfl) ?_
  refine t_nv (t_runV (As := []) (rest := []) (n := 0) X Y S k2 hml hl.1 (c_By_clear l D E T κ L f H.size b2 6144 k2 (by omega) S.1) (ok_k X Y hA KS KR) rfl kl_So_By_clear ks_By_clear kx_By_clear ki_By_clear ini_By ⟨rfl, rfl⟩ hd_By_clear ⟨Nat.le_of_ble_eq_true rfl, Nat.le_of_ble_eq_true rfl⟩ rfl (Nat.le_of_ble_eq_true rfl) d_So_putApRep_9 ⟨Nat.le_of_ble_eq_true rfl, Nat.le_of_ble_eq_true rfl⟩) X Y hA S (by decide) (fun f3 H locs Y S s3 p3 => ?_)
  refine lv_aload_n X.1 X.2.1 d_So_putApRep_12 rfl (lv_at hl 0 rfl) ?_
  refine lv_bipush (v := iI 123) X.1 X.2.1 d_So_putApRep_13 (by decide) ?_
  refine t_ni (t_runV (As := [.int (iI 123)]) (rest := []) (n := 1) X Y S k2 hml hl.1 (c_By_open l D E T κ L f3 H.size b2 6144 k2 (by omega) 123 (by omega) (by omega) S.1) (ok_k X Y hA KS KR) rfl kl_So_By_open ks_By_open kx_By_open ki_By_open ini_By ⟨rfl, rfl⟩ hd_By_open ⟨Nat.le_of_ble_eq_true rfl, Nat.le_of_ble_eq_true rfl⟩ rfl (Nat.le_of_ble_eq_true rfl) d_So_putApRep_15 ⟨Nat.le_of_ble_eq_true rfl, Nat.le_of_ble_eq_true rfl⟩) X Y hA S (by decide) (fun z4 f4 H locs Y S s4 p4 => ?_)
  obtain ⟨l4, u4⟩ := p4
  refine lv_istore_n (lv' := [(3, .int (iI z4)), (2, .ref b2), (0, .ref h), (1, .ref a1)]) X.1 X.2.1 d_So_putApRep_18 rfl hl (by decide) rfl (fun ls hl => ?_)
  refine lv_aload_n X.1 X.2.1 d_So_putApRep_19 rfl (lv_at hl 1 rfl) ?_
  refine lv_bipush (v := iI 48) X.1 X.2.1 d_So_putApRep_20 (by decide) ?_
  refine t_ni (t_runV (As := [.int (iI 48)]) (rest := []) (n := 1) X Y S k2 hml hl.1 (c_By_open l D E T κ L f4 H.size b2 6144 k2 (by omega) 48 (by omega) (by omega) S.1) (ok_k X Y hA KS KR) rfl kl_So_By_open ks_By_open kx_By_open ki_By_open ini_By ⟨rfl, rfl⟩ hd_By_open ⟨Nat.le_of_ble_eq_true rfl, Nat.le_of_ble_eq_true rfl⟩ rfl (Nat.le_of_ble_eq_true rfl) d_So_putApRep_22 ⟨Nat.le_of_ble_eq_true rfl, Nat.le_of_ble_eq_true rfl⟩) X Y hA S (by decide) (fun z5 f5 H locs Y S s5 p5 => ?_)
  obtain ⟨l5, u5⟩ := p5
  refine lv_istore (lv' := [(4, .int (iI z5)), (3, .int (iI z4)), (2, .ref b2), (0, .ref h), (1, .ref a1)]) X.1 X.2.1 d_So_putApRep_25 hl (by decide) rfl (fun ls hl => ?_)
  refine lv_aload_n X.1 X.2.1 d_So_putApRep_27 rfl (lv_at hl 2 rfl) ?_
  refine lv_iconst (v := iI 0) X.1 X.2.1 d_So_putApRep_28 (by decide) ?_
  refine lv_aload_n X.1 X.2.1 d_So_putApRep_29 rfl (lv_at hl 3 rfl) ?_
  refine t_geti (ci := 9) X Y S k0 rfl i_So 5 (by decide) rfl lk_So_66 (fun _ h9 => h9) d_So_putApRep_30 (fun z6 e6 l6 u6 => ?_)
  refine t_nv (t_runV (As := [.int (iI 0), .int (iI z6)]) (rest := []) (n := 2) X Y S k2 hml hl.1 (c_By_putTime l D E T κ L f5 H.size b2 6144 k2 (by omega) 0 (by omega) (by omega) z6 (by omega) (by omega) S.1) (ok_k X Y hA KS KR) rfl kl_So_By_putTime ks_By_putTime kx_By_putTime ki_By_putTime ini_By ⟨rfl, rfl⟩ hd_By_putTime ⟨Nat.le_of_ble_eq_true rfl, Nat.le_of_ble_eq_true rfl⟩ rfl (Nat.le_of_ble_eq_true rfl) d_So_putApRep_33 ⟨Nat.le_of_ble_eq_true rfl, Nat.le_of_ble_eq_true rfl⟩) X Y hA S (by decide) (fun f7 H locs Y S s7 p7 => ?_)
  refine lv_aload_n X.1 X.2.1 d_So_putApRep_36 rfl (lv_at hl 2 rfl) ?_
  refine lv_iconst (v := iI 1) X.1 X.2.1 d_So_putApRep_37 (by decide) ?_
  refine lv_aload_n X.1 X.2.1 d_So_putApRep_38 rfl (lv_at hl 3 rfl) ?_
  refine t_geti (ci := 9) X Y S k0 rfl i_So 6 (by decide) rfl lk_So_73 (fun _ h9 => h9) d_So_putApRep_39 (fun z8 e8 l8 u8 => ?_)
  refine lv_i2l X.1 X.2.1 d_So_putApRep_42 rfl ?_
  refine t_anyl (fun v9 => ?_)
  refine t_nv (t_runV (As := [.int (iI 1), .long v9]) (rest := []) (n := 2) X Y S k2 hml hl.1 (c_By_putNumber l D E T κ L f7 H.size b2 6144 k2 (by omega) 1 (by omega) (by omega) v9 S.1) (ok_k X Y hA KS KR) rfl kl_So_By_putNumber ks_By_putNumber kx_By_putNumber ki_By_putNumber ini_By ⟨rfl, rfl⟩ hd_By_putNumber ⟨Nat.le_of_ble_eq_true rfl, Nat.le_of_ble_eq_true rfl⟩ rfl (Nat.le_of_ble_eq_true rfl) d_So_putApRep_43 ⟨Nat.le_of_ble_eq_true rfl, Nat.le_of_ble_eq_true rfl⟩) X Y hA S (by decide) (fun f10 H locs Y S s10 p10 => ?_)
  refine lv_aload_n X.1 X.2.1 d_So_putApRep_46 rfl (lv_at hl 3 rfl) ?_
  refine t_getl (ci := 9) X Y S k0 rfl i_So 7 (by decide) rfl lk_So_78 (fun _ h9 => h9) d_So_putApRep_47 (fun v11 e11 => ?_)
  refine lv_lconst (v := 0) X.1 X.2.1 d_So_putApRep_50 rfl ?_
  refine W.lcmp X.1 X.2.1 d_So_putApRep_51 ?_
  refine t_u (fun z12 l12 u12 => ?_)
  have J14 : ∀ (f13 : pF) (H : Heap) (locs : List Loc) (ls : Array Slot), pH D cCl (pA L sz) s.heap L f13 H locs → tS E T (tFr κ L [1, 2, 3, 4, 11, 13, 16, 21] []) κ L f κ L f13 → lv_has ls 8 [(0, .ref h), (1, .ref a1), (2, .ref b2), (3, .int (iI z4)), (4, .int (iI z5))] → W p l e (kRm 6 187 0 0) s m AV below meth c H locs 0 0 QQ (F0 m 67 ls []) := by
    intro f13 H locs ls  Y S hl
    refine lv_aload_n X.1 X.2.1 d_So_putApRep_67 rfl (lv_at hl 2 rfl) ?_
    refine lv_iload X.1 X.2.1 d_So_putApRep_68 (lv_at hl 4 rfl) ?_
    refine t_nv (t_runV (As := [.int (iI z5)]) (rest := []) (n := 1) X Y S k2 hml hl.1 (c_By_close l D E T κ L f13 H.size b2 6144 k2 (by omega) z5 (by omega) (by omega) S.1) (ok_k X Y hA KS KR) rfl kl_So_By_close ks_By_close kx_By_close ki_By_close ini_By ⟨rfl, rfl⟩ hd_By_close ⟨Nat.le_of_ble_eq_true rfl, Nat.le_of_ble_eq_true rfl⟩ rfl (Nat.le_of_ble_eq_true rfl) d_So_putApRep_70 ⟨Nat.le_of_ble_eq_true rfl, Nat.le_of_ble_eq_true rfl⟩) X Y hA S (by decide) (fun f18 H locs Y S s18 p18 => ?_)
    refine lv_aload_n X.1 X.2.1 d_So_putApRep_73 rfl (lv_at hl 2 rfl) ?_
    refine lv_iload_n X.1 X.2.1 d_So_putApRep_74 rfl (lv_at hl 3 rfl) ?_
    refine t_nv (t_runV (As := [.int (iI z4)]) (rest := []) (n := 1) X Y S k2 hml hl.1 (c_By_close l D E T κ L f18 H.size b2 6144 k2 (by omega) z4 (by omega) (by omega) S.1) (ok_k X Y hA KS KR) rfl kl_So_By_close ks_By_close kx_By_close ki_By_close ini_By ⟨rfl, rfl⟩ hd_By_close ⟨Nat.le_of_ble_eq_true rfl, Nat.le_of_ble_eq_true rfl⟩ rfl (Nat.le_of_ble_eq_true rfl) d_So_putApRep_75 ⟨Nat.le_of_ble_eq_true rfl, Nat.le_of_ble_eq_true rfl⟩) X Y hA S (by decide) (fun f19 H locs Y S s19 p19 => ?_)
    refine lv_aload_n X.1 X.2.1 d_So_putApRep_78 rfl (lv_at hl 1 rfl) ?_
    refine lv_bipush (v := iI 111) X.1 X.2.1 d_So_putApRep_79 (by decide) ?_
    refine t_ni (t_runV (As := [.int (iI 111)]) (rest := []) (n := 1) X Y S k1 hml hl.1 (c_By_open l D E T κ L f19 H.size a1 n1 k1 (by omega) 111 (by omega) (by omega) S.1) (ok_k X Y hA KS KR) rfl kl_So_By_open ks_By_open kx_By_open ki_By_open ini_By ⟨rfl, rfl⟩ hd_By_open ⟨Nat.le_of_ble_eq_true rfl, Nat.le_of_ble_eq_true rfl⟩ rfl (Nat.le_of_ble_eq_true rfl) d_So_putApRep_81 ⟨Nat.le_of_ble_eq_true rfl, Nat.le_of_ble_eq_true rfl⟩) X Y hA S (by decide) (fun z20 f20 H locs Y S s20 p20 => ?_)
    obtain ⟨l20, u20⟩ := p20
    refine lv_istore (lv' := [(5, .int (iI z20)), (0, .ref h), (1, .ref a1), (2, .ref b2), (3, .int (iI z4)), (4, .int (iI z5))]) X.1 X.2.1 d_So_putApRep_84 hl (by decide) rfl (fun ls hl => ?_)
    refine lv_aload_n X.1 X.2.1 d_So_putApRep_86 rfl (lv_at hl 2 rfl) ?_
    refine lv_bipush (v := iI 48) X.1 X.2.1 d_So_putApRep_87 (by decide) ?_
    refine t_ni (t_runV (As := [.int (iI 48)]) (rest := []) (n := 1) X Y S k1 hml hl.1 (c_By_open l D E T κ L f20 H.size a1 n1 k1 (by omega) 48 (by omega) (by omega) S.1) (ok_k X Y hA KS KR) rfl kl_So_By_open ks_By_open kx_By_open ki_By_open ini_By ⟨rfl, rfl⟩ hd_By_open ⟨Nat.le_of_ble_eq_true rfl, Nat.le_of_ble_eq_true rfl⟩ rfl (Nat.le_of_ble_eq_true rfl) d_So_putApRep_89 ⟨Nat.le_of_ble_eq_true rfl, Nat.le_of_ble_eq_true rfl⟩) X Y hA S (by decide) (fun z21 f21 H locs Y S s21 p21 => ?_)
    obtain ⟨l21, u21⟩ := p21
    refine lv_istore (lv' := [(6, .int (iI z21)), (5, .int (iI z20)), (0, .ref h), (1, .ref a1), (2, .ref b2), (3, .int (iI z4)), (4, .int (iI z5))]) X.1 X.2.1 d_So_putApRep_92 hl (by decide) rfl (fun ls hl => ?_)
    refine lv_aload_n X.1 X.2.1 d_So_putApRep_94 rfl (lv_at hl 3 rfl) ?_
    refine lv_iconst (v := iI 0) X.1 X.2.1 d_So_putApRep_95 (by decide) ?_
    refine lv_ldc2 (v := (5)) X.1 X.2.1 X.2.2.2.1 (X.2.2.1 _ cl_So_112) d_So_putApRep_96 ?_
    refine t_nv (t_runV (As := [.int (iI 0), .long ((5))]) (rest := []) (n := 2) X Y S k1 hml hl.1 (c_By_putNumber l D E T κ L f21 H.size a1 n1 k1 (by omega) 0 (by omega) (by omega) ((5)) S.1) (ok_k X Y hA KS KR) rfl kl_So_By_putNumber ks_By_putNumber kx_By_putNumber ki_By_putNumber ini_By ⟨rfl, rfl⟩ hd_By_putNumber ⟨Nat.le_of_ble_eq_true rfl, Nat.le_of_ble_eq_true rfl⟩ rfl (Nat.le_of_ble_eq_true rfl) d_So_putApRep_99 ⟨Nat.le_of_ble_eq_true rfl, Nat.le_of_ble_eq_true rfl⟩) X Y hA S (by decide) (fun f22 H locs Y S s22 p22 => ?_)
    refine lv_aload_n X.1 X.2.1 d_So_putApRep_102 rfl (lv_at hl 3 rfl) ?_
    refine lv_iconst (v := iI 1) X.1 X.2.1 d_So_putApRep_103 (by decide) ?_
    refine lv_ldc2 (v := (15)) X.1 X.2.1 X.2.2.2.1 (X.2.2.1 _ cl_So_114) d_So_putApRep_104 ?_
    refine t_nv (t_runV (As := [.int (iI 1), .long ((15))]) (rest := []) (n := 2) X Y S k1 hml hl.1 (c_By_putNumber l D E T κ L f22 H.size a1 n1 k1 (by omega) 1 (by omega) (by omega) ((15)) S.1) (ok_k X Y hA KS KR) rfl kl_So_By_putNumber ks_By_putNumber kx_By_putNumber ki_By_putNumber ini_By ⟨rfl, rfl⟩ hd_By_putNumber ⟨Nat.le_of_ble_eq_true rfl, Nat.le_of_ble_eq_true rfl⟩ rfl (Nat.le_of_ble_eq_true rfl) d_So_putApRep_107 ⟨Nat.le_of_ble_eq_true rfl, Nat.le_of_ble_eq_true rfl⟩) X Y hA S (by decide) (fun f23 H locs Y S s23 p23 => ?_)
    refine lv_aload_n X.1 X.2.1 d_So_putApRep_110 rfl (lv_at hl 3 rfl) ?_
    refine lv_iconst (v := iI 2) X.1 X.2.1 d_So_putApRep_111 (by decide) ?_
    refine t_ni (t_runV (As := [.int (iI 2)]) (rest := []) (n := 1) X Y S k1 hml hl.1 (c_By_openField l D E T κ L f23 H.size a1 n1 k1 (by omega) 2 (by omega) (by omega) S.1) (ok_k X Y hA KS KR) rfl kl_So_By_openField ks_By_openField kx_By_openField ki_By_openField ini_By ⟨rfl, rfl⟩ hd_By_openField ⟨Nat.le_of_ble_eq_true rfl, Nat.le_of_ble_eq_true rfl⟩ rfl (Nat.le_of_ble_eq_true rfl) d_So_putApRep_112 ⟨Nat.le_of_ble_eq_true rfl, Nat.le_of_ble_eq_true rfl⟩) X Y hA S (by decide) (fun z24 f24 H locs Y S s24 p24 => ?_)
    obtain ⟨l24, u24⟩ := p24
    refine lv_istore (lv' := [(7, .int (iI z24)), (6, .int (iI z21)), (5, .int (iI z20)), (0, .ref h), (1, .ref a1), (2, .ref b2), (3, .int (iI z4)), (4, .int (iI z5))]) X.1 X.2.1 d_So_putApRep_115 hl (by decide) rfl (fun ls hl => ?_)
    refine lv_aload_n X.1 X.2.1 d_So_putApRep_117 rfl (lv_at hl 3 rfl) ?_
    refine t_getr (ci := 9) X Y S k0 rfl i_So 0 (by decide) rfl (k1 := 21) (k2 := 0) rfl rfl lk_So_35 (fun _ h9 => h9) d_So_putApRep_118 (fun b25 e25 k25 => ?_)
    refine lv_aload_n X.1 X.2.1 d_So_putApRep_121 rfl (lv_at hl 4 rfl) ?_
    refine lv_aload_n X.1 X.2.1 d_So_putApRep_122 rfl (lv_at hl 3 rfl) ?_
    refine t_getk (ci := 9) X Y S k0 rfl i_So 4 (by decide) rfl lk_So_22 (fun _ h9 => h9) d_So_putApRep_123 (fun b26 n26 e26 k26 x26 => ?_)
    refine lv_bipush (v := iI 12) X.1 X.2.1 d_So_putApRep_126 (by decide) ?_
    refine lv_iconst (v := iI 0) X.1 X.2.1 d_So_putApRep_128 (by decide) ?_
    refine t_nv (t_runV (As := [.ref a1, .ref b26, .int (iI 12), .int (iI 0)]) (rest := []) (n := 4) X Y S k25 hml hl.1 (c_Va_putSealed l D E T κ L f24 H.size b25 k25 a1 n1 k1 (by omega) b26 n26 k26 (by omega) 12 (by omega) (by omega) 0 (by omega) (by omega) S.1) (ok_k X Y hA KS KR) rfl kl_So_Va_putSealed ks_Va_putSealed kx_Va_putSealed ki_Va_putSealed ini_Va ⟨rfl, rfl⟩ hd_Va_putSealed ⟨Nat.le_of_ble_eq_true rfl, Nat.le_of_ble_eq_true rfl⟩ rfl (Nat.le_of_ble_eq_true rfl) d_So_putApRep_129 ⟨Nat.le_of_ble_eq_true rfl, Nat.le_of_ble_eq_true rfl⟩) X Y hA S (by decide) (fun f27 H locs Y S s27 p27 => ?_)
    refine lv_aload_n X.1 X.2.1 d_So_putApRep_132 rfl (lv_at hl 4 rfl) ?_
    refine lv_iload X.1 X.2.1 d_So_putApRep_133 (lv_at hl 0 rfl) ?_
    refine t_nv (t_runV (As := [.int (iI z24)]) (rest := []) (n := 1) X Y S k1 hml hl.1 (c_By_close l D E T κ L f27 H.size a1 n1 k1 (by omega) z24 (by omega) (by omega) S.1) (ok_k X Y hA KS KR) rfl kl_So_By_close ks_By_close kx_By_close ki_By_close ini_By ⟨rfl, rfl⟩ hd_By_close ⟨Nat.le_of_ble_eq_true rfl, Nat.le_of_ble_eq_true rfl⟩ rfl (Nat.le_of_ble_eq_true rfl) d_So_putApRep_135 ⟨Nat.le_of_ble_eq_true rfl, Nat.le_of_ble_eq_true rfl⟩) X Y hA S (by decide) (fun f28 H locs Y S s28 p28 => ?_)
    refine lv_aload_n X.1 X.2.1 d_So_putApRep_138 rfl (lv_at hl 4 rfl) ?_
    refine lv_iload X.1 X.2.1 d_So_putApRep_139 (lv_at hl 1 rfl) ?_
    refine t_nv (t_runV (As := [.int (iI z21)]) (rest := []) (n := 1) X Y S k1 hml hl.1 (c_By_close l D E T κ L f28 H.size a1 n1 k1 (by omega) z21 (by omega) (by omega) S.1) (ok_k X Y hA KS KR) rfl kl_So_By_close ks_By_close kx_By_close ki_By_close ini_By ⟨rfl, rfl⟩ hd_By_close ⟨Nat.le_of_ble_eq_true rfl, Nat.le_of_ble_eq_true rfl⟩ rfl (Nat.le_of_ble_eq_true rfl) d_So_putApRep_141 ⟨Nat.le_of_ble_eq_true rfl, Nat.le_of_ble_eq_true rfl⟩) X Y hA S (by decide) (fun f29 H locs Y S s29 p29 => ?_)
    refine lv_aload_n X.1 X.2.1 d_So_putApRep_144 rfl (lv_at hl 4 rfl) ?_
    refine lv_iload X.1 X.2.1 d_So_putApRep_145 (lv_at hl 2 rfl) ?_
    refine t_nv (t_runV (As := [.int (iI z20)]) (rest := []) (n := 1) X Y S k1 hml hl.1 (c_By_close l D E T κ L f29 H.size a1 n1 k1 (by omega) z20 (by omega) (by omega) S.1) (ok_k X Y hA KS KR) rfl kl_So_By_close ks_By_close kx_By_close ki_By_close ini_By ⟨rfl, rfl⟩ hd_By_close ⟨Nat.le_of_ble_eq_true rfl, Nat.le_of_ble_eq_true rfl⟩ rfl (Nat.le_of_ble_eq_true rfl) d_So_putApRep_147 ⟨Nat.le_of_ble_eq_true rfl, Nat.le_of_ble_eq_true rfl⟩) X Y hA S (by decide) (fun f30 H locs Y S s30 p30 => ?_)
    exact c_retv hQQ X Y hr hlk ⟨rfl, S, trivial⟩ d_So_putApRep_150
  refine z_if_lt (tgt := 67) X.1 X.2.1 d_So_putApRep_52 (by decide) ⟨by omega, by omega⟩ (fun h31 => ?_) (fun h31 => ?_)
  · exact J14 f10 _ _ _  Y S (lv_sub hl [3, 4, 2, 1, 0] rfl)
  · refine lv_aload_n X.1 X.2.1 d_So_putApRep_55 rfl (lv_at hl 2 rfl) ?_
    refine lv_iconst (v := iI 3) X.1 X.2.1 d_So_putApRep_56 (by decide) ?_
    refine lv_aload_n X.1 X.2.1 d_So_putApRep_57 rfl (lv_at hl 3 rfl) ?_
    refine t_getr (ci := 9) X Y S k0 rfl i_So 8 (by decide) rfl (k1 := 2) (k2 := 2) rfl rfl lk_So_25 (fun _ h9 => h9) d_So_putApRep_58 (fun b32 e32 k32 => ?_)
    refine lv_iconst (v := iI 1) X.1 X.2.1 d_So_putApRep_61 (by decide) ?_
    refine t_iald2 X Y S k32 (by omega) (by omega) (by omega) d_So_putApRep_62 (fun z33 l33 u33 => ?_)
    refine lv_i2l X.1 X.2.1 d_So_putApRep_63 rfl ?_
    refine t_anyl (fun v34 => ?_)
    refine t_nv (t_runV (As := [.int (iI 3), .long v34]) (rest := []) (n := 2) X Y S k2 hml hl.1 (c_By_putNumber l D E T κ L f10 H.size b2 6144 k2 (by omega) 3 (by omega) (by omega) v34 S.1) (ok_k X Y hA KS KR) rfl kl_So_By_putNumber ks_By_putNumber kx_By_putNumber ki_By_putNumber ini_By ⟨rfl, rfl⟩ hd_By_putNumber ⟨Nat.le_of_ble_eq_true rfl, Nat.le_of_ble_eq_true rfl⟩ rfl (Nat.le_of_ble_eq_true rfl) d_So_putApRep_64 ⟨Nat.le_of_ble_eq_true rfl, Nat.le_of_ble_eq_true rfl⟩) X Y hA S (by decide) (fun f35 H locs Y S s35 p35 => ?_)
    exact J14 f35 _ _ _  Y S (lv_sub hl [3, 4, 2, 1, 0] rfl)
set_option maxHeartbeats 4000000 in
set_option maxRecDepth 100000 in
theorem c_So_begin (l : Launch) (D : va_G) (E : cE) (T : cT) (κ : tK) (L : List Nat) (f : pF) (sz : Nat) (h : Nat) (k0 : κ h = (19, 0)) (a1 : Nat) (k1 : κ a1 = (15, 0)) (a2 : Int) (l_a2 : 0 ≤ a2) (u_a2 : a2 ≤ 1) (a3 n3 : Nat) (k3 : κ a3 = (13, n3)) (x3 : n3 ≤ 12288) (hw : tW E T κ L f) : Met l y_So_begin (k_So_begin :: lw_tg) (kRm 7 214 1 32) (va_Pc [.ref h, .ref a1, .int (iI a2), .ref a3] (kPre D E T L f sz)) (va_Qv (aPv E T [1, 2, 3, 4, 5, 6, 7, 8, 9, 10, 11, 12, 13, 14, 15, 16, 17, 18, 19, 20, 21] [] κ L f (fun (k : tK) (g : pF) => True)) (cPost D E (pA L sz)) (pA L sz)) 1 32 (pA L sz) := by
  refine k_enter (own := R_So) (by decide) rfl (Nat.le_of_ble_eq_true rfl) (fun p e s m below meth c ls AV QQ H locs hQQ X Y hA hin hr hlk hml hl KS KR => ?_)
  have hl : lv_has ls 7 [(0, .ref h), (1, .ref a1), (2, .int (iI a2)), (3, .ref a3)] := hl
  have S : tS E T (tFr κ L [1, 2, 3, 4, 5, 6, 7, 8, 9, 10, 11, 12, 13, 14, 15, 16, 17, 18, 19, 20, 21] []) κ L f κ L f := tS_rf hw
  have hF0 : ∀ b, tFr κ L [1, 2, 3, 4, 5, 6, 7, 8, 9, 10, 11, 12, 13, 14, 15, 16, 17, 18, 19, 20, 21] [] b → b ∈ L := fun b h9 => h9.1
  refine lv_aload_n X.1 X.2.1 d_So_begin_0 rfl (lv_at hl 1 rfl) ?_
  refine t_getr (ci := 5) X Y S k1 rfl i_Ga 2 (by decide) rfl (k1 := 13) (k2 := 4000) rfl rfl lk_So_39 (fun _ h9 => h9) d_So_begin_1 (fun b1 e1 k1 => ?_)
  refine lv_astore (lv' := [(4, .ref b1), (0, .ref h), (1, .ref a1), (2, .int (iI a2)), (3, .ref a3)]) X.1 X.2.1 d_So_begin_4 hl (by decide) rfl (fun ls hl => ?_)
  refine lv_aload X.1 X.2.1 d_So_begin_6 (lv_at hl 0 rfl) ?_
  refine lv_iconst (v := iI 0) X.1 X.2.1 d_So_begin_8 (by decide) ?_
  refine lv_bipush (v := iI 7) X.1 X.2.1 d_So_begin_9 (by decide) ?_
  refine t_ui (t_runV (As := [.int (iI 0), .int (iI 7)]) (rest := []) (n := 2) X Y S k1 hml hl.1 (c_By_field l D E T κ L f H.size b1 4000 k1 (by omega) 0 (by omega) (by omega) 7 (by omega) (by omega) S.1) (ok_k X Y hA KS KR) rfl kl_So_By_field ks_By_field kx_By_field ki_By_field ini_By ⟨rfl, rfl⟩ hd_By_field ⟨Nat.le_of_ble_eq_true rfl, Nat.le_of_ble_eq_true rfl⟩ rfl (Nat.le_of_ble_eq_true rfl) d_So_begin_11 ⟨Nat.le_of_ble_eq_true rfl, Nat.le_of_ble_eq_true rfl⟩) X Y hA (fun z2 H locs Y p2 => ?_)
  obtain ⟨l2, u2⟩ := p2
  refine lv_istore (lv' := [(5, .int (iI z2)), (4, .ref b1), (0, .ref h), (1, .ref a1), (2, .int (iI a2)), (3, .ref a3)]) X.1 X.2.1 d_So_begin_14 hl (by decide) rfl (fun ls hl => ?_)
  refine lv_aload X.1 X.2.1 d_So_begin_16 (lv_at hl 1 rfl) ?_
  refine lv_aload X.1 X.2.1 d_So_begin_18 (lv_at hl 1 rfl) ?_
  refine lv_iconst (v := iI 0) X.1 X.2.1 d_So_begin_20 (by decide) ?_
  refine lv_bipush (v := iI 6) X.1 X.2.1 d_So_begin_21 (by decide) ?_
  refine t_ui (t_runV (As := [.int (iI 0), .int (iI 6)]) (rest := [.ref b1]) (n := 2) X Y S k1 hml hl.1 (c_By_field l D E T κ L f H.size b1 4000 k1 (by omega) 0 (by omega) (by omega) 6 (by omega) (by omega) S.1) (ok_k X Y hA KS KR) rfl kl_So_By_field ks_By_field kx_By_field ki_By_field ini_By ⟨rfl, rfl⟩ hd_By_field ⟨Nat.le_of_ble_eq_true rfl, Nat.le_of_ble_eq_true rfl⟩ rfl (Nat.le_of_ble_eq_true rfl) d_So_begin_23 ⟨Nat.le_of_ble_eq_true rfl, Nat.le_of_ble_eq_true rfl⟩) X Y hA (fun z3 H locs Y p3 => ?_)
  obtain ⟨l3, u3⟩ := p3
  refine t_ar (x_runS (As := [.ref b1, .int (iI z3)]) (rest := []) (n := 2) X hml hl.1 (c_Va_keyAt l D E T κ L f H.size b1 4000 k1 (by omega) z3 (by omega) (by omega) S.1) (ok_k X Y hA KS KR) kl_So_Va_keyAt ks_Va_keyAt ki_Va_keyAt ini_Va ⟨rfl, rfl⟩ hd_Va_keyAt.2 ⟨Nat.le_of_ble_eq_true rfl, Nat.le_of_ble_eq_true rfl⟩ rfl (Nat.le_of_ble_eq_true rfl) d_So_begin_26 ⟨Nat.le_of_ble_eq_true rfl, Nat.le_of_ble_eq_true rfl⟩) X Y hA S (by decide) (fun b4 κ4 L4 f4 H locs Y S s4 p4 => ?_)
  obtain ⟨n4, k4⟩ := p4
  have x4 := tKey_n k4
  have k5 : κ4 h = (19, 0) := tLe_k s4.2.2.1 k0
  have k6 : κ4 a1 = (15, 0) := tLe_k s4.2.2.1 k1
  have k7 : κ4 a3 = (13, n3) := tLe_k s4.2.2.1 k3
  have k8 : κ4 b1 = (13, 4000) := tLe_k s4.2.2.1 k1
  refine lv_astore (lv' := [(6, .ref b4), (5, .int (iI z2)), (4, .ref b1), (0, .ref h), (1, .ref a1), (2, .int (iI a2)), (3, .ref a3)]) X.1 X.2.1 d_So_begin_29 hl (by decide) rfl (fun ls hl => ?_)
  refine lv_aload_n X.1 X.2.1 d_So_begin_31 rfl (lv_at hl 3 rfl) ?_
  refine lv_iconst (v := iI 1) X.1 X.2.1 d_So_begin_32 (by decide) ?_
  refine t_put (ci := 9) X Y S k5 rfl i_So t_So t_So_ok n_So 1 (by decide) rfl lk_So_57 (fun _ h9 => h9) rfl (t_So_ok 1 (by decide)) (iI_bool (by omega) (by omega)).1 (iI_bool (by omega) (by omega)).2 ⟨_, rfl, by omega, by omega⟩ (fun h9 => h9.2.1 (by rw [← (S.2.2.2 _ h9).2, k5]; decide)) d_So_begin_33 (fun f9 H locs Y S w9 => ?_)
  refine lv_aload_n X.1 X.2.1 d_So_begin_36 rfl (lv_at hl 3 rfl) ?_
  refine lv_iconst (v := iI (-1)) X.1 X.2.1 d_So_begin_37 (by decide) ?_
  refine t_put (ci := 9) X Y S k5 rfl i_So t_So t_So_ok n_So 2 (by decide) rfl lk_So_9 (fun _ h9 => h9) rfl (t_So_ok 2 (by decide)) rfl rfl ⟨_, rfl, by omega, by omega⟩ (fun h9 => h9.2.1 (by rw [← (S.2.2.2 _ h9).2, k5]; decide)) d_So_begin_38 (fun f10 H locs Y S w10 => ?_)
  refine lv_aload_n X.1 X.2.1 d_So_begin_41 rfl (lv_at hl 3 rfl) ?_
  refine lv_aload_n X.1 X.2.1 d_So_begin_42 rfl (lv_at hl 4 rfl) ?_
  refine t_getk (ci := 5) X Y S k6 rfl i_Ga 3 (by decide) rfl lk_So_61 (fun _ h9 => h9) d_So_begin_43 (fun b11 n11 e11 k11 x11 => ?_)
  refine t_put (ci := 9) X Y S k5 rfl i_So t_So t_So_ok n_So 4 (by decide) rfl lk_So_22 (fun _ h9 => h9) rfl (t_So_ok 4 (by decide)) rfl rfl ⟨_, n11, rfl, k11⟩ (fun h9 => h9.2.1 (by rw [← (S.2.2.2 _ h9).2, k5]; decide)) d_So_begin_46 (fun f12 H locs Y S w12 => ?_)
  refine lv_aload_n X.1 X.2.1 d_So_begin_49 rfl (lv_at hl 3 rfl) ?_
  refine lv_aload X.1 X.2.1 d_So_begin_50 (lv_at hl 0 rfl) ?_
  refine t_alen X Y S KS (tKey_src k4) (by omega) d_So_begin_52 ?_
  have J16 : ∀ (b13 n15 : Nat) (H : Heap) (locs : List Loc) (ls : Array Slot), (n15 = 0 ∨ n15 = 16 ∨ n15 = 32) → (tKey T κ4 b13 n15) → pH D cCl (pA L sz) s.heap L4 f12 H locs → tS E T (tFr κ L [1, 2, 3, 4, 5, 6, 7, 8, 9, 10, 11, 12, 13, 14, 15, 16, 17, 18, 19, 20, 21] []) κ L f κ4 L4 f12 → lv_has ls 7 [(0, .ref h), (2, .int (iI a2)), (3, .ref a3), (4, .ref b1), (5, .int (iI z2))] → W p l e (kRm 7 214 1 32) s m AV below meth c H locs 1 32 QQ (F0 m 65 ls [.ref b13, .ref h]) := by
    intro b13 n15 H locs ls xn15 k14 Y S hl
    refine t_put (ci := 9) X Y S k5 rfl i_So t_So t_So_ok n_So 3 (by decide) rfl lk_So_19 (fun _ h9 => h9) rfl (t_So_ok 3 (by decide)) rfl rfl ⟨_, n15, rfl, k14⟩ (fun h9 => h9.2.1 (by rw [← (S.2.2.2 _ h9).2, k5]; decide)) d_So_begin_65 (fun f20 H locs Y S w20 => ?_)
    refine lv_aload_n X.1 X.2.1 d_So_begin_68 rfl (lv_at hl 0 rfl) ?_
    refine lv_aload X.1 X.2.1 d_So_begin_69 (lv_at hl 3 rfl) ?_
    refine lv_aload X.1 X.2.1 d_So_begin_71 (lv_at hl 3 rfl) ?_
    refine lv_iconst (v := iI 0) X.1 X.2.1 d_So_begin_73 (by decide) ?_
    refine lv_iconst (v := iI 5) X.1 X.2.1 d_So_begin_74 (by decide) ?_
    refine t_ui (t_runV (As := [.int (iI 0), .int (iI 5)]) (rest := [.ref b1, .ref h]) (n := 2) X Y S k8 hml hl.1 (c_By_field l D E T κ4 L4 f20 H.size b1 4000 k8 (by omega) 0 (by omega) (by omega) 5 (by omega) (by omega) S.1) (ok_k X Y hA KS KR) rfl kl_So_By_field ks_By_field kx_By_field ki_By_field ini_By ⟨rfl, rfl⟩ hd_By_field ⟨Nat.le_of_ble_eq_true rfl, Nat.le_of_ble_eq_true rfl⟩ rfl (Nat.le_of_ble_eq_true rfl) d_So_begin_75 ⟨Nat.le_of_ble_eq_true rfl, Nat.le_of_ble_eq_true rfl⟩) X Y hA (fun z21 H locs Y p21 => ?_)
    obtain ⟨l21, u21⟩ := p21
    refine t_ui (t_runV (As := [.int (iI z21)]) (rest := [.ref h]) (n := 1) X Y S k8 hml hl.1 (c_By_timeAt l D E T κ4 L4 f20 H.size b1 4000 k8 (by omega) z21 (by omega) (by omega) S.1) (ok_k X Y hA KS KR) rfl kl_So_By_timeAt ks_By_timeAt kx_By_timeAt ki_By_timeAt ini_By ⟨rfl, rfl⟩ hd_By_timeAt ⟨Nat.le_of_ble_eq_true rfl, Nat.le_of_ble_eq_true rfl⟩ rfl (Nat.le_of_ble_eq_true rfl) d_So_begin_78 ⟨Nat.le_of_ble_eq_true rfl, Nat.le_of_ble_eq_true rfl⟩) X Y hA (fun z22 H locs Y p22 => ?_)
    obtain ⟨l22, u22⟩ := p22
    refine t_put (ci := 9) X Y S k5 rfl i_So t_So t_So_ok n_So 5 (by decide) rfl lk_So_66 (fun _ h9 => h9) rfl (t_So_ok 5 (by decide)) rfl rfl ⟨_, rfl, by omega, by omega⟩ (fun h9 => h9.2.1 (by rw [← (S.2.2.2 _ h9).2, k5]; decide)) d_So_begin_81 (fun f23 H locs Y S w23 => ?_)
    refine lv_aload_n X.1 X.2.1 d_So_begin_84 rfl (lv_at hl 0 rfl) ?_
    refine lv_aload X.1 X.2.1 d_So_begin_85 (lv_at hl 3 rfl) ?_
    refine lv_aload X.1 X.2.1 d_So_begin_87 (lv_at hl 3 rfl) ?_
    refine lv_iconst (v := iI 0) X.1 X.2.1 d_So_begin_89 (by decide) ?_
    refine lv_iconst (v := iI 4) X.1 X.2.1 d_So_begin_90 (by decide) ?_
    refine t_ui (t_runV (As := [.int (iI 0), .int (iI 4)]) (rest := [.ref b1, .ref h]) (n := 2) X Y S k8 hml hl.1 (c_By_field l D E T κ4 L4 f23 H.size b1 4000 k8 (by omega) 0 (by omega) (by omega) 4 (by omega) (by omega) S.1) (ok_k X Y hA KS KR) rfl kl_So_By_field ks_By_field kx_By_field ki_By_field ini_By ⟨rfl, rfl⟩ hd_By_field ⟨Nat.le_of_ble_eq_true rfl, Nat.le_of_ble_eq_true rfl⟩ rfl (Nat.le_of_ble_eq_true rfl) d_So_begin_91 ⟨Nat.le_of_ble_eq_true rfl, Nat.le_of_ble_eq_true rfl⟩) X Y hA (fun z24 H locs Y p24 => ?_)
    obtain ⟨l24, u24⟩ := p24
    refine t_ul (t_runV (As := [.int (iI z24)]) (rest := [.ref h]) (n := 1) X Y S k8 hml hl.1 (c_By_numberAt l D E T κ4 L4 f23 H.size b1 4000 k8 (by omega) z24 (by omega) (by omega) S.1) (ok_k X Y hA KS KR) rfl kl_So_By_numberAt ks_By_numberAt kx_By_numberAt ki_By_numberAt ini_By ⟨rfl, rfl⟩ hd_By_numberAt ⟨Nat.le_of_ble_eq_true rfl, Nat.le_of_ble_eq_true rfl⟩ rfl (Nat.le_of_ble_eq_true rfl) d_So_begin_94 ⟨Nat.le_of_ble_eq_true rfl, Nat.le_of_ble_eq_true rfl⟩) X Y hA (fun v25 H locs Y p25 => ?_)
    refine lv_l2i X.1 X.2.1 d_So_begin_97 rfl ?_
    refine t_u (fun z26 l26 u26 => ?_)
    refine t_put (ci := 9) X Y S k5 rfl i_So t_So t_So_ok n_So 6 (by decide) rfl lk_So_73 (fun _ h9 => h9) rfl (t_So_ok 6 (by decide)) rfl rfl ⟨_, rfl, by omega, by omega⟩ (fun h9 => h9.2.1 (by rw [← (S.2.2.2 _ h9).2, k5]; decide)) d_So_begin_98 (fun f27 H locs Y S w27 => ?_)
    refine lv_aload_n X.1 X.2.1 d_So_begin_101 rfl (lv_at hl 0 rfl) ?_
    refine lv_iload X.1 X.2.1 d_So_begin_102 (lv_at hl 4 rfl) ?_
    have J29 : ∀ (v28 : Int64) (H : Heap) (locs : List Loc) (ls : Array Slot), pH D cCl (pA L sz) s.heap L4 f27 H locs → tS E T (tFr κ L [1, 2, 3, 4, 5, 6, 7, 8, 9, 10, 11, 12, 13, 14, 15, 16, 17, 18, 19, 20, 21] []) κ L f κ4 L4 f27 → lv_has ls 7 [(0, .ref h), (2, .int (iI a2)), (3, .ref a3), (5, .int (iI z2))] → W p l e (kRm 7 214 1 32) s m AV below meth c H locs 1 32 QQ (F0 m 120 ls [.long v28, .ref h]) := by
      intro v28 H locs ls  Y S hl
      refine t_put (ci := 9) X Y S k5 rfl i_So t_So t_So_ok n_So 7 (by decide) rfl lk_So_78 (fun _ h9 => h9) rfl (t_So_ok 7 (by decide)) rfl rfl ⟨_, rfl⟩ (fun h9 => h9.2.1 (by rw [← (S.2.2.2 _ h9).2, k5]; decide)) d_So_begin_120 (fun f33 H locs Y S w33 => ?_)
      refine lv_aload_n X.1 X.2.1 d_So_begin_123 rfl (lv_at hl 0 rfl) ?_
      refine t_getr (ci := 9) X Y S k5 rfl i_So 9 (by decide) rfl (k1 := 2) (k2 := 2) rfl rfl lk_So_29 (fun _ h9 => h9) d_So_begin_124 (fun b34 e34 k34 => ?_)
      refine lv_iconst (v := iI 1) X.1 X.2.1 d_So_begin_127 (by decide) ?_
      refine lv_iload X.1 X.2.1 d_So_begin_128 (lv_at hl 3 rfl) ?_
      have J36 : ∀ (z35 : Int) (H : Heap) (locs : List Loc) (ls : Array Slot), ((-2147483648) ≤ z35) → (z35 ≤ 2147483647) → pH D cCl (pA L sz) s.heap L4 f33 H locs → tS E T (tFr κ L [1, 2, 3, 4, 5, 6, 7, 8, 9, 10, 11, 12, 13, 14, 15, 16, 17, 18, 19, 20, 21] []) κ L f κ4 L4 f33 → lv_has ls 7 [(0, .ref h), (2, .int (iI a2)), (3, .ref a3), (5, .int (iI z2))] → W p l e (kRm 7 214 1 32) s m AV below meth c H locs 1 32 QQ (F0 m 142 ls [.int (iI z35), .int (iI 1), .ref b29]) := by
        intro z35 H locs ls l35 u35 Y S hl
        refine t_iast2 X Y S k29 (by omega) (by omega) (by omega) (fun h9 => h9.2.1 (by rw [← (S.2.2.2 _ h9).2, k29]; decide)) d_So_begin_142 (fun f40 H locs Y S w40 => ?_)
        refine lv_aload_n X.1 X.2.1 d_So_begin_143 rfl (lv_at hl 0 rfl) ?_
        refine t_getr (ci := 9) X Y S k5 rfl i_So 8 (by decide) rfl (k1 := 2) (k2 := 2) rfl rfl lk_So_25 (fun _ h9 => h9) d_So_begin_144 (fun b41 e41 k41 => ?_)
        refine lv_iconst (v := iI 1) X.1 X.2.1 d_So_begin_147 (by decide) ?_
        refine lv_iload_n X.1 X.2.1 d_So_begin_148 rfl (lv_at hl 1 rfl) ?_
        have J44 : ∀ (z43 : Int) (f42 : pF) (H : Heap) (locs : List Loc) (ls : Array Slot), (0 ≤ z43) → (z43 ≤ 1073741823) → pH D cCl (pA L sz) s.heap L4 f42 H locs → tS E T (tFr κ L [1, 2, 3, 4, 5, 6, 7, 8, 9, 10, 11, 12, 13, 14, 15, 16, 17, 18, 19, 20, 21] []) κ L f κ4 L4 f42 → lv_has ls 7 [(0, .ref h), (2, .int (iI a2)), (3, .ref a3)] → W p l e (kRm 7 214 1 32) s m AV below meth c H locs 1 32 QQ (F0 m 171 ls [.int (iI z43), .int (iI 1), .ref b34]) := by
          intro z43 f42 H locs ls l43 u43 Y S hl
          refine t_iast2 X Y S k34 (by omega) (by omega) (by omega) (fun h9 => h9.2.1 (by rw [← (S.2.2.2 _ h9).2, k34]; decide)) d_So_begin_171 (fun f48 H locs Y S w48 => ?_)
          refine lv_iload_n X.1 X.2.1 d_So_begin_172 rfl (lv_at hl 1 rfl) ?_
          refine z_if_eq (tgt := 181) X.1 X.2.1 d_So_begin_173 (by decide) ⟨by omega, by omega⟩ (fun h49 => ?_) (fun h49 => ?_)
          · exact c_retv hQQ X Y hr hlk ⟨κ4, S, trivial⟩ d_So_begin_181
          · refine lv_aload_n X.1 X.2.1 d_So_begin_176 rfl (lv_at hl 0 rfl) ?_
            refine lv_aload_n X.1 X.2.1 d_So_begin_177 rfl (lv_at hl 2 rfl) ?_
            refine t_nv (t_runV (As := [.ref a3]) (rest := []) (n := 1) X Y S k5 hml hl.1 (c_So_putApRep l D E T κ4 L4 f48 H.size h k5 a3 n3 k7 (by omega) S.1) (ok_k X Y hA KS KR) rfl kl_So_So_putApRep ks_So_putApRep kx_So_putApRep ki_So_putApRep ini_So ⟨rfl, rfl⟩ hd_So_putApRep ⟨Nat.le_of_ble_eq_true rfl, Nat.le_of_ble_eq_true rfl⟩ rfl (Nat.le_of_ble_eq_true rfl) d_So_begin_178 ⟨Nat.le_of_ble_eq_true rfl, Nat.le_of_ble_eq_true rfl⟩) X Y hA S (by decide) (fun f50 H locs Y S s50 p50 => ?_)
            exact c_retv hQQ X Y hr hlk ⟨κ4, S, trivial⟩ d_So_begin_181
        have J51 : ∀  (H : Heap) (locs : List Loc) (ls : Array Slot), pH D cCl (pA L sz) s.heap L4 f40 H locs → tS E T (tFr κ L [1, 2, 3, 4, 5, 6, 7, 8, 9, 10, 11, 12, 13, 14, 15, 16, 17, 18, 19, 20, 21] []) κ L f κ4 L4 f40 → lv_has ls 7 [(0, .ref h), (2, .int (iI a2)), (3, .ref a3)] → W p l e (kRm 7 214 1 32) s m AV below meth c H locs 1 32 QQ (F0 m 170 ls [.int (iI 1), .ref b34]) := by
          intro  H locs ls  Y S hl
          refine lv_iconst (v := iI 0) X.1 X.2.1 d_So_begin_170 (by decide) ?_
          exact J44 0 f40 _ _ _ (by omega) (by omega) Y S (lv_sub hl [0, 1, 2] rfl)
        refine z_if_eq (tgt := 170) X.1 X.2.1 d_So_begin_149 (by decide) ⟨by omega, by omega⟩ (fun h55 => ?_) (fun h55 => ?_)
        · exact J51  _ _ _  Y S (lv_sub hl [0, 1, 2] rfl)
        · refine lv_iload X.1 X.2.1 d_So_begin_152 (lv_at hl 3 rfl) ?_
          refine z_if_lt (tgt := 170) X.1 X.2.1 d_So_begin_154 (by decide) ⟨by omega, by omega⟩ (fun h56 => ?_) (fun h56 => ?_)
          · exact J51  _ _ _  Y S (lv_sub hl [0, 1, 2] rfl)
          · refine lv_aload_n X.1 X.2.1 d_So_begin_157 rfl (lv_at hl 0 rfl) ?_
            refine t_getr (ci := 9) X Y S k5 rfl i_So 0 (by decide) rfl (k1 := 21) (k2 := 0) rfl rfl lk_So_35 (fun _ h9 => h9) d_So_begin_158 (fun b57 e57 k57 => ?_)
            refine t_ni (t_runV (As := []) (rest := [.int (iI 1), .ref b41]) (n := 0) X Y S k57 hml hl.1 (c_Va_freshNumber l D E T κ4 L4 f40 H.size b57 k57 S.1) (ok_k X Y hA KS KR) rfl kl_So_Va_freshNumber ks_Va_freshNumber kx_Va_freshNumber ki_Va_freshNumber ini_Va ⟨rfl, rfl⟩ hd_Va_freshNumber ⟨Nat.le_of_ble_eq_true rfl, Nat.le_of_ble_eq_true rfl⟩ rfl (Nat.le_of_ble_eq_true rfl) d_So_begin_161 ⟨Nat.le_of_ble_eq_true rfl, Nat.le_of_ble_eq_true rfl⟩) X Y hA S (by decide) (fun z58 f58 H locs Y S s58 p58 => ?_)
            obtain ⟨l58, u58⟩ := p58
            refine lv_ldc (v := (1073741823)) X.1 X.2.1 X.2.2.2.1 (X.2.2.1 _ cn_So_86) d_So_begin_164 ?_
            refine t_eq (y := iI 1073741823) (by decide) ?_
            refine z_iand X.1 X.2.1 (by omega) (by omega) d_So_begin_166 (fun z59 l59 u59 => ?_)
            refine lv_goto (tgt := 171) X.1 X.2.1 d_So_begin_167 (by decide) ?_
            exact J44 z59 f58 _ _ _ (by omega) (by omega) Y S (lv_sub hl [0, 1, 2] rfl)
      refine z_if_lt (tgt := 141) X.1 X.2.1 d_So_begin_130 (by decide) ⟨by omega, by omega⟩ (fun h60 => ?_) (fun h60 => ?_)
      · refine lv_iconst (v := iI 0) X.1 X.2.1 d_So_begin_141 (by decide) ?_
        exact J36 0 _ _ _ (by omega) (by omega) Y S (lv_sub hl [0, 1, 2, 3] rfl)
      · refine lv_aload_n X.1 X.2.1 d_So_begin_133 rfl (lv_at hl 0 rfl) ?_
        refine t_get0 (ci := 9) X Y S k5 rfl i_So 7 (by decide) rfl lk_So_78 (fun _ h9 => h9) d_So_begin_134 w33.2.1 ?_
        refine lv_l2i X.1 X.2.1 d_So_begin_137 rfl ?_
        refine t_u (fun z61 l61 u61 => ?_)
        refine lv_goto (tgt := 142) X.1 X.2.1 d_So_begin_138 (by decide) ?_
        exact J36 z61 _ _ _ (by omega) (by omega) Y S (lv_sub hl [0, 1, 2, 3] rfl)
    refine z_if_lt (tgt := 117) X.1 X.2.1 d_So_begin_104 (by decide) ⟨by omega, by omega⟩ (fun h62 => ?_) (fun h62 => ?_)
    · refine lv_ldc2 (v := (-1)) X.1 X.2.1 X.2.2.2.1 (X.2.2.1 _ cl_So_76) d_So_begin_117 ?_
      exact J29 ((-1)) _ _ _  Y S (lv_sub hl [0, 1, 2, 4] rfl)
    · refine lv_aload X.1 X.2.1 d_So_begin_107 (lv_at hl 3 rfl) ?_
      refine lv_iload X.1 X.2.1 d_So_begin_109 (lv_at hl 4 rfl) ?_
      refine t_ul (t_runV (As := [.int (iI z2)]) (rest := [.ref h]) (n := 1) X Y S k8 hml hl.1 (c_By_numberAt l D E T κ4 L4 f27 H.size b1 4000 k8 (by omega) z2 (by omega) (by omega) S.1) (ok_k X Y hA KS KR) rfl kl_So_By_numberAt ks_By_numberAt kx_By_numberAt ki_By_numberAt ini_By ⟨rfl, rfl⟩ hd_By_numberAt ⟨Nat.le_of_ble_eq_true rfl, Nat.le_of_ble_eq_true rfl⟩ rfl (Nat.le_of_ble_eq_true rfl) d_So_begin_111 ⟨Nat.le_of_ble_eq_true rfl, Nat.le_of_ble_eq_true rfl⟩) X Y hA (fun v63 H locs Y p63 => ?_)
      refine lv_goto (tgt := 120) X.1 X.2.1 d_So_begin_114 (by decide) ?_
      exact J29 v63 _ _ _  Y S (lv_sub hl [0, 1, 2, 4] rfl)
  refine z_if_le (tgt := 61) X.1 X.2.1 d_So_begin_53 (by decide) ⟨by omega, by omega⟩ (fun h64 => ?_) (fun h64 => ?_)
  · refine lv_aload_n X.1 X.2.1 d_So_begin_61 rfl (lv_at hl 4 rfl) ?_
    refine t_get0 (ci := 5) X Y S k6 rfl i_Ga 3 (by decide) rfl lk_So_61 (fun _ h9 => h9) d_So_begin_62 ((gF_put w12 (Or.inr (by decide))).trans e11) ?_
    exact J16 b11 n11 _ _ _ (by omega) k11 Y S (lv_sub hl [3, 5, 6, 2, 1] rfl)
  · refine lv_aload X.1 X.2.1 d_So_begin_56 (lv_at hl 0 rfl) ?_
    refine lv_goto (tgt := 65) X.1 X.2.1 d_So_begin_58 (by decide) ?_
    exact J16 b4 n4 _ _ _ (by omega) k4 Y S (lv_sub hl [3, 5, 6, 2, 1] rfl)
set_option maxHeartbeats 4000000 in
set_option maxRecDepth 100000 in
theorem c_So_leave (l : Launch) (D : va_G) (E : cE) (T : cT) (κ : tK) (L : List Nat) (f : pF) (sz : Nat) (h : Nat) (k0 : κ h = (19, 0)) (a1 : Int) (l_a1 : (-2147483648) ≤ a1) (u_a1 : a1 ≤ 2147483647) (hw : tW E T κ L f) : Met l y_So_leave (k_So_leave :: lw_tg) (kRm 1 60 0 0) (va_Pc [.ref h, .int (iI a1)] (kPre D E T L f sz)) (va_Qv (nPv E T [19] κ L f (fun (g : pF) => True)) (cPost D E (pA L sz)) (pA L sz)) 0 0 (pA L sz) := by
  refine k_enter (own := R_So) (by decide) rfl (Nat.le_of_ble_eq_true rfl) (fun p e s m below meth c ls AV QQ H locs hQQ X Y hA hin hr hlk hml hl KS KR => ?_)
  have hl : lv_has ls 2 [(0, .ref h), (1, .int (iI a1))] := hl
  have S : tS E T (tFr κ L [19] []) κ L f κ L f := tS_rf hw
  refine lv_aload_n X.1 X.2.1 d_So_leave_0 rfl (lv_at hl 0 rfl) ?_
  refine t_geti (ci := 9) X Y S k0 rfl i_So 2 (by decide) rfl lk_So_9 (fun _ h9 => h9) d_So_leave_1 (fun z1 e1 l1 u1 => ?_)
  refine lv_iload_n X.1 X.2.1 d_So_leave_4 rfl (lv_at hl 1 rfl) ?_
  refine z_icmp_ne (tgt := 13) X.1 X.2.1 d_So_leave_5 (by decide) ⟨by omega, by omega⟩ ⟨by omega, by omega⟩ (fun h2 => ?_) (fun h2 => ?_)
  · exact c_retv hQQ X Y hr hlk ⟨rfl, S, trivial⟩ d_So_leave_13
  · refine lv_aload_n X.1 X.2.1 d_So_leave_8 rfl (lv_at hl 0 rfl) ?_
    refine lv_iconst (v := iI (-1)) X.1 X.2.1 d_So_leave_9 (by decide) ?_
    refine t_put (ci := 9) X Y S k0 rfl i_So t_So t_So_ok n_So 2 (by decide) rfl lk_So_9 (fun _ h9 => h9) rfl (t_So_ok 2 (by decide)) rfl rfl ⟨_, rfl, by omega, by omega⟩ (fun h9 => h9.2.1 (by rw [← (S.2.2.2 _ h9).2, k0]; decide)) d_So_leave_10 (fun f3 H locs Y S w3 => ?_)
    exact c_retv hQQ X Y hr hlk ⟨rfl, S, trivial⟩ d_So_leave_13
set_option maxHeartbeats 4000000 in
set_option maxRecDepth 100000 in
theorem c_So_isTicketKey (l : Launch) (D : va_G) (E : cE) (T : cT) (κ : tK) (L : List Nat) (f : pF) (sz : Nat) (h : Nat) (k0 : κ h = (19, 0)) (a1 n1 : Nat) (k1 : tKey T κ a1 n1) (x1 : n1 = 0 ∨ n1 = 16 ∨ n1 = 32) (hw : tW E T κ L f) : Met l y_So_isTicketKey (k_So_isTicketKey :: lw_tg) (kRm 1 60 0 0) (va_Pc [.ref h, .ref a1] (kPre D E T L f sz)) (va_Qi (uPi L f (fun (z : Int) => 0 ≤ z ∧ z ≤ 1)) (cPost D E (pA L sz)) (pA L sz)) 0 0 (pA L sz) := by
  refine k_enter (own := R_So) (by decide) rfl (Nat.le_of_ble_eq_true rfl) (fun p e s m below meth c ls AV QQ H locs hQQ X Y hA hin hr hlk hml hl KS KR => ?_)
  have hl : lv_has ls 3 [(0, .ref h), (1, .ref a1)] := hl
  have S : tS E T (tFr κ L [] []) κ L f κ L f := tS_rf hw
  refine lv_aload_n X.1 X.2.1 d_So_isTicketKey_0 rfl (lv_at hl 1 rfl) ?_
  refine t_alen X Y S KS (tKey_src k1) (by omega) d_So_isTicketKey_1 ?_
  refine lv_aload_n X.1 X.2.1 d_So_isTicketKey_2 rfl (lv_at hl 0 rfl) ?_
  refine t_getk (ci := 9) X Y S k0 rfl i_So 4 (by decide) rfl lk_So_22 (fun _ h9 => h9) d_So_isTicketKey_3 (fun b1 n1 e1 k1 x1 => ?_)
  refine t_alen X Y S KS (tKey_src k1) (by omega) d_So_isTicketKey_6 ?_
  refine z_icmp_eq (tgt := 12) X.1 X.2.1 d_So_isTicketKey_7 (by decide) ⟨by omega, by omega⟩ ⟨by omega, by omega⟩ (fun h2 => ?_) (fun h2 => False.elim (by omega))
  · refine lv_iconst (v := iI 0) X.1 X.2.1 d_So_isTicketKey_12 (by decide) ?_
    have J4 : ∀ (n6 : Nat) (z3 : Int) (H : Heap) (locs : List Loc) (ls : Array Slot), (32 - z3).toNat = n6 → (0 ≤ z3) → (z3 ≤ 32) → pH D cCl (pA L sz) s.heap L f H locs → tS E T (tFr κ L [] []) κ L f κ L f → lv_has ls 3 [(0, .ref h), (1, .ref a1), (2, .int (iI z3))] → W p l e (kRm 1 60 0 0) s m AV below meth c H locs 0 0 QQ (F0 m 14 ls []) := by
      intro n6
      induction n6 using Nat.strongRecOn with
      | ind n6 ih5 =>
        intro z3 H locs ls hm7 l3 u3 Y S hl
        refine lv_iload_n X.1 X.2.1 d_So_isTicketKey_14 rfl (lv_at hl 2 rfl) ?_
        refine lv_aload_n X.1 X.2.1 d_So_isTicketKey_15 rfl (lv_at hl 1 rfl) ?_
        refine t_alen X Y S KS (tKey_src k1) (by omega) d_So_isTicketKey_16 ?_
        refine z_icmp_ge (tgt := 40) X.1 X.2.1 d_So_isTicketKey_17 (by decide) ⟨by omega, by omega⟩ ⟨by omega, by omega⟩ (fun h8 => ?_) (fun h8 => ?_)
        · refine lv_iconst (v := iI 1) X.1 X.2.1 d_So_isTicketKey_40 (by decide) ?_
          exact c_retz hQQ X Y hr hlk (iI_bool (by omega) (by omega)).1 ⟨rfl, rfl, 1, rfl, ⟨by omega, by omega⟩⟩ d_So_isTicketKey_41
        · refine lv_aload_n X.1 X.2.1 d_So_isTicketKey_20 rfl (lv_at hl 1 rfl) ?_
          refine lv_iload_n X.1 X.2.1 d_So_isTicketKey_21 rfl (lv_at hl 2 rfl) ?_
          refine t_bald X Y S (tKey_src k1) (by omega) (by omega) (by omega) d_So_isTicketKey_22 (fun z9 l9 u9 => ?_)
          refine lv_aload_n X.1 X.2.1 d_So_isTicketKey_23 rfl (lv_at hl 0 rfl) ?_
          refine t_get0 (ci := 9) X Y S k0 rfl i_So 4 (by decide) rfl lk_So_22 (fun _ h9 => h9) d_So_isTicketKey_24 e1 ?_
          refine lv_iload_n X.1 X.2.1 d_So_isTicketKey_27 rfl (lv_at hl 2 rfl) ?_
          refine t_bald X Y S (tKey_src k1) (by omega) (by omega) (by omega) d_So_isTicketKey_28 (fun z10 l10 u10 => ?_)
          refine z_icmp_eq (tgt := 34) X.1 X.2.1 d_So_isTicketKey_29 (by decide) ⟨by omega, by omega⟩ ⟨by omega, by omega⟩ (fun h11 => ?_) (fun h11 => ?_)
          · refine lv_iinc (v := iI (z3 + 1)) (lv' := [(2, .int (iI (z3 + 1))), (0, .ref h), (1, .ref a1)]) X.1 X.2.1 d_So_isTicketKey_34 hl (k := 2) rfl ((iI_add _ _).trans (congrArg iI (by omega))) (by decide) rfl (fun ls hl => ?_)
            refine lv_goto (tgt := 14) X.1 X.2.1 d_So_isTicketKey_37 (by decide) ?_
            exact ih5 ((32 - (z3 + 1)).toNat) (by omega) (z3 + 1) _ _ _ rfl (by omega) (by omega) Y S (lv_sub hl [1, 2, 0] rfl)
          · refine lv_iconst (v := iI 0) X.1 X.2.1 d_So_isTicketKey_32 (by decide) ?_
            exact c_retz hQQ X Y hr hlk (iI_bool (by omega) (by omega)).1 ⟨rfl, rfl, 0, rfl, ⟨by omega, by omega⟩⟩ d_So_isTicketKey_33
    refine lv_istore_n (lv' := [(2, .int (iI 0)), (0, .ref h), (1, .ref a1)]) X.1 X.2.1 d_So_isTicketKey_13 rfl hl (by decide) rfl (fun ls hl => ?_)
    exact J4 _ 0 _ _ _ rfl (by omega) (by omega) Y S (lv_sub hl [1, 2, 0] rfl)
set_option maxHeartbeats 4000000 in
set_option maxRecDepth 100000 in
theorem c_So_join (l : Launch) (D : va_G) (E : cE) (T : cT) (κ : tK) (L : List Nat) (f : pF) (sz : Nat) (h : Nat) (k0 : κ h = (19, 0)) (a1 : Int) (l_a1 : 0 ≤ a1) (u_a1 : a1 ≤ 3) (a2 : Nat) (k2 : κ a2 = (12, 0)) (hw : tW E T κ L f) : Met l y_So_join (k_So_join :: lw_tg) (kRm 2 82 0 0) (va_Pc [.ref h, .int (iI a1), .ref a2] (kPre D E T L f sz)) (va_Qi (nPi E T [2, 3, 4, 19] κ L f (fun (z : Int) (g : pF) => 0 ≤ z ∧ z ≤ 1)) (cPost D E (pA L sz)) (pA L sz)) 0 0 (pA L sz) := by
  refine k_enter (own := R_So) (by decide) rfl (Nat.le_of_ble_eq_true rfl) (fun p e s m below meth c ls AV QQ H locs hQQ X Y hA hin hr hlk hml hl KS KR => ?_)
  have hl : lv_has ls 3 [(0, .ref h), (1, .int (iI a1)), (2, .ref a2)] := hl
  have S : tS E T (tFr κ L [2, 3, 4, 19] []) κ L f κ L f := tS_rf hw
  refine lv_aload_n X.1 X.2.1 d_So_join_0 rfl (lv_at hl 2 rfl) ?_
  refine t_getl (ci := 2) X Y S k2 rfl i_Ag 17 (by decide) rfl lk_So_123 (fun _ h9 => h9) d_So_join_1 (fun v1 e1 => ?_)
  refine lv_lconst (v := 0) X.1 X.2.1 d_So_join_4 rfl ?_
  refine W.lcmp X.1 X.2.1 d_So_join_5 ?_
  refine t_u (fun z2 l2 u2 => ?_)
  refine z_if_lt (tgt := 54) X.1 X.2.1 d_So_join_6 (by decide) ⟨by omega, by omega⟩ (fun h3 => ?_) (fun h3 => ?_)
  · refine lv_iconst (v := iI 0) X.1 X.2.1 d_So_join_54 (by decide) ?_
    exact c_retz hQQ X Y hr hlk (iI_bool (by omega) (by omega)).1 ⟨rfl, S, 0, rfl, ⟨by omega, by omega⟩⟩ d_So_join_55
  · refine lv_aload_n X.1 X.2.1 d_So_join_9 rfl (lv_at hl 2 rfl) ?_
    refine t_get0 (ci := 2) X Y S k2 rfl i_Ag 17 (by decide) rfl lk_So_123 (fun _ h9 => h9) d_So_join_10 e1 ?_
    refine lv_aload_n X.1 X.2.1 d_So_join_13 rfl (lv_at hl 0 rfl) ?_
    refine t_getl (ci := 9) X Y S k0 rfl i_So 7 (by decide) rfl lk_So_78 (fun _ h9 => h9) d_So_join_14 (fun v4 e4 => ?_)
    refine W.lcmp X.1 X.2.1 d_So_join_17 ?_
    refine t_u (fun z5 l5 u5 => ?_)
    refine z_if_ne (tgt := 54) X.1 X.2.1 d_So_join_18 (by decide) ⟨by omega, by omega⟩ (fun h6 => ?_) (fun h6 => ?_)
    · refine lv_iconst (v := iI 0) X.1 X.2.1 d_So_join_54 (by decide) ?_
      exact c_retz hQQ X Y hr hlk (iI_bool (by omega) (by omega)).1 ⟨rfl, S, 0, rfl, ⟨by omega, by omega⟩⟩ d_So_join_55
    · refine lv_aload_n X.1 X.2.1 d_So_join_21 rfl (lv_at hl 2 rfl) ?_
      refine t_geti (ci := 2) X Y S k2 rfl i_Ag 15 (by decide) rfl lk_So_126 (fun _ h9 => h9) d_So_join_22 (fun z7 e7 l7 u7 => ?_)
      refine lv_aload_n X.1 X.2.1 d_So_join_25 rfl (lv_at hl 0 rfl) ?_
      refine t_geti (ci := 9) X Y S k0 rfl i_So 5 (by decide) rfl lk_So_66 (fun _ h9 => h9) d_So_join_26 (fun z8 e8 l8 u8 => ?_)
      refine z_icmp_ne (tgt := 54) X.1 X.2.1 d_So_join_29 (by decide) ⟨by omega, by omega⟩ ⟨by omega, by omega⟩ (fun h9 => ?_) (fun h9 => ?_)
      · refine lv_iconst (v := iI 0) X.1 X.2.1 d_So_join_54 (by decide) ?_
        exact c_retz hQQ X Y hr hlk (iI_bool (by omega) (by omega)).1 ⟨rfl, S, 0, rfl, ⟨by omega, by omega⟩⟩ d_So_join_55
      · refine lv_aload_n X.1 X.2.1 d_So_join_32 rfl (lv_at hl 2 rfl) ?_
        refine t_geti (ci := 2) X Y S k2 rfl i_Ag 16 (by decide) rfl lk_So_127 (fun _ h9 => h9) d_So_join_33 (fun z10 e10 l10 u10 => ?_)
        refine lv_aload_n X.1 X.2.1 d_So_join_36 rfl (lv_at hl 0 rfl) ?_
        refine t_geti (ci := 9) X Y S k0 rfl i_So 6 (by decide) rfl lk_So_73 (fun _ h9 => h9) d_So_join_37 (fun z11 e11 l11 u11 => ?_)
        refine z_icmp_ne (tgt := 54) X.1 X.2.1 d_So_join_40 (by decide) ⟨by omega, by omega⟩ ⟨by omega, by omega⟩ (fun h12 => ?_) (fun h12 => ?_)
        · refine lv_iconst (v := iI 0) X.1 X.2.1 d_So_join_54 (by decide) ?_
          exact c_retz hQQ X Y hr hlk (iI_bool (by omega) (by omega)).1 ⟨rfl, S, 0, rfl, ⟨by omega, by omega⟩⟩ d_So_join_55
        · refine lv_aload_n X.1 X.2.1 d_So_join_43 rfl (lv_at hl 0 rfl) ?_
          refine lv_aload_n X.1 X.2.1 d_So_join_44 rfl (lv_at hl 2 rfl) ?_
          refine t_getk (ci := 2) X Y S k2 rfl i_Ag 18 (by decide) rfl lk_So_128 (fun _ h9 => h9) d_So_join_45 (fun b13 n13 e13 k13 x13 => ?_)
          refine t_ui (t_runV (As := [.ref b13]) (rest := []) (n := 1) X Y S k0 hml hl.1 (c_So_isTicketKey l D E T κ L f H.size h k0 b13 n13 k13 (by omega) S.1) (ok_k X Y hA KS KR) rfl kl_So_So_isTicketKey ks_So_isTicketKey kx_So_isTicketKey ki_So_isTicketKey ini_So ⟨rfl, rfl⟩ hd_So_isTicketKey ⟨Nat.le_of_ble_eq_true rfl, Nat.le_of_ble_eq_true rfl⟩ rfl (Nat.le_of_ble_eq_true rfl) d_So_join_48 ⟨Nat.le_of_ble_eq_true rfl, Nat.le_of_ble_eq_true rfl⟩) X Y hA (fun z14 H locs Y p14 => ?_)
          obtain ⟨l14, u14⟩ := p14
          refine z_if_ne (tgt := 56) X.1 X.2.1 d_So_join_51 (by decide) ⟨by omega, by omega⟩ (fun h15 => ?_) (fun h15 => ?_)
          · refine lv_aload_n X.1 X.2.1 d_So_join_56 rfl (lv_at hl 0 rfl) ?_
            refine lv_iload_n X.1 X.2.1 d_So_join_57 rfl (lv_at hl 1 rfl) ?_
            refine t_put (ci := 9) X Y S k0 rfl i_So t_So t_So_ok n_So 2 (by decide) rfl lk_So_9 (fun _ h9 => h9) rfl (t_So_ok 2 (by decide)) rfl rfl ⟨_, rfl, by omega, by omega⟩ (fun h9 => h9.2.1 (by rw [← (S.2.2.2 _ h9).2, k0]; decide)) d_So_join_58 (fun f16 H locs Y S w16 => ?_)
            refine lv_aload_n X.1 X.2.1 d_So_join_61 rfl (lv_at hl 0 rfl) ?_
            refine t_getr (ci := 9) X Y S k0 rfl i_So 8 (by decide) rfl (k1 := 2) (k2 := 2) rfl rfl lk_So_25 (fun _ h9 => h9) d_So_join_62 (fun b17 e17 k17 => ?_)
            refine lv_iconst (v := iI 0) X.1 X.2.1 d_So_join_65 (by decide) ?_
            refine lv_aload_n X.1 X.2.1 d_So_join_66 rfl (lv_at hl 2 rfl) ?_
            refine t_get0 (ci := 2) X Y S k2 rfl i_Ag 17 (by decide) rfl lk_So_123 (fun _ h9 => h9) d_So_join_67 ((gF_put w16 (Or.inr (by decide))).trans e1) ?_
            refine lv_l2i X.1 X.2.1 d_So_join_70 rfl ?_
            refine t_u (fun z18 l18 u18 => ?_)
            refine t_iast2 X Y S k17 (by omega) (by omega) (by omega) (fun h9 => h9.2.1 (by rw [← (S.2.2.2 _ h9).2, k17]; decide)) d_So_join_71 (fun f19 H locs Y S w19 => ?_)
            refine lv_aload_n X.1 X.2.1 d_So_join_72 rfl (lv_at hl 0 rfl) ?_
            refine t_getr (ci := 9) X Y S k0 rfl i_So 9 (by decide) rfl (k1 := 2) (k2 := 2) rfl rfl lk_So_29 (fun _ h9 => h9) d_So_join_73 (fun b20 e20 k20 => ?_)
            refine lv_iconst (v := iI 0) X.1 X.2.1 d_So_join_76 (by decide) ?_
            refine lv_aload_n X.1 X.2.1 d_So_join_77 rfl (lv_at hl 2 rfl) ?_
            refine t_getl (ci := 2) X Y S k2 rfl i_Ag 19 (by decide) rfl lk_So_135 (fun _ h9 => h9) d_So_join_78 (fun v21 e21 => ?_)
            refine lv_l2i X.1 X.2.1 d_So_join_81 rfl ?_
            refine t_u (fun z22 l22 u22 => ?_)
            refine t_iast2 X Y S k20 (by omega) (by omega) (by omega) (fun h9 => h9.2.1 (by rw [← (S.2.2.2 _ h9).2, k20]; decide)) d_So_join_82 (fun f23 H locs Y S w23 => ?_)
            refine lv_iconst (v := iI 1) X.1 X.2.1 d_So_join_83 (by decide) ?_
            exact c_retz hQQ X Y hr hlk (iI_bool (by omega) (by omega)).1 ⟨rfl, S, 1, rfl, ⟨by omega, by omega⟩⟩ d_So_join_84
          · refine lv_iconst (v := iI 0) X.1 X.2.1 d_So_join_54 (by decide) ?_
            exact c_retz hQQ X Y hr hlk (iI_bool (by omega) (by omega)).1 ⟨rfl, S, 0, rfl, ⟨by omega, by omega⟩⟩ d_So_join_55
set_option maxHeartbeats 4000000 in
set_option maxRecDepth 100000 in
theorem c_So_putData (l : Launch) (D : va_G) (E : cE) (T : cT) (κ : tK) (L : List Nat) (f : pF) (sz : Nat) (h : Nat) (k0 : κ h = (19, 0)) (a1 : Int) (l_a1 : 0 ≤ a1) (u_a1 : a1 ≤ 1) (a2 : Int) (l_a2 : (-2147483648) ≤ a2) (u_a2 : a2 ≤ 2147483647) (a3 n3 : Nat) (k3 : κ a3 = (13, n3)) (x3 : n3 ≤ 12288) (a4 n4 : Nat) (k4 : κ a4 = (13, n4)) (x4 : n4 ≤ 12288) (hw : tW E T κ L f) : Met l y_So_putData (k_So_putData :: lw_tg) (kRm 5 159 0 0) (va_Pc [.ref h, .int (iI a1), .int (iI a2), .ref a3, .ref a4] (kPre D E T L f sz)) (va_Qv (nPv E T [1, 2, 3, 4, 13] κ L f (fun (g : pF) => True)) (cPost D E (pA L sz)) (pA L sz)) 0 0 (pA L sz) := by
  refine k_enter (own := R_So) (by decide) rfl (Nat.le_of_ble_eq_true rfl) (fun p e s m below meth c ls AV QQ H locs hQQ X Y hA hin hr hlk hml hl KS KR => ?_)
  have hl : lv_has ls 6 [(0, .ref h), (1, .int (iI a1)), (2, .int (iI a2)), (3, .ref a3), (4, .ref a4)] := hl
  have S : tS E T (tFr κ L [1, 2, 3, 4, 13] []) κ L f κ L f := tS_rf hw
  refine lv_aload X.1 X.2.1 d_So_putData_0 (lv_at hl 4 rfl) ?_
  refine lv_bipush (v := iI 48) X.1 X.2.1 d_So_putData_2 (by decide) ?_
  refine t_ni (t_runV (As := [.int (iI 48)]) (rest := []) (n := 1) X Y S k4 hml hl.1 (c_By_open l D E T κ L f H.size a4 n4 k4 (by omega) 48 (by omega) (by omega) S.1) (ok_k X Y hA KS KR) rfl kl_So_By_open ks_By_open kx_By_open ki_By_open ini_By ⟨rfl, rfl⟩ hd_By_open ⟨Nat.le_of_ble_eq_true rfl, Nat.le_of_ble_eq_true rfl⟩ rfl (Nat.le_of_ble_eq_true rfl) d_So_putData_4 ⟨Nat.le_of_ble_eq_true rfl, Nat.le_of_ble_eq_true rfl⟩) X Y hA S (by decide) (fun z1 f1 H locs Y S s1 p1 => ?_)
  obtain ⟨l1, u1⟩ := p1
  refine lv_istore (lv' := [(5, .int (iI z1)), (0, .ref h), (1, .int (iI a1)), (2, .int (iI a2)), (3, .ref a3), (4, .ref a4)]) X.1 X.2.1 d_So_putData_7 hl (by decide) rfl (fun ls hl => ?_)
  refine lv_aload X.1 X.2.1 d_So_putData_9 (lv_at hl 5 rfl) ?_
  refine lv_iconst (v := iI 0) X.1 X.2.1 d_So_putData_11 (by decide) ?_
  refine lv_aload_n X.1 X.2.1 d_So_putData_12 rfl (lv_at hl 4 rfl) ?_
  refine t_getrow (ci := 3) X Y S k3 rfl i_By 0 (by decide) rfl lk_So_138 (fun _ h9 => h9) d_So_putData_13 (fun b2 e2 k2 => ?_)
  refine lv_iconst (v := iI 0) X.1 X.2.1 d_So_putData_16 (by decide) ?_
  refine lv_aload_n X.1 X.2.1 d_So_putData_17 rfl (lv_at hl 4 rfl) ?_
  refine t_gets (ci := 3) X Y S k3 rfl i_By 1 (by decide) rfl lk_So_141 (fun _ h9 => h9) d_So_putData_18 (fun z3 e3 l3 u3 => ?_)
  refine t_nv (t_runV (As := [.int (iI 0), .ref b2, .int (iI 0), .int (iI z3)]) (rest := []) (n := 4) X Y S k4 hml hl.1 (c_By_putOctets l D E T κ L f1 H.size a4 n4 k4 (by omega) 0 (by omega) (by omega) b2 n3 (Or.inl k2) (by omega) 0 (by omega) (by omega) z3 (by omega) (by omega) S.1) (ok_k X Y hA KS KR) rfl kl_So_By_putOctets ks_By_putOctets kx_By_putOctets ki_By_putOctets ini_By ⟨rfl, rfl⟩ hd_By_putOctets ⟨Nat.le_of_ble_eq_true rfl, Nat.le_of_ble_eq_true rfl⟩ rfl (Nat.le_of_ble_eq_true rfl) d_So_putData_21 ⟨Nat.le_of_ble_eq_true rfl, Nat.le_of_ble_eq_true rfl⟩) X Y hA S (by decide) (fun f4 H locs Y S s4 p4 => ?_)
  refine lv_aload X.1 X.2.1 d_So_putData_24 (lv_at hl 5 rfl) ?_
  refine lv_iconst (v := iI 1) X.1 X.2.1 d_So_putData_26 (by decide) ?_
  refine lv_iload_n X.1 X.2.1 d_So_putData_27 rfl (lv_at hl 3 rfl) ?_
  refine t_nv (t_runV (As := [.int (iI 1), .int (iI a2)]) (rest := []) (n := 2) X Y S k4 hml hl.1 (c_By_putTime l D E T κ L f4 H.size a4 n4 k4 (by omega) 1 (by omega) (by omega) a2 (by omega) (by omega) S.1) (ok_k X Y hA KS KR) rfl kl_So_By_putTime ks_By_putTime kx_By_putTime ki_By_putTime ini_By ⟨rfl, rfl⟩ hd_By_putTime ⟨Nat.le_of_ble_eq_true rfl, Nat.le_of_ble_eq_true rfl⟩ rfl (Nat.le_of_ble_eq_true rfl) d_So_putData_28 ⟨Nat.le_of_ble_eq_true rfl, Nat.le_of_ble_eq_true rfl⟩) X Y hA S (by decide) (fun f5 H locs Y S s5 p5 => ?_)
  refine lv_aload X.1 X.2.1 d_So_putData_31 (lv_at hl 5 rfl) ?_
  refine lv_iconst (v := iI 2) X.1 X.2.1 d_So_putData_33 (by decide) ?_
  refine lv_lconst (v := 0) X.1 X.2.1 d_So_putData_34 rfl ?_
  refine t_nv (t_runV (As := [.int (iI 2), .long 0]) (rest := []) (n := 2) X Y S k4 hml hl.1 (c_By_putNumber l D E T κ L f5 H.size a4 n4 k4 (by omega) 2 (by omega) (by omega) 0 S.1) (ok_k X Y hA KS KR) rfl kl_So_By_putNumber ks_By_putNumber kx_By_putNumber ki_By_putNumber ini_By ⟨rfl, rfl⟩ hd_By_putNumber ⟨Nat.le_of_ble_eq_true rfl, Nat.le_of_ble_eq_true rfl⟩ rfl (Nat.le_of_ble_eq_true rfl) d_So_putData_35 ⟨Nat.le_of_ble_eq_true rfl, Nat.le_of_ble_eq_true rfl⟩) X Y hA S (by decide) (fun f6 H locs Y S s6 p6 => ?_)
  refine lv_aload X.1 X.2.1 d_So_putData_38 (lv_at hl 5 rfl) ?_
  refine lv_iconst (v := iI 3) X.1 X.2.1 d_So_putData_40 (by decide) ?_
  refine lv_aload_n X.1 X.2.1 d_So_putData_41 rfl (lv_at hl 1 rfl) ?_
  refine t_getr (ci := 9) X Y S k0 rfl i_So 8 (by decide) rfl (k1 := 2) (k2 := 2) rfl rfl lk_So_25 (fun _ h9 => h9) d_So_putData_42 (fun b7 e7 k7 => ?_)
  refine lv_iload_n X.1 X.2.1 d_So_putData_45 rfl (lv_at hl 2 rfl) ?_
  refine t_iald2 X Y S k7 (by omega) (by omega) (by omega) d_So_putData_46 (fun z8 l8 u8 => ?_)
  refine lv_i2l X.1 X.2.1 d_So_putData_47 rfl ?_
  refine t_anyl (fun v9 => ?_)
  refine lv_ldc2 (v := (4294967295)) X.1 X.2.1 X.2.2.2.1 (X.2.2.1 _ cl_So_148) d_So_putData_48 ?_
  refine lv_land X.1 X.2.1 d_So_putData_51 ?_
  refine t_anyl (fun v10 => ?_)
  refine t_nv (t_runV (As := [.int (iI 3), .long v10]) (rest := []) (n := 2) X Y S k4 hml hl.1 (c_By_putNumber l D E T κ L f6 H.size a4 n4 k4 (by omega) 3 (by omega) (by omega) v10 S.1) (ok_k X Y hA KS KR) rfl kl_So_By_putNumber ks_By_putNumber kx_By_putNumber ki_By_putNumber ini_By ⟨rfl, rfl⟩ hd_By_putNumber ⟨Nat.le_of_ble_eq_true rfl, Nat.le_of_ble_eq_true rfl⟩ rfl (Nat.le_of_ble_eq_true rfl) d_So_putData_52 ⟨Nat.le_of_ble_eq_true rfl, Nat.le_of_ble_eq_true rfl⟩) X Y hA S (by decide) (fun f11 H locs Y S s11 p11 => ?_)
  refine lv_aload_n X.1 X.2.1 d_So_putData_55 rfl (lv_at hl 1 rfl) ?_
  refine t_getr (ci := 9) X Y S k0 rfl i_So 10 (by decide) rfl (k1 := 1) (k2 := 4) rfl rfl lk_So_32 (fun _ h9 => h9) d_So_putData_56 (fun b12 e12 k12 => ?_)
  refine lv_iconst (v := iI 3) X.1 X.2.1 d_So_putData_59 (by decide) ?_
  refine lv_iload_n X.1 X.2.1 d_So_putData_60 rfl (lv_at hl 2 rfl) ?_
  refine lv_i2b X.1 X.2.1 d_So_putData_61 rfl ?_
  refine t_u (fun z13 l13 u13 => ?_)
  refine t_bast X Y S k12 (by omega) (by omega) (by omega) (fun h9 => h9.2.1 (by rw [← (S.2.2.2 _ h9).2, k12]; decide)) d_So_putData_62 (fun f14 H locs Y S w14 => ?_)
  refine lv_aload X.1 X.2.1 d_So_putData_63 (lv_at hl 5 rfl) ?_
  refine lv_iconst (v := iI 4) X.1 X.2.1 d_So_putData_65 (by decide) ?_
  refine lv_iconst (v := iI 2) X.1 X.2.1 d_So_putData_66 (by decide) ?_
  refine lv_aload_n X.1 X.2.1 d_So_putData_67 rfl (lv_at hl 1 rfl) ?_
  refine t_get0 (ci := 9) X Y S k0 rfl i_So 10 (by decide) rfl lk_So_32 (fun _ h9 => h9) d_So_putData_68 ((gF_same (w14 _ (k_ne k0 k12 (by decide))) 10).trans e12) ?_
  refine lv_iconst (v := iI 4) X.1 X.2.1 d_So_putData_71 (by decide) ?_
  refine t_nv (t_runV (As := [.int (iI 4), .int (iI 2), .ref b12, .int (iI 4)]) (rest := []) (n := 4) X Y S k4 hml hl.1 (c_By_putPair l D E T κ L f14 H.size a4 n4 k4 (by omega) 4 (by omega) (by omega) 2 (by omega) (by omega) b12 4 (Or.inl k12) (by omega) 4 (by omega) (by omega) S.1) (ok_k X Y hA KS KR) rfl kl_So_By_putPair ks_By_putPair kx_By_putPair ki_By_putPair ini_By ⟨rfl, rfl⟩ hd_By_putPair ⟨Nat.le_of_ble_eq_true rfl, Nat.le_of_ble_eq_true rfl⟩ rfl (Nat.le_of_ble_eq_true rfl) d_So_putData_72 ⟨Nat.le_of_ble_eq_true rfl, Nat.le_of_ble_eq_true rfl⟩) X Y hA S (by decide) (fun f15 H locs Y S s15 p15 => ?_)
  refine lv_aload X.1 X.2.1 d_So_putData_75 (lv_at hl 5 rfl) ?_
  refine lv_iload X.1 X.2.1 d_So_putData_77 (lv_at hl 0 rfl) ?_
  refine t_nv (t_runV (As := [.int (iI z1)]) (rest := []) (n := 1) X Y S k4 hml hl.1 (c_By_close l D E T κ L f15 H.size a4 n4 k4 (by omega) z1 (by omega) (by omega) S.1) (ok_k X Y hA KS KR) rfl kl_So_By_close ks_By_close kx_By_close ki_By_close ini_By ⟨rfl, rfl⟩ hd_By_close ⟨Nat.le_of_ble_eq_true rfl, Nat.le_of_ble_eq_true rfl⟩ rfl (Nat.le_of_ble_eq_true rfl) d_So_putData_79 ⟨Nat.le_of_ble_eq_true rfl, Nat.le_of_ble_eq_true rfl⟩) X Y hA S (by decide) (fun f16 H locs Y S s16 p16 => ?_)
  refine lv_aload_n X.1 X.2.1 d_So_putData_82 rfl (lv_at hl 1 rfl) ?_
  refine t_get0 (ci := 9) X Y S k0 rfl i_So 8 (by decide) rfl lk_So_25 (fun _ h9 => h9) d_So_putData_83 ((gF_same (s16.2.2.2 _ ⟨(t_obj S.1 k0).1, by rw [k0]; decide, by simp⟩).1 8).trans ((gF_same (s15.2.2.2 _ ⟨(t_obj S.1 k0).1, by rw [k0]; decide, by simp⟩).1 8).trans ((gF_same (w14 _ (k_ne k0 k12 (by decide))) 8).trans ((gF_same (s11.2.2.2 _ ⟨(t_obj S.1 k0).1, by rw [k0]; decide, by simp⟩).1 8).trans e7)))) ?_
  refine lv_iload_n X.1 X.2.1 d_So_putData_86 rfl (lv_at hl 2 rfl) ?_
  refine lv_dup2_11 X.1 X.2.1 d_So_putData_87 rfl rfl ?_
  refine t_iald2 X Y S k7 (by omega) (by omega) (by omega) d_So_putData_88 (fun z17 l17 u17 => ?_)
  refine lv_iconst (v := iI 1) X.1 X.2.1 d_So_putData_89 (by decide) ?_
  refine lv_iadd X.1 X.2.1 d_So_putData_90 ?_
  refine t_u (fun z18 l18 u18 => ?_)
  refine t_iast2 X Y S k7 (by omega) (by omega) (by omega) (fun h9 => h9.2.1 (by rw [← (S.2.2.2 _ h9).2, k7]; decide)) d_So_putData_91 (fun f19 H locs Y S w19 => ?_)
  exact c_retv hQQ X Y hr hlk ⟨rfl, S, trivial⟩ d_So_putData_92
set_option maxHeartbeats 4000000 in
set_option maxRecDepth 100000 in
theorem c_So_putPrivate (l : Launch) (D : va_G) (E : cE) (T : cT) (κ : tK) (L : List Nat) (f : pF) (sz : Nat) (h : Nat) (k0 : κ h = (19, 0)) (a1 : Int) (l_a1 : 0 ≤ a1) (u_a1 : a1 ≤ 1) (a2 : Int) (l_a2 : (-2147483648) ≤ a2) (u_a2 : a2 ≤ 2147483647) (a3 n3 : Nat) (k3 : κ a3 = (13, n3)) (x3 : n3 ≤ 12288) (a4 n4 : Nat) (k4 : κ a4 = (13, n4)) (x4 : n4 ≤ 12288) (hw : tW E T κ L f) : Met l y_So_putPrivate (k_So_putPrivate :: lw_tg) (kRm 6 187 0 0) (va_Pc [.ref h, .int (iI a1), .int (iI a2), .ref a3, .ref a4] (kPre D E T L f sz)) (va_Qv (nPv E T [1, 2, 3, 4, 11, 13, 16, 21] κ L f (fun (g : pF) => True)) (cPost D E (pA L sz)) (pA L sz)) 0 0 (pA L sz) := by
  refine k_enter (own := R_So) (by decide) rfl (Nat.le_of_ble_eq_true rfl) (fun p e s m below meth c ls AV QQ H locs hQQ X Y hA hin hr hlk hml hl KS KR => ?_)
  have hl : lv_has ls 10 [(0, .ref h), (1, .int (iI a1)), (2, .int (iI a2)), (3, .ref a3), (4, .ref a4)] := hl
  have S : tS E T (tFr κ L [1, 2, 3, 4, 11, 13, 16, 21] []) κ L f κ L f := tS_rf hw
  refine lv_aload_n X.1 X.2.1 d_So_putPrivate_0 rfl (lv_at hl 0 rfl) ?_
  refine t_getr (ci := 9) X Y S k0 rfl i_So 0 (by decide) rfl (k1 := 21) (k2 := 0) rfl rfl lk_So_35 (fun _ h9 => h9) d_So_putPrivate_1 (fun b1 e1 k1 => ?_)
  refine t_getr (ci := 11) X Y S k1 rfl i_Va 1 (by decide) rfl (k1 := 13) (k2 := 6144) rfl rfl lk_So_91 (fun _ h9 => h9) d_So_putPrivate_4 (fun b2 e2 k2 => ?_)
  refine lv_astore (lv' := [(5, .ref b2), (0, .ref h), (1, .int (iI a1)), (2, .int (iI a2)), (3, .ref a3), (4, .ref a4)]) X.1 X.2.1 d_So_putPrivate_7 hl (by decide) rfl (fun ls hl => ?_)
  refine lv_aload X.1 X.2.1 d_So_putPrivate_9 (lv_at hl 0 rfl) ?_
  refine t_nv (t_runV (As := []) (rest := []) (n := 0) X Y S k2 hml hl.1 (c_By_clear l D E T κ L f H.size b2 6144 k2 (by omega) S.1) (ok_k X Y hA KS KR) rfl kl_So_By_clear ks_By_clear kx_By_clear ki_By_clear ini_By ⟨rfl, rfl⟩ hd_By_clear ⟨Nat.le_of_ble_eq_true rfl, Nat.le_of_ble_eq_true rfl⟩ rfl (Nat.le_of_ble_eq_true rfl) d_So_putPrivate_11 ⟨Nat.le_of_ble_eq_true rfl, Nat.le_of_ble_eq_true rfl⟩) X Y hA S (by decide) (fun f3 H locs Y S s3 p3 => ?_)
  refine lv_aload X.1 X.2.1 d_So_putPrivate_14 (lv_at hl 0 rfl) ?_
  refine lv_bipush (v := iI 124) X.1 X.2.1 d_So_putPrivate_16 (by decide) ?_
  refine t_ni (t_runV (As := [.int (iI 124)]) (rest := []) (n := 1) X Y S k2 hml hl.1 (c_By_open l D E T κ L f3 H.size b2 6144 k2 (by omega) 124 (by omega) (by omega) S.1) (ok_k X Y hA KS KR) rfl kl_So_By_open ks_By_open kx_By_open ki_By_open ini_By ⟨rfl, rfl⟩ hd_By_open ⟨Nat.le_of_ble_eq_true rfl, Nat.le_of_ble_eq_true rfl⟩ rfl (Nat.le_of_ble_eq_true rfl) d_So_putPrivate_18 ⟨Nat.le_of_ble_eq_true rfl, Nat.le_of_ble_eq_true rfl⟩) X Y hA S (by decide) (fun z4 f4 H locs Y S s4 p4 => ?_)
  obtain ⟨l4, u4⟩ := p4
  refine lv_istore (lv' := [(6, .int (iI z4)), (5, .ref b2), (0, .ref h), (1, .int (iI a1)), (2, .int (iI a2)), (3, .ref a3), (4, .ref a4)]) X.1 X.2.1 d_So_putPrivate_21 hl (by decide) rfl (fun ls hl => ?_)
  refine lv_aload_n X.1 X.2.1 d_So_putPrivate_23 rfl (lv_at hl 2 rfl) ?_
  refine lv_iload_n X.1 X.2.1 d_So_putPrivate_24 rfl (lv_at hl 3 rfl) ?_
  refine lv_iload_n X.1 X.2.1 d_So_putPrivate_25 rfl (lv_at hl 4 rfl) ?_
  refine lv_aload_n X.1 X.2.1 d_So_putPrivate_26 rfl (lv_at hl 5 rfl) ?_
  refine lv_aload X.1 X.2.1 d_So_putPrivate_27 (lv_at hl 1 rfl) ?_
  refine t_nv (t_runV (As := [.int (iI a1), .int (iI a2), .ref a3, .ref b2]) (rest := []) (n := 4) X Y S k0 hml hl.1 (c_So_putData l D E T κ L f4 H.size h k0 a1 (by omega) (by omega) a2 (by omega) (by omega) a3 n3 k3 (by omega) b2 6144 k2 (by omega) S.1) (ok_k X Y hA KS KR) rfl kl_So_So_putData ks_So_putData kx_So_putData ki_So_putData ini_So ⟨rfl, rfl⟩ hd_So_putData ⟨Nat.le_of_ble_eq_true rfl, Nat.le_of_ble_eq_true rfl⟩ rfl (Nat.le_of_ble_eq_true rfl) d_So_putPrivate_29 ⟨Nat.le_of_ble_eq_true rfl, Nat.le_of_ble_eq_true rfl⟩) X Y hA S (by decide) (fun f5 H locs Y S s5 p5 => ?_)
  refine lv_aload X.1 X.2.1 d_So_putPrivate_32 (lv_at hl 1 rfl) ?_
  refine lv_iload X.1 X.2.1 d_So_putPrivate_34 (lv_at hl 0 rfl) ?_
  refine t_nv (t_runV (As := [.int (iI z4)]) (rest := []) (n := 1) X Y S k2 hml hl.1 (c_By_close l D E T κ L f5 H.size b2 6144 k2 (by omega) z4 (by omega) (by omega) S.1) (ok_k X Y hA KS KR) rfl kl_So_By_close ks_By_close kx_By_close ki_By_close ini_By ⟨rfl, rfl⟩ hd_By_close ⟨Nat.le_of_ble_eq_true rfl, Nat.le_of_ble_eq_true rfl⟩ rfl (Nat.le_of_ble_eq_true rfl) d_So_putPrivate_36 ⟨Nat.le_of_ble_eq_true rfl, Nat.le_of_ble_eq_true rfl⟩) X Y hA S (by decide) (fun f6 H locs Y S s6 p6 => ?_)
  refine lv_aload X.1 X.2.1 d_So_putPrivate_39 (lv_at hl 6 rfl) ?_
  refine t_nv (t_runV (As := []) (rest := []) (n := 0) X Y S k4 hml hl.1 (c_By_clear l D E T κ L f6 H.size a4 n4 k4 (by omega) S.1) (ok_k X Y hA KS KR) rfl kl_So_By_clear ks_By_clear kx_By_clear ki_By_clear ini_By ⟨rfl, rfl⟩ hd_By_clear ⟨Nat.le_of_ble_eq_true rfl, Nat.le_of_ble_eq_true rfl⟩ rfl (Nat.le_of_ble_eq_true rfl) d_So_putPrivate_41 ⟨Nat.le_of_ble_eq_true rfl, Nat.le_of_ble_eq_true rfl⟩) X Y hA S (by decide) (fun f7 H locs Y S s7 p7 => ?_)
  refine lv_aload X.1 X.2.1 d_So_putPrivate_44 (lv_at hl 6 rfl) ?_
  refine lv_bipush (v := iI 117) X.1 X.2.1 d_So_putPrivate_46 (by decide) ?_
  refine t_ni (t_runV (As := [.int (iI 117)]) (rest := []) (n := 1) X Y S k4 hml hl.1 (c_By_open l D E T κ L f7 H.size a4 n4 k4 (by omega) 117 (by omega) (by omega) S.1) (ok_k X Y hA KS KR) rfl kl_So_By_open ks_By_open kx_By_open ki_By_open ini_By ⟨rfl, rfl⟩ hd_By_open ⟨Nat.le_of_ble_eq_true rfl, Nat.le_of_ble_eq_true rfl⟩ rfl (Nat.le_of_ble_eq_true rfl) d_So_putPrivate_48 ⟨Nat.le_of_ble_eq_true rfl, Nat.le_of_ble_eq_true rfl⟩) X Y hA S (by decide) (fun z8 f8 H locs Y S s8 p8 => ?_)
  obtain ⟨l8, u8⟩ := p8
  refine lv_istore (lv' := [(7, .int (iI z8)), (6, .int (iI z4)), (5, .ref b2), (0, .ref h), (1, .int (iI a1)), (2, .int (iI a2)), (3, .ref a3), (4, .ref a4)]) X.1 X.2.1 d_So_putPrivate_51 hl (by decide) rfl (fun ls hl => ?_)
  refine lv_aload X.1 X.2.1 d_So_putPrivate_53 (lv_at hl 7 rfl) ?_
  refine lv_bipush (v := iI 48) X.1 X.2.1 d_So_putPrivate_55 (by decide) ?_
  refine t_ni (t_runV (As := [.int (iI 48)]) (rest := []) (n := 1) X Y S k4 hml hl.1 (c_By_open l D E T κ L f8 H.size a4 n4 k4 (by omega) 48 (by omega) (by omega) S.1) (ok_k X Y hA KS KR) rfl kl_So_By_open ks_By_open kx_By_open ki_By_open ini_By ⟨rfl, rfl⟩ hd_By_open ⟨Nat.le_of_ble_eq_true rfl, Nat.le_of_ble_eq_true rfl⟩ rfl (Nat.le_of_ble_eq_true rfl) d_So_putPrivate_57 ⟨Nat.le_of_ble_eq_true rfl, Nat.le_of_ble_eq_true rfl⟩) X Y hA S (by decide) (fun z9 f9 H locs Y S s9 p9 => ?_)
  obtain ⟨l9, u9⟩ := p9
  refine lv_istore (lv' := [(8, .int (iI z9)), (7, .int (iI z8)), (6, .int (iI z4)), (5, .ref b2), (0, .ref h), (1, .int (iI a1)), (2, .int (iI a2)), (3, .ref a3), (4, .ref a4)]) X.1 X.2.1 d_So_putPrivate_60 hl (by decide) rfl (fun ls hl => ?_)
  refine lv_aload X.1 X.2.1 d_So_putPrivate_62 (lv_at hl 8 rfl) ?_
  refine lv_iconst (v := iI 0) X.1 X.2.1 d_So_putPrivate_64 (by decide) ?_
  refine lv_ldc2 (v := (5)) X.1 X.2.1 X.2.2.2.1 (X.2.2.1 _ cl_So_112) d_So_putPrivate_65 ?_
  refine t_nv (t_runV (As := [.int (iI 0), .long ((5))]) (rest := []) (n := 2) X Y S k4 hml hl.1 (c_By_putNumber l D E T κ L f9 H.size a4 n4 k4 (by omega) 0 (by omega) (by omega) ((5)) S.1) (ok_k X Y hA KS KR) rfl kl_So_By_putNumber ks_By_putNumber kx_By_putNumber ki_By_putNumber ini_By ⟨rfl, rfl⟩ hd_By_putNumber ⟨Nat.le_of_ble_eq_true rfl, Nat.le_of_ble_eq_true rfl⟩ rfl (Nat.le_of_ble_eq_true rfl) d_So_putPrivate_68 ⟨Nat.le_of_ble_eq_true rfl, Nat.le_of_ble_eq_true rfl⟩) X Y hA S (by decide) (fun f10 H locs Y S s10 p10 => ?_)
  refine lv_aload X.1 X.2.1 d_So_putPrivate_71 (lv_at hl 8 rfl) ?_
  refine lv_iconst (v := iI 1) X.1 X.2.1 d_So_putPrivate_73 (by decide) ?_
  refine lv_ldc2 (v := (21)) X.1 X.2.1 X.2.2.2.1 (X.2.2.1 _ cl_So_158) d_So_putPrivate_74 ?_
  refine t_nv (t_runV (As := [.int (iI 1), .long ((21))]) (rest := []) (n := 2) X Y S k4 hml hl.1 (c_By_putNumber l D E T κ L f10 H.size a4 n4 k4 (by omega) 1 (by omega) (by omega) ((21)) S.1) (ok_k X Y hA KS KR) rfl kl_So_By_putNumber ks_By_putNumber kx_By_putNumber ki_By_putNumber ini_By ⟨rfl, rfl⟩ hd_By_putNumber ⟨Nat.le_of_ble_eq_true rfl, Nat.le_of_ble_eq_true rfl⟩ rfl (Nat.le_of_ble_eq_true rfl) d_So_putPrivate_77 ⟨Nat.le_of_ble_eq_true rfl, Nat.le_of_ble_eq_true rfl⟩) X Y hA S (by decide) (fun f11 H locs Y S s11 p11 => ?_)
  refine lv_aload X.1 X.2.1 d_So_putPrivate_80 (lv_at hl 8 rfl) ?_
  refine lv_iconst (v := iI 3) X.1 X.2.1 d_So_putPrivate_82 (by decide) ?_
  refine t_ni (t_runV (As := [.int (iI 3)]) (rest := []) (n := 1) X Y S k4 hml hl.1 (c_By_openField l D E T κ L f11 H.size a4 n4 k4 (by omega) 3 (by omega) (by omega) S.1) (ok_k X Y hA KS KR) rfl kl_So_By_openField ks_By_openField kx_By_openField ki_By_openField ini_By ⟨rfl, rfl⟩ hd_By_openField ⟨Nat.le_of_ble_eq_true rfl, Nat.le_of_ble_eq_true rfl⟩ rfl (Nat.le_of_ble_eq_true rfl) d_So_putPrivate_83 ⟨Nat.le_of_ble_eq_true rfl, Nat.le_of_ble_eq_true rfl⟩) X Y hA S (by decide) (fun z12 f12 H locs Y S s12 p12 => ?_)
  obtain ⟨l12, u12⟩ := p12
  refine lv_istore (lv' := [(9, .int (iI z12)), (8, .int (iI z9)), (7, .int (iI z8)), (6, .int (iI z4)), (5, .ref b2), (0, .ref h), (1, .int (iI a1)), (2, .int (iI a2)), (3, .ref a3), (4, .ref a4)]) X.1 X.2.1 d_So_putPrivate_86 hl (by decide) rfl (fun ls hl => ?_)
  refine lv_aload_n X.1 X.2.1 d_So_putPrivate_88 rfl (lv_at hl 5 rfl) ?_
  refine t_get0 (ci := 9) X Y S k0 rfl i_So 0 (by decide) rfl lk_So_35 (fun _ h9 => h9) d_So_putPrivate_89 ((gF_same (s12.2.2.2 _ ⟨(t_obj S.1 k0).1, by rw [k0]; decide, by simp⟩).1 0).trans ((gF_same (s11.2.2.2 _ ⟨(t_obj S.1 k0).1, by rw [k0]; decide, by simp⟩).1 0).trans ((gF_same (s10.2.2.2 _ ⟨(t_obj S.1 k0).1, by rw [k0]; decide, by simp⟩).1 0).trans ((gF_same (s9.2.2.2 _ ⟨(t_obj S.1 k0).1, by rw [k0]; decide, by simp⟩).1 0).trans ((gF_same (s8.2.2.2 _ ⟨(t_obj S.1 k0).1, by rw [k0]; decide, by simp⟩).1 0).trans ((gF_same (s7.2.2.2 _ ⟨(t_obj S.1 k0).1, by rw [k0]; decide, by simp⟩).1 0).trans ((gF_same (s6.2.2.2 _ ⟨(t_obj S.1 k0).1, by rw [k0]; decide, by simp⟩).1 0).trans ((gF_same (s5.2.2.2 _ ⟨(t_obj S.1 k0).1, by rw [k0]; decide, by simp⟩).1 0).trans ((gF_same (s4.2.2.2 _ ⟨(t_obj S.1 k0).1, by rw [k0]; decide, by simp⟩).1 0).trans ((gF_same (s3.2.2.2 _ ⟨(t_obj S.1 k0).1, by rw [k0]; decide, by simp⟩).1 0).trans e1)))))))))) ?_
  refine lv_aload X.1 X.2.1 d_So_putPrivate_92 (lv_at hl 9 rfl) ?_
  refine lv_aload_n X.1 X.2.1 d_So_putPrivate_94 rfl (lv_at hl 5 rfl) ?_
  refine t_getk (ci := 9) X Y S k0 rfl i_So 3 (by decide) rfl lk_So_19 (fun _ h9 => h9) d_So_putPrivate_95 (fun b13 n13 e13 k13 x13 => ?_)
  refine lv_bipush (v := iI 13) X.1 X.2.1 d_So_putPrivate_98 (by decide) ?_
  refine lv_iconst (v := iI 0) X.1 X.2.1 d_So_putPrivate_100 (by decide) ?_
  refine t_nv (t_runV (As := [.ref a4, .ref b13, .int (iI 13), .int (iI 0)]) (rest := []) (n := 4) X Y S k1 hml hl.1 (c_Va_putSealed l D E T κ L f12 H.size b1 k1 a4 n4 k4 (by omega) b13 n13 k13 (by omega) 13 (by omega) (by omega) 0 (by omega) (by omega) S.1) (ok_k X Y hA KS KR) rfl kl_So_Va_putSealed ks_Va_putSealed kx_Va_putSealed ki_Va_putSealed ini_Va ⟨rfl, rfl⟩ hd_Va_putSealed ⟨Nat.le_of_ble_eq_true rfl, Nat.le_of_ble_eq_true rfl⟩ rfl (Nat.le_of_ble_eq_true rfl) d_So_putPrivate_101 ⟨Nat.le_of_ble_eq_true rfl, Nat.le_of_ble_eq_true rfl⟩) X Y hA S (by decide) (fun f14 H locs Y S s14 p14 => ?_)
  refine lv_aload X.1 X.2.1 d_So_putPrivate_104 (lv_at hl 9 rfl) ?_
  refine lv_iload X.1 X.2.1 d_So_putPrivate_106 (lv_at hl 0 rfl) ?_
  refine t_nv (t_runV (As := [.int (iI z12)]) (rest := []) (n := 1) X Y S k4 hml hl.1 (c_By_close l D E T κ L f14 H.size a4 n4 k4 (by omega) z12 (by omega) (by omega) S.1) (ok_k X Y hA KS KR) rfl kl_So_By_close ks_By_close kx_By_close ki_By_close ini_By ⟨rfl, rfl⟩ hd_By_close ⟨Nat.le_of_ble_eq_true rfl, Nat.le_of_ble_eq_true rfl⟩ rfl (Nat.le_of_ble_eq_true rfl) d_So_putPrivate_108 ⟨Nat.le_of_ble_eq_true rfl, Nat.le_of_ble_eq_true rfl⟩) X Y hA S (by decide) (fun f15 H locs Y S s15 p15 => ?_)
  refine lv_aload X.1 X.2.1 d_So_putPrivate_111 (lv_at hl 9 rfl) ?_
  refine lv_iload X.1 X.2.1 d_So_putPrivate_113 (lv_at hl 1 rfl) ?_
  refine t_nv (t_runV (As := [.int (iI z9)]) (rest := []) (n := 1) X Y S k4 hml hl.1 (c_By_close l D E T κ L f15 H.size a4 n4 k4 (by omega) z9 (by omega) (by omega) S.1) (ok_k X Y hA KS KR) rfl kl_So_By_close ks_By_close kx_By_close ki_By_close ini_By ⟨rfl, rfl⟩ hd_By_close ⟨Nat.le_of_ble_eq_true rfl, Nat.le_of_ble_eq_true rfl⟩ rfl (Nat.le_of_ble_eq_true rfl) d_So_putPrivate_115 ⟨Nat.le_of_ble_eq_true rfl, Nat.le_of_ble_eq_true rfl⟩) X Y hA S (by decide) (fun f16 H locs Y S s16 p16 => ?_)
  refine lv_aload X.1 X.2.1 d_So_putPrivate_118 (lv_at hl 9 rfl) ?_
  refine lv_iload X.1 X.2.1 d_So_putPrivate_120 (lv_at hl 2 rfl) ?_
  refine t_nv (t_runV (As := [.int (iI z8)]) (rest := []) (n := 1) X Y S k4 hml hl.1 (c_By_close l D E T κ L f16 H.size a4 n4 k4 (by omega) z8 (by omega) (by omega) S.1) (ok_k X Y hA KS KR) rfl kl_So_By_close ks_By_close kx_By_close ki_By_close ini_By ⟨rfl, rfl⟩ hd_By_close ⟨Nat.le_of_ble_eq_true rfl, Nat.le_of_ble_eq_true rfl⟩ rfl (Nat.le_of_ble_eq_true rfl) d_So_putPrivate_122 ⟨Nat.le_of_ble_eq_true rfl, Nat.le_of_ble_eq_true rfl⟩) X Y hA S (by decide) (fun f17 H locs Y S s17 p17 => ?_)
  exact c_retv hQQ X Y hr hlk ⟨rfl, S, trivial⟩ d_So_putPrivate_125
set_option maxHeartbeats 4000000 in
set_option maxRecDepth 100000 in
theorem c_So_putSafe (l : Launch) (D : va_G) (E : cE) (T : cT) (κ : tK) (L : List Nat) (f : pF) (sz : Nat) (h : Nat) (k0 : κ h = (19, 0)) (a1 : Int) (l_a1 : 0 ≤ a1) (u_a1 : a1 ≤ 1) (a2 : Int) (l_a2 : (-2147483648) ≤ a2) (u_a2 : a2 ≤ 2147483647) (a3 n3 : Nat) (k3 : κ a3 = (13, n3)) (x3 : n3 ≤ 12288) (a4 n4 : Nat) (k4 : κ a4 = (13, n4)) (x4 : n4 ≤ 12288) (hw : tW E T κ L f) : Met l y_So_putSafe (k_So_putSafe :: lw_tg) (kRm 6 184 0 0) (va_Pc [.ref h, .int (iI a1), .int (iI a2), .ref a3, .ref a4] (kPre D E T L f sz)) (va_Qv (nPv E T [1, 2, 3, 4, 11, 13, 16] κ L f (fun (g : pF) => True)) (cPost D E (pA L sz)) (pA L sz)) 0 0 (pA L sz) := by
  refine k_enter (own := R_So) (by decide) rfl (Nat.le_of_ble_eq_true rfl) (fun p e s m below meth c ls AV QQ H locs hQQ X Y hA hin hr hlk hml hl KS KR => ?_)
  have hl : lv_has ls 8 [(0, .ref h), (1, .int (iI a1)), (2, .int (iI a2)), (3, .ref a3), (4, .ref a4)] := hl
  have S : tS E T (tFr κ L [1, 2, 3, 4, 11, 13, 16] []) κ L f κ L f := tS_rf hw
  refine lv_aload_n X.1 X.2.1 d_So_putSafe_0 rfl (lv_at hl 0 rfl) ?_
  refine t_getr (ci := 9) X Y S k0 rfl i_So 0 (by decide) rfl (k1 := 21) (k2 := 0) rfl rfl lk_So_35 (fun _ h9 => h9) d_So_putSafe_1 (fun b1 e1 k1 => ?_)
  refine t_getr (ci := 11) X Y S k1 rfl i_Va 1 (by decide) rfl (k1 := 13) (k2 := 6144) rfl rfl lk_So_91 (fun _ h9 => h9) d_So_putSafe_4 (fun b2 e2 k2 => ?_)
  refine lv_astore (lv' := [(5, .ref b2), (0, .ref h), (1, .int (iI a1)), (2, .int (iI a2)), (3, .ref a3), (4, .ref a4)]) X.1 X.2.1 d_So_putSafe_7 hl (by decide) rfl (fun ls hl => ?_)
  refine lv_aload X.1 X.2.1 d_So_putSafe_9 (lv_at hl 0 rfl) ?_
  refine t_nv (t_runV (As := []) (rest := []) (n := 0) X Y S k2 hml hl.1 (c_By_clear l D E T κ L f H.size b2 6144 k2 (by omega) S.1) (ok_k X Y hA KS KR) rfl kl_So_By_clear ks_By_clear kx_By_clear ki_By_clear ini_By ⟨rfl, rfl⟩ hd_By_clear ⟨Nat.le_of_ble_eq_true rfl, Nat.le_of_ble_eq_true rfl⟩ rfl (Nat.le_of_ble_eq_true rfl) d_So_putSafe_11 ⟨Nat.le_of_ble_eq_true rfl, Nat.le_of_ble_eq_true rfl⟩) X Y hA S (by decide) (fun f3 H locs Y S s3 p3 => ?_)
  refine lv_aload_n X.1 X.2.1 d_So_putSafe_14 rfl (lv_at hl 1 rfl) ?_
  refine lv_iload_n X.1 X.2.1 d_So_putSafe_15 rfl (lv_at hl 2 rfl) ?_
  refine lv_iload_n X.1 X.2.1 d_So_putSafe_16 rfl (lv_at hl 3 rfl) ?_
  refine lv_aload_n X.1 X.2.1 d_So_putSafe_17 rfl (lv_at hl 4 rfl) ?_
  refine lv_aload X.1 X.2.1 d_So_putSafe_18 (lv_at hl 0 rfl) ?_
  refine t_nv (t_runV (As := [.int (iI a1), .int (iI a2), .ref a3, .ref b2]) (rest := []) (n := 4) X Y S k0 hml hl.1 (c_So_putData l D E T κ L f3 H.size h k0 a1 (by omega) (by omega) a2 (by omega) (by omega) a3 n3 k3 (by omega) b2 6144 k2 (by omega) S.1) (ok_k X Y hA KS KR) rfl kl_So_So_putData ks_So_putData kx_So_putData ki_So_putData ini_So ⟨rfl, rfl⟩ hd_So_putData ⟨Nat.le_of_ble_eq_true rfl, Nat.le_of_ble_eq_true rfl⟩ rfl (Nat.le_of_ble_eq_true rfl) d_So_putSafe_20 ⟨Nat.le_of_ble_eq_true rfl, Nat.le_of_ble_eq_true rfl⟩) X Y hA S (by decide) (fun f4 H locs Y S s4 p4 => ?_)
  refine lv_aload_n X.1 X.2.1 d_So_putSafe_23 rfl (lv_at hl 1 rfl) ?_
  refine t_get0 (ci := 9) X Y S k0 rfl i_So 0 (by decide) rfl lk_So_35 (fun _ h9 => h9) d_So_putSafe_24 ((gF_same (s4.2.2.2 _ ⟨(t_obj S.1 k0).1, by rw [k0]; decide, by simp⟩).1 0).trans ((gF_same (s3.2.2.2 _ ⟨(t_obj S.1 k0).1, by rw [k0]; decide, by simp⟩).1 0).trans e1)) ?_
  refine lv_aload_n X.1 X.2.1 d_So_putSafe_27 rfl (lv_at hl 1 rfl) ?_
  refine t_getk (ci := 9) X Y S k0 rfl i_So 3 (by decide) rfl lk_So_19 (fun _ h9 => h9) d_So_putSafe_28 (fun b5 n5 e5 k5 x5 => ?_)
  refine lv_bipush (v := iI 15) X.1 X.2.1 d_So_putSafe_31 (by decide) ?_
  refine lv_aload X.1 X.2.1 d_So_putSafe_33 (lv_at hl 0 rfl) ?_
  refine lv_iconst (v := iI 0) X.1 X.2.1 d_So_putSafe_35 (by decide) ?_
  refine lv_aload X.1 X.2.1 d_So_putSafe_36 (lv_at hl 0 rfl) ?_
  refine t_gets (ci := 3) X Y S k2 rfl i_By 1 (by decide) rfl lk_So_141 (fun _ h9 => h9) d_So_putSafe_38 (fun z6 e6 l6 u6 => ?_)
  refine t_nv (t_runV (As := [.ref b5, .int (iI 15), .ref b2, .int (iI 0), .int (iI z6)]) (rest := []) (n := 5) X Y S k1 hml hl.1 (c_Va_sum l D E T κ L f4 H.size b1 k1 b5 n5 k5 (by omega) 15 (by omega) (by omega) b2 6144 k2 (by omega) 0 (by omega) (by omega) z6 (by omega) (by omega) S.1) (ok_k X Y hA KS KR) rfl kl_So_Va_sum ks_Va_sum kx_Va_sum ki_Va_sum ini_Va ⟨rfl, rfl⟩ hd_Va_sum ⟨Nat.le_of_ble_eq_true rfl, Nat.le_of_ble_eq_true rfl⟩ rfl (Nat.le_of_ble_eq_true rfl) d_So_putSafe_41 ⟨Nat.le_of_ble_eq_true rfl, Nat.le_of_ble_eq_true rfl⟩) X Y hA S (by decide) (fun f7 H locs Y S s7 p7 => ?_)
  refine lv_aload X.1 X.2.1 d_So_putSafe_44 (lv_at hl 5 rfl) ?_
  refine t_nv (t_runV (As := []) (rest := []) (n := 0) X Y S k4 hml hl.1 (c_By_clear l D E T κ L f7 H.size a4 n4 k4 (by omega) S.1) (ok_k X Y hA KS KR) rfl kl_So_By_clear ks_By_clear kx_By_clear ki_By_clear ini_By ⟨rfl, rfl⟩ hd_By_clear ⟨Nat.le_of_ble_eq_true rfl, Nat.le_of_ble_eq_true rfl⟩ rfl (Nat.le_of_ble_eq_true rfl) d_So_putSafe_46 ⟨Nat.le_of_ble_eq_true rfl, Nat.le_of_ble_eq_true rfl⟩) X Y hA S (by decide) (fun f8 H locs Y S s8 p8 => ?_)
  refine lv_aload X.1 X.2.1 d_So_putSafe_49 (lv_at hl 5 rfl) ?_
  refine lv_bipush (v := iI 116) X.1 X.2.1 d_So_putSafe_51 (by decide) ?_
  refine t_ni (t_runV (As := [.int (iI 116)]) (rest := []) (n := 1) X Y S k4 hml hl.1 (c_By_open l D E T κ L f8 H.size a4 n4 k4 (by omega) 116 (by omega) (by omega) S.1) (ok_k X Y hA KS KR) rfl kl_So_By_open ks_By_open kx_By_open ki_By_open ini_By ⟨rfl, rfl⟩ hd_By_open ⟨Nat.le_of_ble_eq_true rfl, Nat.le_of_ble_eq_true rfl⟩ rfl (Nat.le_of_ble_eq_true rfl) d_So_putSafe_53 ⟨Nat.le_of_ble_eq_true rfl, Nat.le_of_ble_eq_true rfl⟩) X Y hA S (by decide) (fun z9 f9 H locs Y S s9 p9 => ?_)
  obtain ⟨l9, u9⟩ := p9
  refine lv_istore (lv' := [(6, .int (iI z9)), (5, .ref b2), (0, .ref h), (1, .int (iI a1)), (2, .int (iI a2)), (3, .ref a3), (4, .ref a4)]) X.1 X.2.1 d_So_putSafe_56 hl (by decide) rfl (fun ls hl => ?_)
  refine lv_aload X.1 X.2.1 d_So_putSafe_58 (lv_at hl 6 rfl) ?_
  refine lv_bipush (v := iI 48) X.1 X.2.1 d_So_putSafe_60 (by decide) ?_
  refine t_ni (t_runV (As := [.int (iI 48)]) (rest := []) (n := 1) X Y S k4 hml hl.1 (c_By_open l D E T κ L f9 H.size a4 n4 k4 (by omega) 48 (by omega) (by omega) S.1) (ok_k X Y hA KS KR) rfl kl_So_By_open ks_By_open kx_By_open ki_By_open ini_By ⟨rfl, rfl⟩ hd_By_open ⟨Nat.le_of_ble_eq_true rfl, Nat.le_of_ble_eq_true rfl⟩ rfl (Nat.le_of_ble_eq_true rfl) d_So_putSafe_62 ⟨Nat.le_of_ble_eq_true rfl, Nat.le_of_ble_eq_true rfl⟩) X Y hA S (by decide) (fun z10 f10 H locs Y S s10 p10 => ?_)
  obtain ⟨l10, u10⟩ := p10
  refine lv_istore (lv' := [(7, .int (iI z10)), (6, .int (iI z9)), (5, .ref b2), (0, .ref h), (1, .int (iI a1)), (2, .int (iI a2)), (3, .ref a3), (4, .ref a4)]) X.1 X.2.1 d_So_putSafe_65 hl (by decide) rfl (fun ls hl => ?_)
  refine lv_aload X.1 X.2.1 d_So_putSafe_67 (lv_at hl 7 rfl) ?_
  refine lv_iconst (v := iI 0) X.1 X.2.1 d_So_putSafe_69 (by decide) ?_
  refine lv_ldc2 (v := (5)) X.1 X.2.1 X.2.2.2.1 (X.2.2.1 _ cl_So_112) d_So_putSafe_70 ?_
  refine t_nv (t_runV (As := [.int (iI 0), .long ((5))]) (rest := []) (n := 2) X Y S k4 hml hl.1 (c_By_putNumber l D E T κ L f10 H.size a4 n4 k4 (by omega) 0 (by omega) (by omega) ((5)) S.1) (ok_k X Y hA KS KR) rfl kl_So_By_putNumber ks_By_putNumber kx_By_putNumber ki_By_putNumber ini_By ⟨rfl, rfl⟩ hd_By_putNumber ⟨Nat.le_of_ble_eq_true rfl, Nat.le_of_ble_eq_true rfl⟩ rfl (Nat.le_of_ble_eq_true rfl) d_So_putSafe_73 ⟨Nat.le_of_ble_eq_true rfl, Nat.le_of_ble_eq_true rfl⟩) X Y hA S (by decide) (fun f11 H locs Y S s11 p11 => ?_)
  refine lv_aload X.1 X.2.1 d_So_putSafe_76 (lv_at hl 7 rfl) ?_
  refine lv_iconst (v := iI 1) X.1 X.2.1 d_So_putSafe_78 (by decide) ?_
  refine lv_ldc2 (v := (20)) X.1 X.2.1 X.2.2.2.1 (X.2.2.1 _ cl_So_164) d_So_putSafe_79 ?_
  refine t_nv (t_runV (As := [.int (iI 1), .long ((20))]) (rest := []) (n := 2) X Y S k4 hml hl.1 (c_By_putNumber l D E T κ L f11 H.size a4 n4 k4 (by omega) 1 (by omega) (by omega) ((20)) S.1) (ok_k X Y hA KS KR) rfl kl_So_By_putNumber ks_By_putNumber kx_By_putNumber ki_By_putNumber ini_By ⟨rfl, rfl⟩ hd_By_putNumber ⟨Nat.le_of_ble_eq_true rfl, Nat.le_of_ble_eq_true rfl⟩ rfl (Nat.le_of_ble_eq_true rfl) d_So_putSafe_82 ⟨Nat.le_of_ble_eq_true rfl, Nat.le_of_ble_eq_true rfl⟩) X Y hA S (by decide) (fun f12 H locs Y S s12 p12 => ?_)
  refine lv_aload X.1 X.2.1 d_So_putSafe_85 (lv_at hl 7 rfl) ?_
  refine lv_iconst (v := iI 2) X.1 X.2.1 d_So_putSafe_87 (by decide) ?_
  refine lv_aload X.1 X.2.1 d_So_putSafe_88 (lv_at hl 2 rfl) ?_
  refine lv_iconst (v := iI 0) X.1 X.2.1 d_So_putSafe_90 (by decide) ?_
  refine t_nv (t_runV (As := [.int (iI 2), .ref b2, .int (iI 0)]) (rest := []) (n := 3) X Y S k4 hml hl.1 (c_By_putCopy l D E T κ L f12 H.size a4 n4 k4 (by omega) 2 (by omega) (by omega) b2 6144 k2 (by omega) 0 (by omega) (by omega) S.1) (ok_k X Y hA KS KR) rfl kl_So_By_putCopy ks_By_putCopy kx_By_putCopy ki_By_putCopy ini_By ⟨rfl, rfl⟩ hd_By_putCopy ⟨Nat.le_of_ble_eq_true rfl, Nat.le_of_ble_eq_true rfl⟩ rfl (Nat.le_of_ble_eq_true rfl) d_So_putSafe_91 ⟨Nat.le_of_ble_eq_true rfl, Nat.le_of_ble_eq_true rfl⟩) X Y hA S (by decide) (fun f13 H locs Y S s13 p13 => ?_)
  refine lv_aload_n X.1 X.2.1 d_So_putSafe_94 rfl (lv_at hl 3 rfl) ?_
  refine t_get0 (ci := 9) X Y S k0 rfl i_So 0 (by decide) rfl lk_So_35 (fun _ h9 => h9) d_So_putSafe_95 ((gF_same (s13.2.2.2 _ ⟨(t_obj S.1 k0).1, by rw [k0]; decide, by simp⟩).1 0).trans ((gF_same (s12.2.2.2 _ ⟨(t_obj S.1 k0).1, by rw [k0]; decide, by simp⟩).1 0).trans ((gF_same (s11.2.2.2 _ ⟨(t_obj S.1 k0).1, by rw [k0]; decide, by simp⟩).1 0).trans ((gF_same (s10.2.2.2 _ ⟨(t_obj S.1 k0).1, by rw [k0]; decide, by simp⟩).1 0).trans ((gF_same (s9.2.2.2 _ ⟨(t_obj S.1 k0).1, by rw [k0]; decide, by simp⟩).1 0).trans ((gF_same (s8.2.2.2 _ ⟨(t_obj S.1 k0).1, by rw [k0]; decide, by simp⟩).1 0).trans ((gF_same (s7.2.2.2 _ ⟨(t_obj S.1 k0).1, by rw [k0]; decide, by simp⟩).1 0).trans ((gF_same (s4.2.2.2 _ ⟨(t_obj S.1 k0).1, by rw [k0]; decide, by simp⟩).1 0).trans ((gF_same (s3.2.2.2 _ ⟨(t_obj S.1 k0).1, by rw [k0]; decide, by simp⟩).1 0).trans e1))))))))) ?_
  refine lv_aload X.1 X.2.1 d_So_putSafe_98 (lv_at hl 7 rfl) ?_
  refine lv_aload_n X.1 X.2.1 d_So_putSafe_100 rfl (lv_at hl 3 rfl) ?_
  refine t_get0 (ci := 9) X Y S k0 rfl i_So 3 (by decide) rfl lk_So_19 (fun _ h9 => h9) d_So_putSafe_101 ((gF_same (s13.2.2.2 _ ⟨(t_obj S.1 k0).1, by rw [k0]; decide, by simp⟩).1 3).trans ((gF_same (s12.2.2.2 _ ⟨(t_obj S.1 k0).1, by rw [k0]; decide, by simp⟩).1 3).trans ((gF_same (s11.2.2.2 _ ⟨(t_obj S.1 k0).1, by rw [k0]; decide, by simp⟩).1 3).trans ((gF_same (s10.2.2.2 _ ⟨(t_obj S.1 k0).1, by rw [k0]; decide, by simp⟩).1 3).trans ((gF_same (s9.2.2.2 _ ⟨(t_obj S.1 k0).1, by rw [k0]; decide, by simp⟩).1 3).trans ((gF_same (s8.2.2.2 _ ⟨(t_obj S.1 k0).1, by rw [k0]; decide, by simp⟩).1 3).trans ((gF_same (s7.2.2.2 _ ⟨(t_obj S.1 k0).1, by rw [k0]; decide, by simp⟩).1 3).trans e5))))))) ?_
  refine t_nv (t_runV (As := [.ref a4, .ref b5]) (rest := []) (n := 2) X Y S k1 hml hl.1 (c_Va_putSum l D E T κ L f13 H.size b1 k1 a4 n4 k4 (by omega) b5 n5 k5 (by omega) S.1) (ok_k X Y hA KS KR) rfl kl_So_Va_putSum ks_Va_putSum kx_Va_putSum ki_Va_putSum ini_Va ⟨rfl, rfl⟩ hd_Va_putSum ⟨Nat.le_of_ble_eq_true rfl, Nat.le_of_ble_eq_true rfl⟩ rfl (Nat.le_of_ble_eq_true rfl) d_So_putSafe_104 ⟨Nat.le_of_ble_eq_true rfl, Nat.le_of_ble_eq_true rfl⟩) X Y hA S (by decide) (fun f14 H locs Y S s14 p14 => ?_)
  refine lv_aload X.1 X.2.1 d_So_putSafe_107 (lv_at hl 7 rfl) ?_
  refine lv_iload X.1 X.2.1 d_So_putSafe_109 (lv_at hl 0 rfl) ?_
  refine t_nv (t_runV (As := [.int (iI z10)]) (rest := []) (n := 1) X Y S k4 hml hl.1 (c_By_close l D E T κ L f14 H.size a4 n4 k4 (by omega) z10 (by omega) (by omega) S.1) (ok_k X Y hA KS KR) rfl kl_So_By_close ks_By_close kx_By_close ki_By_close ini_By ⟨rfl, rfl⟩ hd_By_close ⟨Nat.le_of_ble_eq_true rfl, Nat.le_of_ble_eq_true rfl⟩ rfl (Nat.le_of_ble_eq_true rfl) d_So_putSafe_111 ⟨Nat.le_of_ble_eq_true rfl, Nat.le_of_ble_eq_true rfl⟩) X Y hA S (by decide) (fun f15 H locs Y S s15 p15 => ?_)
  refine lv_aload X.1 X.2.1 d_So_putSafe_114 (lv_at hl 7 rfl) ?_
  refine lv_iload X.1 X.2.1 d_So_putSafe_116 (lv_at hl 1 rfl) ?_
  refine t_nv (t_runV (As := [.int (iI z9)]) (rest := []) (n := 1) X Y S k4 hml hl.1 (c_By_close l D E T κ L f15 H.size a4 n4 k4 (by omega) z9 (by omega) (by omega) S.1) (ok_k X Y hA KS KR) rfl kl_So_By_close ks_By_close kx_By_close ki_By_close ini_By ⟨rfl, rfl⟩ hd_By_close ⟨Nat.le_of_ble_eq_true rfl, Nat.le_of_ble_eq_true rfl⟩ rfl (Nat.le_of_ble_eq_true rfl) d_So_putSafe_118 ⟨Nat.le_of_ble_eq_true rfl, Nat.le_of_ble_eq_true rfl⟩) X Y hA S (by decide) (fun f16 H locs Y S s16 p16 => ?_)
  exact c_retv hQQ X Y hr hlk ⟨rfl, S, trivial⟩ d_So_putSafe_121
set_option maxHeartbeats 4000000 in
set_option maxRecDepth 100000 in
theorem c_So_judgeHead (l : Launch) (D : va_G) (E : cE) (T : cT) (κ : tK) (L : List Nat) (f : pF) (sz : Nat) (a1 n1 : Nat) (k1 : κ a1 = (13, n1)) (x1 : n1 ≤ 12288) (a2 : Int) (l_a2 : (-2147483648) ≤ a2) (u_a2 : a2 ≤ 2147483647) (a3 : Int) (l_a3 : (-2147483648) ≤ a3) (u_a3 : a3 ≤ 2147483647) (hw : tW E T κ L f) : Met l y_So_judgeHead (k_So_judgeHead :: lw_tg) (kRm 71 2363 0 0) (va_Pc [.ref a1, .int (iI a2), .int (iI a3)] (kPre D E T L f sz)) (va_Qi (uPi L f (fun (z : Int) => (-2147483648) ≤ z ∧ z ≤ 2147483647)) (cPost D E (pA L sz)) (pA L sz)) 0 0 (pA L sz) := by
  refine k_enter (own := R_So) (by decide) rfl (Nat.le_of_ble_eq_true rfl) (fun p e s m below meth c ls AV QQ H locs hQQ X Y hA hin hr hlk hml hl KS KR => ?_)
  have hl : lv_has ls 3 [(0, .ref a1), (1, .int (iI a2)), (2, .int (iI a3))] := hl
  have S : tS E T (tFr κ L [] []) κ L f κ L f := tS_rf hw
  refine lv_aload_n X.1 X.2.1 d_So_judgeHead_0 rfl (lv_at hl 0 rfl) ?_
  refine lv_iload_n X.1 X.2.1 d_So_judgeHead_1 rfl (lv_at hl 1 rfl) ?_
  refine lv_iconst (v := iI 0) X.1 X.2.1 d_So_judgeHead_2 (by decide) ?_
  refine lv_aload_n X.1 X.2.1 d_So_judgeHead_3 rfl (lv_at hl 0 rfl) ?_
  refine t_gets (ci := 3) X Y S k1 rfl i_By 1 (by decide) rfl lk_So_141 (fun _ h9 => h9) d_So_judgeHead_4 (fun z1 e1 l1 u1 => ?_)
  refine t_ui (t_runV (As := [.int (iI a2), .int (iI 0), .int (iI z1)]) (rest := []) (n := 3) X Y S k1 hml hl.1 (c_By_isA l D E T κ L f H.size a1 n1 k1 (by omega) a2 (by omega) (by omega) 0 (by omega) (by omega) z1 (by omega) (by omega) S.1) (ok_k X Y hA KS KR) rfl kl_So_By_isA ks_By_isA kx_By_isA ki_By_isA ini_By ⟨rfl, rfl⟩ hd_By_isA ⟨Nat.le_of_ble_eq_true rfl, Nat.le_of_ble_eq_true rfl⟩ rfl (Nat.le_of_ble_eq_true rfl) d_So_judgeHead_7 ⟨Nat.le_of_ble_eq_true rfl, Nat.le_of_ble_eq_true rfl⟩) X Y hA (fun z2 H locs Y p2 => ?_)
  obtain ⟨l2, u2⟩ := p2
  refine z_if_ne (tgt := 16) X.1 X.2.1 d_So_judgeHead_10 (by decide) ⟨by omega, by omega⟩ (fun h3 => ?_) (fun h3 => ?_)
  · refine lv_aload_n X.1 X.2.1 d_So_judgeHead_16 rfl (lv_at hl 0 rfl) ?_
    refine lv_aload_n X.1 X.2.1 d_So_judgeHead_17 rfl (lv_at hl 0 rfl) ?_
    refine lv_iconst (v := iI 0) X.1 X.2.1 d_So_judgeHead_18 (by decide) ?_
    refine lv_iconst (v := iI 0) X.1 X.2.1 d_So_judgeHead_19 (by decide) ?_
    refine t_ui (t_runV (As := [.int (iI 0), .int (iI 0)]) (rest := [.ref a1]) (n := 2) X Y S k1 hml hl.1 (c_By_field l D E T κ L f H.size a1 n1 k1 (by omega) 0 (by omega) (by omega) 0 (by omega) (by omega) S.1) (ok_k X Y hA KS KR) rfl kl_So_By_field ks_By_field kx_By_field ki_By_field ini_By ⟨rfl, rfl⟩ hd_By_field ⟨Nat.le_of_ble_eq_true rfl, Nat.le_of_ble_eq_true rfl⟩ rfl (Nat.le_of_ble_eq_true rfl) d_So_judgeHead_20 ⟨Nat.le_of_ble_eq_true rfl, Nat.le_of_ble_eq_true rfl⟩) X Y hA (fun z4 H locs Y p4 => ?_)
    obtain ⟨l4, u4⟩ := p4
    refine t_ul (t_runV (As := [.int (iI z4)]) (rest := []) (n := 1) X Y S k1 hml hl.1 (c_By_numberAt l D E T κ L f H.size a1 n1 k1 (by omega) z4 (by omega) (by omega) S.1) (ok_k X Y hA KS KR) rfl kl_So_By_numberAt ks_By_numberAt kx_By_numberAt ki_By_numberAt ini_By ⟨rfl, rfl⟩ hd_By_numberAt ⟨Nat.le_of_ble_eq_true rfl, Nat.le_of_ble_eq_true rfl⟩ rfl (Nat.le_of_ble_eq_true rfl) d_So_judgeHead_23 ⟨Nat.le_of_ble_eq_true rfl, Nat.le_of_ble_eq_true rfl⟩) X Y hA (fun v5 H locs Y p5 => ?_)
    refine lv_ldc2 (v := (5)) X.1 X.2.1 X.2.2.2.1 (X.2.2.1 _ cl_So_112) d_So_judgeHead_26 ?_
    refine W.lcmp X.1 X.2.1 d_So_judgeHead_29 ?_
    refine t_u (fun z6 l6 u6 => ?_)
    refine z_if_eq (tgt := 36) X.1 X.2.1 d_So_judgeHead_30 (by decide) ⟨by omega, by omega⟩ (fun h7 => ?_) (fun h7 => ?_)
    · refine lv_aload_n X.1 X.2.1 d_So_judgeHead_36 rfl (lv_at hl 0 rfl) ?_
      refine lv_aload_n X.1 X.2.1 d_So_judgeHead_37 rfl (lv_at hl 0 rfl) ?_
      refine lv_iconst (v := iI 0) X.1 X.2.1 d_So_judgeHead_38 (by decide) ?_
      refine lv_iconst (v := iI 1) X.1 X.2.1 d_So_judgeHead_39 (by decide) ?_
      refine t_ui (t_runV (As := [.int (iI 0), .int (iI 1)]) (rest := [.ref a1]) (n := 2) X Y S k1 hml hl.1 (c_By_field l D E T κ L f H.size a1 n1 k1 (by omega) 0 (by omega) (by omega) 1 (by omega) (by omega) S.1) (ok_k X Y hA KS KR) rfl kl_So_By_field ks_By_field kx_By_field ki_By_field ini_By ⟨rfl, rfl⟩ hd_By_field ⟨Nat.le_of_ble_eq_true rfl, Nat.le_of_ble_eq_true rfl⟩ rfl (Nat.le_of_ble_eq_true rfl) d_So_judgeHead_40 ⟨Nat.le_of_ble_eq_true rfl, Nat.le_of_ble_eq_true rfl⟩) X Y hA (fun z8 H locs Y p8 => ?_)
      obtain ⟨l8, u8⟩ := p8
      refine t_ul (t_runV (As := [.int (iI z8)]) (rest := []) (n := 1) X Y S k1 hml hl.1 (c_By_numberAt l D E T κ L f H.size a1 n1 k1 (by omega) z8 (by omega) (by omega) S.1) (ok_k X Y hA KS KR) rfl kl_So_By_numberAt ks_By_numberAt kx_By_numberAt ki_By_numberAt ini_By ⟨rfl, rfl⟩ hd_By_numberAt ⟨Nat.le_of_ble_eq_true rfl, Nat.le_of_ble_eq_true rfl⟩ rfl (Nat.le_of_ble_eq_true rfl) d_So_judgeHead_43 ⟨Nat.le_of_ble_eq_true rfl, Nat.le_of_ble_eq_true rfl⟩) X Y hA (fun v9 H locs Y p9 => ?_)
      refine lv_iload_n X.1 X.2.1 d_So_judgeHead_46 rfl (lv_at hl 2 rfl) ?_
      refine lv_i2l X.1 X.2.1 d_So_judgeHead_47 rfl ?_
      refine t_anyl (fun v10 => ?_)
      refine W.lcmp X.1 X.2.1 d_So_judgeHead_48 ?_
      refine t_u (fun z11 l11 u11 => ?_)
      refine z_if_eq (tgt := 57) X.1 X.2.1 d_So_judgeHead_49 (by decide) ⟨by omega, by omega⟩ (fun h12 => ?_) (fun h12 => ?_)
      · refine lv_iconst (v := iI 0) X.1 X.2.1 d_So_judgeHead_57 (by decide) ?_
        exact c_reti hQQ X Y hr hlk ⟨rfl, rfl, 0, rfl, ⟨by omega, by omega⟩⟩ d_So_judgeHead_58
      · refine lv_bipush (v := iI (-40)) X.1 X.2.1 d_So_judgeHead_52 (by decide) ?_
        refine lv_goto (tgt := 58) X.1 X.2.1 d_So_judgeHead_54 (by decide) ?_
        exact c_reti hQQ X Y hr hlk ⟨rfl, rfl, (-40), rfl, ⟨by omega, by omega⟩⟩ d_So_judgeHead_58
    · refine lv_bipush (v := iI (-3)) X.1 X.2.1 d_So_judgeHead_33 (by decide) ?_
      exact c_reti hQQ X Y hr hlk ⟨rfl, rfl, (-3), rfl, ⟨by omega, by omega⟩⟩ d_So_judgeHead_35
  · refine lv_bipush (v := iI (-60)) X.1 X.2.1 d_So_judgeHead_13 (by decide) ?_
    exact c_reti hQQ X Y hr hlk ⟨rfl, rfl, (-60), rfl, ⟨by omega, by omega⟩⟩ d_So_judgeHead_15
set_option maxHeartbeats 4000000 in
set_option maxRecDepth 100000 in
theorem c_So_isAddress (l : Launch) (D : va_G) (E : cE) (T : cT) (κ : tK) (L : List Nat) (f : pF) (sz : Nat) (a1 n1 : Nat) (k1 : κ a1 = (13, n1)) (x1 : n1 ≤ 12288) (a2 : Int) (l_a2 : (-1) ≤ a2) (u_a2 : a2 ≤ 20200) (a3 : Int) (l_a3 : (-2147483648) ≤ a3) (u_a3 : a3 ≤ 2147483647) (hw : tW E T κ L f) : Met l y_So_isAddress (k_So_isAddress :: lw_tg) (kRm 3 112 0 0) (va_Pc [.ref a1, .int (iI a2), .int (iI a3)] (kPre D E T L f sz)) (va_Qi (uPi L f (fun (z : Int) => 0 ≤ z ∧ z ≤ 1)) (cPost D E (pA L sz)) (pA L sz)) 0 0 (pA L sz) := by
  refine k_enter (own := R_So) (by decide) rfl (Nat.le_of_ble_eq_true rfl) (fun p e s m below meth c ls AV QQ H locs hQQ X Y hA hin hr hlk hml hl KS KR => ?_)
  have hl : lv_has ls 5 [(0, .ref a1), (1, .int (iI a2)), (2, .int (iI a3))] := hl
  have S : tS E T (tFr κ L [] []) κ L f κ L f := tS_rf hw
  refine lv_aload_n X.1 X.2.1 d_So_isAddress_0 rfl (lv_at hl 0 rfl) ?_
  refine lv_iload_n X.1 X.2.1 d_So_isAddress_1 rfl (lv_at hl 1 rfl) ?_
  refine lv_iconst (v := iI 1) X.1 X.2.1 d_So_isAddress_2 (by decide) ?_
  refine t_ui (t_runV (As := [.int (iI a2), .int (iI 1)]) (rest := []) (n := 2) X Y S k1 hml hl.1 (c_By_field l D E T κ L f H.size a1 n1 k1 (by omega) a2 (by omega) (by omega) 1 (by omega) (by omega) S.1) (ok_k X Y hA KS KR) rfl kl_So_By_field ks_By_field kx_By_field ki_By_field ini_By ⟨rfl, rfl⟩ hd_By_field ⟨Nat.le_of_ble_eq_true rfl, Nat.le_of_ble_eq_true rfl⟩ rfl (Nat.le_of_ble_eq_true rfl) d_So_isAddress_3 ⟨Nat.le_of_ble_eq_true rfl, Nat.le_of_ble_eq_true rfl⟩) X Y hA (fun z1 H locs Y p1 => ?_)
  obtain ⟨l1, u1⟩ := p1
  refine lv_istore_n (lv' := [(3, .int (iI z1)), (0, .ref a1), (1, .int (iI a2)), (2, .int (iI a3))]) X.1 X.2.1 d_So_isAddress_6 rfl hl (by decide) rfl (fun ls hl => ?_)
  refine lv_aload_n X.1 X.2.1 d_So_isAddress_7 rfl (lv_at hl 1 rfl) ?_
  refine lv_iload_n X.1 X.2.1 d_So_isAddress_8 rfl (lv_at hl 0 rfl) ?_
  obtain ⟨z2, e2, l2, u2⟩ := t_size S k1
  refine t_ui (t_runV (As := [.int (iI z1)]) (rest := []) (n := 1) X Y S k1 hml hl.1 (c_By_body l D E T κ L f H.size a1 n1 k1 (by omega) z1 (by omega) (by omega) S.1 z2 e2 (by omega) (by omega)) (ok_k X Y hA KS KR) rfl kl_So_By_body ks_By_body kx_By_body ki_By_body ini_By ⟨rfl, rfl⟩ hd_By_body ⟨Nat.le_of_ble_eq_true rfl, Nat.le_of_ble_eq_true rfl⟩ rfl (Nat.le_of_ble_eq_true rfl) d_So_isAddress_9 ⟨Nat.le_of_ble_eq_true rfl, Nat.le_of_ble_eq_true rfl⟩) X Y hA (fun z3 H locs Y p3 => ?_)
  obtain ⟨l3, u3, x3⟩ := p3
  refine lv_istore (lv' := [(4, .int (iI z3)), (3, .int (iI z1)), (0, .ref a1), (1, .int (iI a2)), (2, .int (iI a3))]) X.1 X.2.1 d_So_isAddress_12 hl (by decide) rfl (fun ls hl => ?_)
  refine lv_aload_n X.1 X.2.1 d_So_isAddress_14 rfl (lv_at hl 2 rfl) ?_
  refine lv_aload_n X.1 X.2.1 d_So_isAddress_15 rfl (lv_at hl 2 rfl) ?_
  refine lv_iload_n X.1 X.2.1 d_So_isAddress_16 rfl (lv_at hl 3 rfl) ?_
  refine lv_iconst (v := iI 0) X.1 X.2.1 d_So_isAddress_17 (by decide) ?_
  refine t_ui (t_runV (As := [.int (iI a2), .int (iI 0)]) (rest := [.ref a1]) (n := 2) X Y S k1 hml hl.1 (c_By_field l D E T κ L f H.size a1 n1 k1 (by omega) a2 (by omega) (by omega) 0 (by omega) (by omega) S.1) (ok_k X Y hA KS KR) rfl kl_So_By_field ks_By_field kx_By_field ki_By_field ini_By ⟨rfl, rfl⟩ hd_By_field ⟨Nat.le_of_ble_eq_true rfl, Nat.le_of_ble_eq_true rfl⟩ rfl (Nat.le_of_ble_eq_true rfl) d_So_isAddress_18 ⟨Nat.le_of_ble_eq_true rfl, Nat.le_of_ble_eq_true rfl⟩) X Y hA (fun z4 H locs Y p4 => ?_)
  obtain ⟨l4, u4⟩ := p4
  refine t_ul (t_runV (As := [.int (iI z4)]) (rest := []) (n := 1) X Y S k1 hml hl.1 (c_By_numberAt l D E T κ L f H.size a1 n1 k1 (by omega) z4 (by omega) (by omega) S.1) (ok_k X Y hA KS KR) rfl kl_So_By_numberAt ks_By_numberAt kx_By_numberAt ki_By_numberAt ini_By ⟨rfl, rfl⟩ hd_By_numberAt ⟨Nat.le_of_ble_eq_true rfl, Nat.le_of_ble_eq_true rfl⟩ rfl (Nat.le_of_ble_eq_true rfl) d_So_isAddress_21 ⟨Nat.le_of_ble_eq_true rfl, Nat.le_of_ble_eq_true rfl⟩) X Y hA (fun v5 H locs Y p5 => ?_)
  refine lv_ldc2 (v := (2)) X.1 X.2.1 X.2.2.2.1 (X.2.2.1 _ cl_So_217) d_So_isAddress_24 ?_
  refine W.lcmp X.1 X.2.1 d_So_isAddress_27 ?_
  refine t_u (fun z6 l6 u6 => ?_)
  refine z_if_ne (tgt := 96) X.1 X.2.1 d_So_isAddress_28 (by decide) ⟨by omega, by omega⟩ (fun h7 => ?_) (fun h7 => ?_)
  · refine lv_iconst (v := iI 0) X.1 X.2.1 d_So_isAddress_96 (by decide) ?_
    exact c_retz hQQ X Y hr hlk (iI_bool (by omega) (by omega)).1 ⟨rfl, rfl, 0, rfl, ⟨by omega, by omega⟩⟩ d_So_isAddress_97
  · refine lv_aload_n X.1 X.2.1 d_So_isAddress_31 rfl (lv_at hl 2 rfl) ?_
    refine lv_iload_n X.1 X.2.1 d_So_isAddress_32 rfl (lv_at hl 1 rfl) ?_
    refine lv_aload_n X.1 X.2.1 d_So_isAddress_33 rfl (lv_at hl 2 rfl) ?_
    refine t_get0 (ci := 3) X Y S k1 rfl i_By 1 (by decide) rfl lk_So_141 (fun _ h9 => h9) d_So_isAddress_34 e2 ?_
    refine t_ui (t_runV (As := [.int (iI z1), .int (iI z2)]) (rest := []) (n := 2) X Y S k1 hml hl.1 (c_By_stop l D E T κ L f H.size a1 n1 k1 (by omega) z1 (by omega) (by omega) z2 (by omega) (by omega) S.1 z2 e2 (by omega) (by omega)) (ok_k X Y hA KS KR) rfl kl_So_By_stop ks_By_stop kx_By_stop ki_By_stop ini_By ⟨rfl, rfl⟩ hd_By_stop ⟨Nat.le_of_ble_eq_true rfl, Nat.le_of_ble_eq_true rfl⟩ rfl (Nat.le_of_ble_eq_true rfl) d_So_isAddress_37 ⟨Nat.le_of_ble_eq_true rfl, Nat.le_of_ble_eq_true rfl⟩) X Y hA (fun z8 H locs Y p8 => ?_)
    obtain ⟨l8, u8, x8⟩ := p8
    refine lv_iload X.1 X.2.1 d_So_isAddress_40 (lv_at hl 0 rfl) ?_
    refine z_isub X.1 X.2.1 d_So_isAddress_42 ?_
    refine lv_iconst (v := iI 4) X.1 X.2.1 d_So_isAddress_43 (by decide) ?_
    refine z_icmp_ne (tgt := 96) X.1 X.2.1 d_So_isAddress_44 (by decide) ⟨by omega, by omega⟩ ⟨by omega, by omega⟩ (fun h9 => ?_) (fun h9 => ?_)
    · refine lv_iconst (v := iI 0) X.1 X.2.1 d_So_isAddress_96 (by decide) ?_
      exact c_retz hQQ X Y hr hlk (iI_bool (by omega) (by omega)).1 ⟨rfl, rfl, 0, rfl, ⟨by omega, by omega⟩⟩ d_So_isAddress_97
    · refine lv_aload_n X.1 X.2.1 d_So_isAddress_47 rfl (lv_at hl 2 rfl) ?_
      refine lv_iload X.1 X.2.1 d_So_isAddress_48 (lv_at hl 0 rfl) ?_
      refine t_ui (t_runV (As := [.int (iI z3)]) (rest := []) (n := 1) X Y S k1 hml hl.1 (c_By_at l D E T κ L f H.size a1 n1 k1 (by omega) z3 (by omega) (by omega) S.1) (ok_k X Y hA KS KR) rfl kl_So_By_at ks_By_at kx_By_at ki_By_at ini_By ⟨rfl, rfl⟩ hd_By_at ⟨Nat.le_of_ble_eq_true rfl, Nat.le_of_ble_eq_true rfl⟩ rfl (Nat.le_of_ble_eq_true rfl) d_So_isAddress_50 ⟨Nat.le_of_ble_eq_true rfl, Nat.le_of_ble_eq_true rfl⟩) X Y hA (fun z10 H locs Y p10 => ?_)
      obtain ⟨l10, u10⟩ := p10
      refine lv_bipush (v := iI 10) X.1 X.2.1 d_So_isAddress_53 (by decide) ?_
      refine z_icmp_ne (tgt := 96) X.1 X.2.1 d_So_isAddress_55 (by decide) ⟨by omega, by omega⟩ ⟨by omega, by omega⟩ (fun h11 => ?_) (fun h11 => ?_)
      · refine lv_iconst (v := iI 0) X.1 X.2.1 d_So_isAddress_96 (by decide) ?_
        exact c_retz hQQ X Y hr hlk (iI_bool (by omega) (by omega)).1 ⟨rfl, rfl, 0, rfl, ⟨by omega, by omega⟩⟩ d_So_isAddress_97
      · refine lv_aload_n X.1 X.2.1 d_So_isAddress_58 rfl (lv_at hl 2 rfl) ?_
        refine lv_iload X.1 X.2.1 d_So_isAddress_59 (lv_at hl 0 rfl) ?_
        refine lv_iconst (v := iI 1) X.1 X.2.1 d_So_isAddress_61 (by decide) ?_
        refine z_iadd X.1 X.2.1 d_So_isAddress_62 ?_
        refine t_ui (t_runV (As := [.int (iI (z3 + 1))]) (rest := []) (n := 1) X Y S k1 hml hl.1 (c_By_at l D E T κ L f H.size a1 n1 k1 (by omega) (z3 + 1) (by omega) (by omega) S.1) (ok_k X Y hA KS KR) rfl kl_So_By_at ks_By_at kx_By_at ki_By_at ini_By ⟨rfl, rfl⟩ hd_By_at ⟨Nat.le_of_ble_eq_true rfl, Nat.le_of_ble_eq_true rfl⟩ rfl (Nat.le_of_ble_eq_true rfl) d_So_isAddress_63 ⟨Nat.le_of_ble_eq_true rfl, Nat.le_of_ble_eq_true rfl⟩) X Y hA (fun z12 H locs Y p12 => ?_)
        obtain ⟨l12, u12⟩ := p12
        refine z_if_ne (tgt := 96) X.1 X.2.1 d_So_isAddress_66 (by decide) ⟨by omega, by omega⟩ (fun h13 => ?_) (fun h13 => ?_)
        · refine lv_iconst (v := iI 0) X.1 X.2.1 d_So_isAddress_96 (by decide) ?_
          exact c_retz hQQ X Y hr hlk (iI_bool (by omega) (by omega)).1 ⟨rfl, rfl, 0, rfl, ⟨by omega, by omega⟩⟩ d_So_isAddress_97
        · refine lv_aload_n X.1 X.2.1 d_So_isAddress_69 rfl (lv_at hl 2 rfl) ?_
          refine lv_iload X.1 X.2.1 d_So_isAddress_70 (lv_at hl 0 rfl) ?_
          refine lv_iconst (v := iI 2) X.1 X.2.1 d_So_isAddress_72 (by decide) ?_
          refine z_iadd X.1 X.2.1 d_So_isAddress_73 ?_
          refine t_ui (t_runV (As := [.int (iI (z3 + 2))]) (rest := []) (n := 1) X Y S k1 hml hl.1 (c_By_at l D E T κ L f H.size a1 n1 k1 (by omega) (z3 + 2) (by omega) (by omega) S.1) (ok_k X Y hA KS KR) rfl kl_So_By_at ks_By_at kx_By_at ki_By_at ini_By ⟨rfl, rfl⟩ hd_By_at ⟨Nat.le_of_ble_eq_true rfl, Nat.le_of_ble_eq_true rfl⟩ rfl (Nat.le_of_ble_eq_true rfl) d_So_isAddress_74 ⟨Nat.le_of_ble_eq_true rfl, Nat.le_of_ble_eq_true rfl⟩) X Y hA (fun z14 H locs Y p14 => ?_)
          obtain ⟨l14, u14⟩ := p14
          refine z_if_ne (tgt := 96) X.1 X.2.1 d_So_isAddress_77 (by decide) ⟨by omega, by omega⟩ (fun h15 => ?_) (fun h15 => ?_)
          · refine lv_iconst (v := iI 0) X.1 X.2.1 d_So_isAddress_96 (by decide) ?_
            exact c_retz hQQ X Y hr hlk (iI_bool (by omega) (by omega)).1 ⟨rfl, rfl, 0, rfl, ⟨by omega, by omega⟩⟩ d_So_isAddress_97
          · refine lv_aload_n X.1 X.2.1 d_So_isAddress_80 rfl (lv_at hl 2 rfl) ?_
            refine lv_iload X.1 X.2.1 d_So_isAddress_81 (lv_at hl 0 rfl) ?_
            refine lv_iconst (v := iI 3) X.1 X.2.1 d_So_isAddress_83 (by decide) ?_
            refine z_iadd X.1 X.2.1 d_So_isAddress_84 ?_
            refine t_ui (t_runV (As := [.int (iI (z3 + 3))]) (rest := []) (n := 1) X Y S k1 hml hl.1 (c_By_at l D E T κ L f H.size a1 n1 k1 (by omega) (z3 + 3) (by omega) (by omega) S.1) (ok_k X Y hA KS KR) rfl kl_So_By_at ks_By_at kx_By_at ki_By_at ini_By ⟨rfl, rfl⟩ hd_By_at ⟨Nat.le_of_ble_eq_true rfl, Nat.le_of_ble_eq_true rfl⟩ rfl (Nat.le_of_ble_eq_true rfl) d_So_isAddress_85 ⟨Nat.le_of_ble_eq_true rfl, Nat.le_of_ble_eq_true rfl⟩) X Y hA (fun z16 H locs Y p16 => ?_)
            obtain ⟨l16, u16⟩ := p16
            refine lv_iload_n X.1 X.2.1 d_So_isAddress_88 rfl (lv_at hl 4 rfl) ?_
            refine z_icmp_ne (tgt := 96) X.1 X.2.1 d_So_isAddress_89 (by decide) ⟨by omega, by omega⟩ ⟨by omega, by omega⟩ (fun h17 => ?_) (fun h17 => ?_)
            · refine lv_iconst (v := iI 0) X.1 X.2.1 d_So_isAddress_96 (by decide) ?_
              exact c_retz hQQ X Y hr hlk (iI_bool (by omega) (by omega)).1 ⟨rfl, rfl, 0, rfl, ⟨by omega, by omega⟩⟩ d_So_isAddress_97
            · refine lv_iconst (v := iI 1) X.1 X.2.1 d_So_isAddress_92 (by decide) ?_
              refine lv_goto (tgt := 97) X.1 X.2.1 d_So_isAddress_93 (by decide) ?_
              exact c_retz hQQ X Y hr hlk (iI_bool (by omega) (by omega)).1 ⟨rfl, rfl, 1, rfl, ⟨by omega, by omega⟩⟩ d_So_isAddress_97
set_option maxHeartbeats 4000000 in
set_option maxRecDepth 100000 in
theorem c_So_hearData (l : Launch) (D : va_G) (E : cE) (T : cT) (κ : tK) (L : List Nat) (f : pF) (sz : Nat) (h : Nat) (k0 : κ h = (19, 0)) (a1 : Int) (l_a1 : 0 ≤ a1) (u_a1 : a1 ≤ 1) (a2 : Int) (l_a2 : (-2147483648) ≤ a2) (u_a2 : a2 ≤ 2147483647) (a3 n3 : Nat) (k3 : κ a3 = (13, n3)) (x3 : n3 ≤ 12288) (a4 : Int) (l_a4 : (-1) ≤ a4) (u_a4 : a4 ≤ 20200) (a5 n5 : Nat) (k5 : κ a5 = (13, n5)) (x5 : n5 ≤ 12288) (hw : tW E T κ L f) : Met l y_So_hearData (k_So_hearData :: lw_tg) (kRm 4 136 0 0) (va_Pc [.ref h, .int (iI a1), .int (iI a2), .ref a3, .int (iI a4), .ref a5] (kPre D E T L f sz)) (va_Qi (nPi E T [1, 2, 3, 4, 13] κ L f (fun (z : Int) (g : pF) => (-2147483648) ≤ z ∧ z ≤ 2147483647)) (cPost D E (pA L sz)) (pA L sz)) 0 0 (pA L sz) := by
  refine k_enter (own := R_So) (by decide) rfl (Nat.le_of_ble_eq_true rfl) (fun p e s m below meth c ls AV QQ H locs hQQ X Y hA hin hr hlk hml hl KS KR => ?_)
  have hl : lv_has ls 10 [(0, .ref h), (1, .int (iI a1)), (2, .int (iI a2)), (3, .ref a3), (4, .int (iI a4)), (5, .ref a5)] := hl
  have S : tS E T (tFr κ L [1, 2, 3, 4, 13] []) κ L f κ L f := tS_rf hw
  refine lv_aload_n X.1 X.2.1 d_So_hearData_0 rfl (lv_at hl 3 rfl) ?_
  refine lv_aload_n X.1 X.2.1 d_So_hearData_1 rfl (lv_at hl 3 rfl) ?_
  refine lv_iload X.1 X.2.1 d_So_hearData_2 (lv_at hl 4 rfl) ?_
  refine lv_iconst (v := iI 1) X.1 X.2.1 d_So_hearData_4 (by decide) ?_
  refine t_ui (t_runV (As := [.int (iI a4), .int (iI 1)]) (rest := [.ref a3]) (n := 2) X Y S k3 hml hl.1 (c_By_field l D E T κ L f H.size a3 n3 k3 (by omega) a4 (by omega) (by omega) 1 (by omega) (by omega) S.1) (ok_k X Y hA KS KR) rfl kl_So_By_field ks_By_field kx_By_field ki_By_field ini_By ⟨rfl, rfl⟩ hd_By_field ⟨Nat.le_of_ble_eq_true rfl, Nat.le_of_ble_eq_true rfl⟩ rfl (Nat.le_of_ble_eq_true rfl) d_So_hearData_5 ⟨Nat.le_of_ble_eq_true rfl, Nat.le_of_ble_eq_true rfl⟩) X Y hA (fun z1 H locs Y p1 => ?_)
  obtain ⟨l1, u1⟩ := p1
  refine t_ui (t_runV (As := [.int (iI z1)]) (rest := []) (n := 1) X Y S k3 hml hl.1 (c_By_timeAt l D E T κ L f H.size a3 n3 k3 (by omega) z1 (by omega) (by omega) S.1) (ok_k X Y hA KS KR) rfl kl_So_By_timeAt ks_By_timeAt kx_By_timeAt ki_By_timeAt ini_By ⟨rfl, rfl⟩ hd_By_timeAt ⟨Nat.le_of_ble_eq_true rfl, Nat.le_of_ble_eq_true rfl⟩ rfl (Nat.le_of_ble_eq_true rfl) d_So_hearData_8 ⟨Nat.le_of_ble_eq_true rfl, Nat.le_of_ble_eq_true rfl⟩) X Y hA (fun z2 H locs Y p2 => ?_)
  obtain ⟨l2, u2⟩ := p2
  refine lv_istore (lv' := [(6, .int (iI z2)), (0, .ref h), (1, .int (iI a1)), (2, .int (iI a2)), (3, .ref a3), (4, .int (iI a4)), (5, .ref a5)]) X.1 X.2.1 d_So_hearData_11 hl (by decide) rfl (fun ls hl => ?_)
  refine lv_iload X.1 X.2.1 d_So_hearData_13 (lv_at hl 0 rfl) ?_
  refine z_if_lt (tgt := 31) X.1 X.2.1 d_So_hearData_15 (by decide) ⟨by omega, by omega⟩ (fun h3 => ?_) (fun h3 => ?_)
  · refine lv_bipush (v := iI (-37)) X.1 X.2.1 d_So_hearData_31 (by decide) ?_
    exact c_reti hQQ X Y hr hlk ⟨rfl, S, (-37), rfl, ⟨by omega, by omega⟩⟩ d_So_hearData_33
  · refine lv_iload X.1 X.2.1 d_So_hearData_18 (lv_at hl 0 rfl) ?_
    refine lv_iload_n X.1 X.2.1 d_So_hearData_20 rfl (lv_at hl 3 rfl) ?_
    refine lv_isub X.1 X.2.1 d_So_hearData_21 ?_
    refine t_u (fun z4 l4 u4 => ?_)
    refine va_mabs X.1 X.2.1 (hml.trans hl.1.symm) X.2.2.2.1 (X.2.2.1 _ kl_So_mabs) (X.2.2.1 _ ks_mabs) (X.2.2.1 _ ini_Math) (X.2.2.1 _ ki_mabs) (Nat.le_of_ble_eq_true rfl) (Nat.le_of_ble_eq_true rfl) (Nat.le_of_ble_eq_true rfl) (Nat.le_of_ble_eq_true rfl) d_So_hearData_22 ?_
    refine t_u (fun z5 l5 u5 => ?_)
    refine lv_sipush (v := iI 300) X.1 X.2.1 d_So_hearData_25 (by decide) ?_
    refine z_icmp_le (tgt := 34) X.1 X.2.1 d_So_hearData_28 (by decide) ⟨by omega, by omega⟩ ⟨by omega, by omega⟩ (fun h6 => ?_) (fun h6 => ?_)
    · refine lv_aload_n X.1 X.2.1 d_So_hearData_34 rfl (lv_at hl 4 rfl) ?_
      refine lv_aload_n X.1 X.2.1 d_So_hearData_35 rfl (lv_at hl 4 rfl) ?_
      refine lv_iload X.1 X.2.1 d_So_hearData_36 (lv_at hl 5 rfl) ?_
      refine lv_iconst (v := iI 4) X.1 X.2.1 d_So_hearData_38 (by decide) ?_
      refine t_ui (t_runV (As := [.int (iI a4), .int (iI 4)]) (rest := [.ref a3]) (n := 2) X Y S k3 hml hl.1 (c_By_field l D E T κ L f H.size a3 n3 k3 (by omega) a4 (by omega) (by omega) 4 (by omega) (by omega) S.1) (ok_k X Y hA KS KR) rfl kl_So_By_field ks_By_field kx_By_field ki_By_field ini_By ⟨rfl, rfl⟩ hd_By_field ⟨Nat.le_of_ble_eq_true rfl, Nat.le_of_ble_eq_true rfl⟩ rfl (Nat.le_of_ble_eq_true rfl) d_So_hearData_39 ⟨Nat.le_of_ble_eq_true rfl, Nat.le_of_ble_eq_true rfl⟩) X Y hA (fun z7 H locs Y p7 => ?_)
      obtain ⟨l7, u7⟩ := p7
      refine lv_iconst (v := iI 1) X.1 X.2.1 d_So_hearData_42 (by decide) ?_
      refine lv_iload_n X.1 X.2.1 d_So_hearData_43 rfl (lv_at hl 2 rfl) ?_
      refine z_isub X.1 X.2.1 d_So_hearData_44 ?_
      refine t_ui (x_runS (As := [.ref a3, .int (iI z7), .int (iI (1 - a1))]) (rest := []) (n := 3) X hml hl.1 (c_So_isAddress l D E T κ L f H.size a3 n3 k3 (by omega) z7 (by omega) (by omega) (1 - a1) (by omega) (by omega) S.1) (ok_k X Y hA KS KR) kl_So_So_isAddress ks_So_isAddress ki_So_isAddress ini_So ⟨rfl, rfl⟩ hd_So_isAddress.2 ⟨Nat.le_of_ble_eq_true rfl, Nat.le_of_ble_eq_true rfl⟩ rfl (Nat.le_of_ble_eq_true rfl) d_So_hearData_45 ⟨Nat.le_of_ble_eq_true rfl, Nat.le_of_ble_eq_true rfl⟩) X Y hA (fun z8 H locs Y p8 => ?_)
      obtain ⟨l8, u8⟩ := p8
      refine z_if_ne (tgt := 54) X.1 X.2.1 d_So_hearData_48 (by decide) ⟨by omega, by omega⟩ (fun h9 => ?_) (fun h9 => ?_)
      · refine lv_aload_n X.1 X.2.1 d_So_hearData_54 rfl (lv_at hl 4 rfl) ?_
        refine lv_iload X.1 X.2.1 d_So_hearData_55 (lv_at hl 5 rfl) ?_
        refine lv_iconst (v := iI 3) X.1 X.2.1 d_So_hearData_57 (by decide) ?_
        refine t_ui (t_runV (As := [.int (iI a4), .int (iI 3)]) (rest := []) (n := 2) X Y S k3 hml hl.1 (c_By_field l D E T κ L f H.size a3 n3 k3 (by omega) a4 (by omega) (by omega) 3 (by omega) (by omega) S.1) (ok_k X Y hA KS KR) rfl kl_So_By_field ks_By_field kx_By_field ki_By_field ini_By ⟨rfl, rfl⟩ hd_By_field ⟨Nat.le_of_ble_eq_true rfl, Nat.le_of_ble_eq_true rfl⟩ rfl (Nat.le_of_ble_eq_true rfl) d_So_hearData_58 ⟨Nat.le_of_ble_eq_true rfl, Nat.le_of_ble_eq_true rfl⟩) X Y hA (fun z10 H locs Y p10 => ?_)
        obtain ⟨l10, u10⟩ := p10
        refine lv_istore (lv' := [(7, .int (iI z10)), (6, .int (iI z2)), (0, .ref h), (1, .int (iI a1)), (2, .int (iI a2)), (3, .ref a3), (4, .int (iI a4)), (5, .ref a5)]) X.1 X.2.1 d_So_hearData_61 hl (by decide) rfl (fun ls hl => ?_)
        refine lv_iload X.1 X.2.1 d_So_hearData_63 (lv_at hl 0 rfl) ?_
        refine z_if_lt (tgt := 89) X.1 X.2.1 d_So_hearData_65 (by decide) ⟨by omega, by omega⟩ (fun h11 => ?_) (fun h11 => ?_)
        · refine lv_bipush (v := iI (-42)) X.1 X.2.1 d_So_hearData_89 (by decide) ?_
          exact c_reti hQQ X Y hr hlk ⟨rfl, S, (-42), rfl, ⟨by omega, by omega⟩⟩ d_So_hearData_91
        · refine lv_aload_n X.1 X.2.1 d_So_hearData_68 rfl (lv_at hl 5 rfl) ?_
          refine lv_iload X.1 X.2.1 d_So_hearData_69 (lv_at hl 0 rfl) ?_
          refine t_ul (t_runV (As := [.int (iI z10)]) (rest := []) (n := 1) X Y S k3 hml hl.1 (c_By_numberAt l D E T κ L f H.size a3 n3 k3 (by omega) z10 (by omega) (by omega) S.1) (ok_k X Y hA KS KR) rfl kl_So_By_numberAt ks_By_numberAt kx_By_numberAt ki_By_numberAt ini_By ⟨rfl, rfl⟩ hd_By_numberAt ⟨Nat.le_of_ble_eq_true rfl, Nat.le_of_ble_eq_true rfl⟩ rfl (Nat.le_of_ble_eq_true rfl) d_So_hearData_71 ⟨Nat.le_of_ble_eq_true rfl, Nat.le_of_ble_eq_true rfl⟩) X Y hA (fun v12 H locs Y p12 => ?_)
          refine lv_aload_n X.1 X.2.1 d_So_hearData_74 rfl (lv_at hl 2 rfl) ?_
          refine t_getr (ci := 9) X Y S k0 rfl i_So 9 (by decide) rfl (k1 := 2) (k2 := 2) rfl rfl lk_So_29 (fun _ h9 => h9) d_So_hearData_75 (fun b13 e13 k13 => ?_)
          refine lv_iload_n X.1 X.2.1 d_So_hearData_78 rfl (lv_at hl 3 rfl) ?_
          refine t_iald2 X Y S k13 (by omega) (by omega) (by omega) d_So_hearData_79 (fun z14 l14 u14 => ?_)
          refine lv_i2l X.1 X.2.1 d_So_hearData_80 rfl ?_
          refine t_anyl (fun v15 => ?_)
          refine lv_ldc2 (v := (4294967295)) X.1 X.2.1 X.2.2.2.1 (X.2.2.1 _ cl_So_148) d_So_hearData_81 ?_
          refine lv_land X.1 X.2.1 d_So_hearData_84 ?_
          refine t_anyl (fun v16 => ?_)
          refine W.lcmp X.1 X.2.1 d_So_hearData_85 ?_
          refine t_u (fun z17 l17 u17 => ?_)
          refine z_if_eq (tgt := 92) X.1 X.2.1 d_So_hearData_86 (by decide) ⟨by omega, by omega⟩ (fun h18 => ?_) (fun h18 => ?_)
          · refine lv_aload_n X.1 X.2.1 d_So_hearData_92 rfl (lv_at hl 2 rfl) ?_
            refine t_get0 (ci := 9) X Y S k0 rfl i_So 9 (by decide) rfl lk_So_29 (fun _ h9 => h9) d_So_hearData_93 e13 ?_
            refine lv_iload_n X.1 X.2.1 d_So_hearData_96 rfl (lv_at hl 3 rfl) ?_
            refine lv_dup2_11 X.1 X.2.1 d_So_hearData_97 rfl rfl ?_
            refine t_iald2 X Y S k13 (by omega) (by omega) (by omega) d_So_hearData_98 (fun z19 l19 u19 => ?_)
            refine lv_iconst (v := iI 1) X.1 X.2.1 d_So_hearData_99 (by decide) ?_
            refine lv_iadd X.1 X.2.1 d_So_hearData_100 ?_
            refine t_u (fun z20 l20 u20 => ?_)
            refine t_iast2 X Y S k13 (by omega) (by omega) (by omega) (fun h9 => h9.2.1 (by rw [← (S.2.2.2 _ h9).2, k13]; decide)) d_So_hearData_101 (fun f21 H locs Y S w21 => ?_)
            refine lv_aload_n X.1 X.2.1 d_So_hearData_102 rfl (lv_at hl 5 rfl) ?_
            refine lv_iload X.1 X.2.1 d_So_hearData_103 (lv_at hl 6 rfl) ?_
            refine lv_iconst (v := iI 0) X.1 X.2.1 d_So_hearData_105 (by decide) ?_
            refine t_ui (t_runV (As := [.int (iI a4), .int (iI 0)]) (rest := []) (n := 2) X Y S k3 hml hl.1 (c_By_field l D E T κ L f21 H.size a3 n3 k3 (by omega) a4 (by omega) (by omega) 0 (by omega) (by omega) S.1) (ok_k X Y hA KS KR) rfl kl_So_By_field ks_By_field kx_By_field ki_By_field ini_By ⟨rfl, rfl⟩ hd_By_field ⟨Nat.le_of_ble_eq_true rfl, Nat.le_of_ble_eq_true rfl⟩ rfl (Nat.le_of_ble_eq_true rfl) d_So_hearData_106 ⟨Nat.le_of_ble_eq_true rfl, Nat.le_of_ble_eq_true rfl⟩) X Y hA (fun z22 H locs Y p22 => ?_)
            obtain ⟨l22, u22⟩ := p22
            refine lv_istore (lv' := [(8, .int (iI z22)), (7, .int (iI z10)), (6, .int (iI z2)), (0, .ref h), (1, .int (iI a1)), (2, .int (iI a2)), (3, .ref a3), (4, .int (iI a4)), (5, .ref a5)]) X.1 X.2.1 d_So_hearData_109 hl (by decide) rfl (fun ls hl => ?_)
            refine lv_aload_n X.1 X.2.1 d_So_hearData_111 rfl (lv_at hl 6 rfl) ?_
            refine lv_iload X.1 X.2.1 d_So_hearData_112 (lv_at hl 0 rfl) ?_
            obtain ⟨z23, e23, l23, u23⟩ := t_size S k3
            refine t_ui (t_runV (As := [.int (iI z22)]) (rest := []) (n := 1) X Y S k3 hml hl.1 (c_By_body l D E T κ L f21 H.size a3 n3 k3 (by omega) z22 (by omega) (by omega) S.1 z23 e23 (by omega) (by omega)) (ok_k X Y hA KS KR) rfl kl_So_By_body ks_By_body kx_By_body ki_By_body ini_By ⟨rfl, rfl⟩ hd_By_body ⟨Nat.le_of_ble_eq_true rfl, Nat.le_of_ble_eq_true rfl⟩ rfl (Nat.le_of_ble_eq_true rfl) d_So_hearData_114 ⟨Nat.le_of_ble_eq_true rfl, Nat.le_of_ble_eq_true rfl⟩) X Y hA (fun z24 H locs Y p24 => ?_)
            obtain ⟨l24, u24, x24⟩ := p24
            refine lv_istore (lv' := [(9, .int (iI z24)), (8, .int (iI z22)), (7, .int (iI z10)), (6, .int (iI z2)), (0, .ref h), (1, .int (iI a1)), (2, .int (iI a2)), (3, .ref a3), (4, .int (iI a4)), (5, .ref a5)]) X.1 X.2.1 d_So_hearData_117 hl (by decide) rfl (fun ls hl => ?_)
            refine lv_aload X.1 X.2.1 d_So_hearData_119 (lv_at hl 9 rfl) ?_
            refine t_nv (t_runV (As := []) (rest := []) (n := 0) X Y S k5 hml hl.1 (c_By_clear l D E T κ L f21 H.size a5 n5 k5 (by omega) S.1) (ok_k X Y hA KS KR) rfl kl_So_By_clear ks_By_clear kx_By_clear ki_By_clear ini_By ⟨rfl, rfl⟩ hd_By_clear ⟨Nat.le_of_ble_eq_true rfl, Nat.le_of_ble_eq_true rfl⟩ rfl (Nat.le_of_ble_eq_true rfl) d_So_hearData_121 ⟨Nat.le_of_ble_eq_true rfl, Nat.le_of_ble_eq_true rfl⟩) X Y hA S (by decide) (fun f25 H locs Y S s25 p25 => ?_)
            refine lv_aload X.1 X.2.1 d_So_hearData_124 (lv_at hl 9 rfl) ?_
            refine lv_aload_n X.1 X.2.1 d_So_hearData_126 rfl (lv_at hl 7 rfl) ?_
            refine t_getrow (ci := 3) X Y S k3 rfl i_By 0 (by decide) rfl lk_So_138 (fun _ h9 => h9) d_So_hearData_127 (fun b26 e26 k26 => ?_)
            refine lv_iload X.1 X.2.1 d_So_hearData_130 (lv_at hl 0 rfl) ?_
            refine lv_aload_n X.1 X.2.1 d_So_hearData_132 rfl (lv_at hl 7 rfl) ?_
            refine lv_iload X.1 X.2.1 d_So_hearData_133 (lv_at hl 1 rfl) ?_
            refine lv_aload_n X.1 X.2.1 d_So_hearData_135 rfl (lv_at hl 7 rfl) ?_
            refine t_gets (ci := 3) X Y S k3 rfl i_By 1 (by decide) rfl lk_So_141 (fun _ h9 => h9) d_So_hearData_136 (fun z27 e27 l27 u27 => ?_)
            refine t_ui (t_runV (As := [.int (iI z22), .int (iI z27)]) (rest := [.int (iI z24), .ref b26, .ref a5]) (n := 2) X Y S k3 hml hl.1 (c_By_stop l D E T κ L f25 H.size a3 n3 k3 (by omega) z22 (by omega) (by omega) z27 (by omega) (by omega) S.1 z27 e27 (by omega) (by omega)) (ok_k X Y hA KS KR) rfl kl_So_By_stop ks_By_stop kx_By_stop ki_By_stop ini_By ⟨rfl, rfl⟩ hd_By_stop ⟨Nat.le_of_ble_eq_true rfl, Nat.le_of_ble_eq_true rfl⟩ rfl (Nat.le_of_ble_eq_true rfl) d_So_hearData_139 ⟨Nat.le_of_ble_eq_true rfl, Nat.le_of_ble_eq_true rfl⟩) X Y hA (fun z28 H locs Y p28 => ?_)
            obtain ⟨l28, u28, x28⟩ := p28
            refine lv_iload X.1 X.2.1 d_So_hearData_142 (lv_at hl 0 rfl) ?_
            refine z_isub X.1 X.2.1 d_So_hearData_144 ?_
            refine t_nv (t_runV (As := [.ref b26, .int (iI z24), .int (iI (z28 - z24))]) (rest := []) (n := 3) X Y S k5 hml hl.1 (c_By_append l D E T κ L f25 H.size a5 n5 k5 (by omega) b26 n3 (Or.inl k26) (by omega) z24 (by omega) (by omega) (z28 - z24) (by omega) (by omega) S.1) (ok_k X Y hA KS KR) rfl kl_So_By_append ks_By_append kx_By_append ki_By_append ini_By ⟨rfl, rfl⟩ hd_By_append ⟨Nat.le_of_ble_eq_true rfl, Nat.le_of_ble_eq_true rfl⟩ rfl (Nat.le_of_ble_eq_true rfl) d_So_hearData_145 ⟨Nat.le_of_ble_eq_true rfl, Nat.le_of_ble_eq_true rfl⟩) X Y hA S (by decide) (fun f29 H locs Y S s29 p29 => ?_)
            refine lv_aload X.1 X.2.1 d_So_hearData_148 (lv_at hl 9 rfl) ?_
            refine t_gets (ci := 3) X Y S k5 rfl i_By 1 (by decide) rfl lk_So_141 (fun _ h9 => h9) d_So_hearData_150 (fun z30 e30 l30 u30 => ?_)
            exact c_reti hQQ X Y hr hlk ⟨rfl, S, z30, rfl, ⟨by omega, by omega⟩⟩ d_So_hearData_153
          · refine lv_bipush (v := iI (-42)) X.1 X.2.1 d_So_hearData_89 (by decide) ?_
            exact c_reti hQQ X Y hr hlk ⟨rfl, S, (-42), rfl, ⟨by omega, by omega⟩⟩ d_So_hearData_91
      · refine lv_bipush (v := iI (-38)) X.1 X.2.1 d_So_hearData_51 (by decide) ?_
        exact c_reti hQQ X Y hr hlk ⟨rfl, S, (-38), rfl, ⟨by omega, by omega⟩⟩ d_So_hearData_53
    · refine lv_bipush (v := iI (-37)) X.1 X.2.1 d_So_hearData_31 (by decide) ?_
      exact c_reti hQQ X Y hr hlk ⟨rfl, S, (-37), rfl, ⟨by omega, by omega⟩⟩ d_So_hearData_33
set_option maxHeartbeats 4000000 in
set_option maxRecDepth 100000 in
theorem c_So_hearPrivate (l : Launch) (D : va_G) (E : cE) (T : cT) (κ : tK) (L : List Nat) (f : pF) (sz : Nat) (h : Nat) (k0 : κ h = (19, 0)) (a1 : Int) (l_a1 : 0 ≤ a1) (u_a1 : a1 ≤ 1) (a2 : Int) (l_a2 : (-2147483648) ≤ a2) (u_a2 : a2 ≤ 2147483647) (a3 n3 : Nat) (k3 : κ a3 = (13, n3)) (x3 : n3 ≤ 12288) (a4 n4 : Nat) (k4 : κ a4 = (13, n4)) (x4 : n4 ≤ 12288) (hw : tW E T κ L f) : Met l y_So_hearPrivate (k_So_hearPrivate :: lw_tg) (kRm 72 2385 0 0) (va_Pc [.ref h, .int (iI a1), .int (iI a2), .ref a3, .ref a4] (kPre D E T L f sz)) (va_Qi (nPi E T [1, 2, 3, 4, 11, 13, 16] κ L f (fun (z : Int) (g : pF) => (-2147483648) ≤ z ∧ z ≤ 2147483647)) (cPost D E (pA L sz)) (pA L sz)) 0 0 (pA L sz) := by
  refine k_enter (own := R_So) (by decide) rfl (Nat.le_of_ble_eq_true rfl) (fun p e s m below meth c ls AV QQ H locs hQQ X Y hA hin hr hlk hml hl KS KR => ?_)
  have hl : lv_has ls 7 [(0, .ref h), (1, .int (iI a1)), (2, .int (iI a2)), (3, .ref a3), (4, .ref a4)] := hl
  have S : tS E T (tFr κ L [1, 2, 3, 4, 11, 13, 16] []) κ L f κ L f := tS_rf hw
  refine lv_aload_n X.1 X.2.1 d_So_hearPrivate_0 rfl (lv_at hl 3 rfl) ?_
  refine lv_sipush (v := iI 373) X.1 X.2.1 d_So_hearPrivate_1 (by decide) ?_
  refine lv_bipush (v := iI 21) X.1 X.2.1 d_So_hearPrivate_4 (by decide) ?_
  refine t_ui (x_runS (As := [.ref a3, .int (iI 373), .int (iI 21)]) (rest := []) (n := 3) X hml hl.1 (c_So_judgeHead l D E T κ L f H.size a3 n3 k3 (by omega) 373 (by omega) (by omega) 21 (by omega) (by omega) S.1) (ok_k X Y hA KS KR) kl_So_So_judgeHead ks_So_judgeHead ki_So_judgeHead ini_So ⟨rfl, rfl⟩ hd_So_judgeHead.2 ⟨Nat.le_of_ble_eq_true rfl, Nat.le_of_ble_eq_true rfl⟩ rfl (Nat.le_of_ble_eq_true rfl) d_So_hearPrivate_6 ⟨Nat.le_of_ble_eq_true rfl, Nat.le_of_ble_eq_true rfl⟩) X Y hA (fun z1 H locs Y p1 => ?_)
  obtain ⟨l1, u1⟩ := p1
  refine lv_istore (lv' := [(5, .int (iI z1)), (0, .ref h), (1, .int (iI a1)), (2, .int (iI a2)), (3, .ref a3), (4, .ref a4)]) X.1 X.2.1 d_So_hearPrivate_9 hl (by decide) rfl (fun ls hl => ?_)
  refine lv_iload X.1 X.2.1 d_So_hearPrivate_11 (lv_at hl 0 rfl) ?_
  refine z_if_ge (tgt := 19) X.1 X.2.1 d_So_hearPrivate_13 (by decide) ⟨by omega, by omega⟩ (fun h2 => ?_) (fun h2 => ?_)
  · refine lv_aload_n X.1 X.2.1 d_So_hearPrivate_19 rfl (lv_at hl 1 rfl) ?_
    refine t_getr (ci := 9) X Y S k0 rfl i_So 0 (by decide) rfl (k1 := 21) (k2 := 0) rfl rfl lk_So_35 (fun _ h9 => h9) d_So_hearPrivate_20 (fun b3 e3 k3 => ?_)
    refine t_getr (ci := 11) X Y S k3 rfl i_Va 1 (by decide) rfl (k1 := 13) (k2 := 6144) rfl rfl lk_So_91 (fun _ h9 => h9) d_So_hearPrivate_23 (fun b4 e4 k4 => ?_)
    refine lv_astore (lv' := [(6, .ref b4), (5, .int (iI z1)), (0, .ref h), (1, .int (iI a1)), (2, .int (iI a2)), (3, .ref a3), (4, .ref a4)]) X.1 X.2.1 d_So_hearPrivate_26 hl (by decide) rfl (fun ls hl => ?_)
    refine lv_aload_n X.1 X.2.1 d_So_hearPrivate_28 rfl (lv_at hl 2 rfl) ?_
    refine t_get0 (ci := 9) X Y S k0 rfl i_So 0 (by decide) rfl lk_So_35 (fun _ h9 => h9) d_So_hearPrivate_29 e3 ?_
    refine lv_aload_n X.1 X.2.1 d_So_hearPrivate_32 rfl (lv_at hl 5 rfl) ?_
    refine lv_aload_n X.1 X.2.1 d_So_hearPrivate_33 rfl (lv_at hl 5 rfl) ?_
    refine lv_iconst (v := iI 0) X.1 X.2.1 d_So_hearPrivate_34 (by decide) ?_
    refine lv_iconst (v := iI 3) X.1 X.2.1 d_So_hearPrivate_35 (by decide) ?_
    refine t_ui (t_runV (As := [.int (iI 0), .int (iI 3)]) (rest := [.ref a3, .ref b3]) (n := 2) X Y S k3 hml hl.1 (c_By_field l D E T κ L f H.size a3 n3 k3 (by omega) 0 (by omega) (by omega) 3 (by omega) (by omega) S.1) (ok_k X Y hA KS KR) rfl kl_So_By_field ks_By_field kx_By_field ki_By_field ini_By ⟨rfl, rfl⟩ hd_By_field ⟨Nat.le_of_ble_eq_true rfl, Nat.le_of_ble_eq_true rfl⟩ rfl (Nat.le_of_ble_eq_true rfl) d_So_hearPrivate_36 ⟨Nat.le_of_ble_eq_true rfl, Nat.le_of_ble_eq_true rfl⟩) X Y hA (fun z5 H locs Y p5 => ?_)
    obtain ⟨l5, u5⟩ := p5
    refine lv_aload_n X.1 X.2.1 d_So_hearPrivate_39 rfl (lv_at hl 2 rfl) ?_
    refine t_getk (ci := 9) X Y S k0 rfl i_So 3 (by decide) rfl lk_So_19 (fun _ h9 => h9) d_So_hearPrivate_40 (fun b6 n6 e6 k6 x6 => ?_)
    refine lv_bipush (v := iI 13) X.1 X.2.1 d_So_hearPrivate_43 (by decide) ?_
    refine lv_aload X.1 X.2.1 d_So_hearPrivate_45 (lv_at hl 0 rfl) ?_
    refine t_ni (t_runV (As := [.ref a3, .int (iI z5), .ref b6, .int (iI 13), .ref b4]) (rest := []) (n := 5) X Y S k3 hml hl.1 (c_Va_opens l D E T κ L f H.size b3 k3 a3 n3 k3 (by omega) z5 (by omega) (by omega) b6 n6 k6 (by omega) 13 (by omega) (by omega) b4 6144 k4 (by omega) S.1) (ok_k X Y hA KS KR) rfl kl_So_Va_opens ks_Va_opens kx_Va_opens ki_Va_opens ini_Va ⟨rfl, rfl⟩ hd_Va_opens ⟨Nat.le_of_ble_eq_true rfl, Nat.le_of_ble_eq_true rfl⟩ rfl (Nat.le_of_ble_eq_true rfl) d_So_hearPrivate_47 ⟨Nat.le_of_ble_eq_true rfl, Nat.le_of_ble_eq_true rfl⟩) X Y hA S (by decide) (fun z7 f7 H locs Y S s7 p7 => ?_)
    obtain ⟨l7, u7⟩ := p7
    refine z_if_ne (tgt := 56) X.1 X.2.1 d_So_hearPrivate_50 (by decide) ⟨by omega, by omega⟩ (fun h8 => ?_) (fun h8 => ?_)
    · refine lv_aload X.1 X.2.1 d_So_hearPrivate_56 (lv_at hl 0 rfl) ?_
      refine lv_sipush (v := iI 380) X.1 X.2.1 d_So_hearPrivate_58 (by decide) ?_
      refine lv_iconst (v := iI 0) X.1 X.2.1 d_So_hearPrivate_61 (by decide) ?_
      refine lv_aload X.1 X.2.1 d_So_hearPrivate_62 (lv_at hl 0 rfl) ?_
      refine t_gets (ci := 3) X Y S k4 rfl i_By 1 (by decide) rfl lk_So_141 (fun _ h9 => h9) d_So_hearPrivate_64 (fun z9 e9 l9 u9 => ?_)
      refine t_ui (t_runV (As := [.int (iI 380), .int (iI 0), .int (iI z9)]) (rest := []) (n := 3) X Y S k4 hml hl.1 (c_By_isA l D E T κ L f7 H.size b4 6144 k4 (by omega) 380 (by omega) (by omega) 0 (by omega) (by omega) z9 (by omega) (by omega) S.1) (ok_k X Y hA KS KR) rfl kl_So_By_isA ks_By_isA kx_By_isA ki_By_isA ini_By ⟨rfl, rfl⟩ hd_By_isA ⟨Nat.le_of_ble_eq_true rfl, Nat.le_of_ble_eq_true rfl⟩ rfl (Nat.le_of_ble_eq_true rfl) d_So_hearPrivate_67 ⟨Nat.le_of_ble_eq_true rfl, Nat.le_of_ble_eq_true rfl⟩) X Y hA (fun z10 H locs Y p10 => ?_)
      obtain ⟨l10, u10⟩ := p10
      refine z_if_ne (tgt := 76) X.1 X.2.1 d_So_hearPrivate_70 (by decide) ⟨by omega, by omega⟩ (fun h11 => ?_) (fun h11 => ?_)
      · refine lv_aload_n X.1 X.2.1 d_So_hearPrivate_76 rfl (lv_at hl 2 rfl) ?_
        refine lv_iload_n X.1 X.2.1 d_So_hearPrivate_77 rfl (lv_at hl 3 rfl) ?_
        refine lv_iload_n X.1 X.2.1 d_So_hearPrivate_78 rfl (lv_at hl 4 rfl) ?_
        refine lv_aload X.1 X.2.1 d_So_hearPrivate_79 (lv_at hl 0 rfl) ?_
        refine lv_aload X.1 X.2.1 d_So_hearPrivate_81 (lv_at hl 0 rfl) ?_
        refine lv_iconst (v := iI 0) X.1 X.2.1 d_So_hearPrivate_83 (by decide) ?_
        refine t_ui (t_runV (As := [.int (iI 0)]) (rest := [.ref b4, .int (iI a2), .int (iI a1), .ref h]) (n := 1) X Y S k4 hml hl.1 (c_By_body l D E T κ L f7 H.size b4 6144 k4 (by omega) 0 (by omega) (by omega) S.1 z9 e9 (by omega) (by omega)) (ok_k X Y hA KS KR) rfl kl_So_By_body ks_By_body kx_By_body ki_By_body ini_By ⟨rfl, rfl⟩ hd_By_body ⟨Nat.le_of_ble_eq_true rfl, Nat.le_of_ble_eq_true rfl⟩ rfl (Nat.le_of_ble_eq_true rfl) d_So_hearPrivate_84 ⟨Nat.le_of_ble_eq_true rfl, Nat.le_of_ble_eq_true rfl⟩) X Y hA (fun z12 H locs Y p12 => ?_)
        obtain ⟨l12, u12, x12⟩ := p12
        refine lv_aload X.1 X.2.1 d_So_hearPrivate_87 (lv_at hl 6 rfl) ?_
        refine t_ni (t_runV (As := [.int (iI a1), .int (iI a2), .ref b4, .int (iI z12), .ref a4]) (rest := []) (n := 5) X Y S k0 hml hl.1 (c_So_hearData l D E T κ L f7 H.size h k0 a1 (by omega) (by omega) a2 (by omega) (by omega) b4 6144 k4 (by omega) z12 (by omega) (by omega) a4 n4 k4 (by omega) S.1) (ok_k X Y hA KS KR) rfl kl_So_So_hearData ks_So_hearData kx_So_hearData ki_So_hearData ini_So ⟨rfl, rfl⟩ hd_So_hearData ⟨Nat.le_of_ble_eq_true rfl, Nat.le_of_ble_eq_true rfl⟩ rfl (Nat.le_of_ble_eq_true rfl) d_So_hearPrivate_89 ⟨Nat.le_of_ble_eq_true rfl, Nat.le_of_ble_eq_true rfl⟩) X Y hA S (by decide) (fun z13 f13 H locs Y S s13 p13 => ?_)
        obtain ⟨l13, u13⟩ := p13
        exact c_reti hQQ X Y hr hlk ⟨rfl, S, z13, rfl, ⟨by omega, by omega⟩⟩ d_So_hearPrivate_92
      · refine lv_bipush (v := iI (-60)) X.1 X.2.1 d_So_hearPrivate_73 (by decide) ?_
        exact c_reti hQQ X Y hr hlk ⟨rfl, S, (-60), rfl, ⟨by omega, by omega⟩⟩ d_So_hearPrivate_75
    · refine lv_bipush (v := iI (-31)) X.1 X.2.1 d_So_hearPrivate_53 (by decide) ?_
      exact c_reti hQQ X Y hr hlk ⟨rfl, S, (-31), rfl, ⟨by omega, by omega⟩⟩ d_So_hearPrivate_55
  · refine lv_iload X.1 X.2.1 d_So_hearPrivate_16 (lv_at hl 0 rfl) ?_
    exact c_reti hQQ X Y hr hlk ⟨rfl, S, z1, rfl, ⟨by omega, by omega⟩⟩ d_So_hearPrivate_18
set_option maxHeartbeats 4000000 in
set_option maxRecDepth 100000 in
theorem c_So_hearSafe (l : Launch) (D : va_G) (E : cE) (T : cT) (κ : tK) (L : List Nat) (f : pF) (sz : Nat) (h : Nat) (k0 : κ h = (19, 0)) (a1 : Int) (l_a1 : 0 ≤ a1) (u_a1 : a1 ≤ 1) (a2 : Int) (l_a2 : (-2147483648) ≤ a2) (u_a2 : a2 ≤ 2147483647) (a3 n3 : Nat) (k3 : κ a3 = (13, n3)) (x3 : n3 ≤ 12288) (a4 n4 : Nat) (k4 : κ a4 = (13, n4)) (x4 : n4 ≤ 12288) (hw : tW E T κ L f) : Met l y_So_hearSafe (k_So_hearSafe :: lw_tg) (kRm 72 2385 0 0) (va_Pc [.ref h, .int (iI a1), .int (iI a2), .ref a3, .ref a4] (kPre D E T L f sz)) (va_Qi (nPi E T [1, 2, 3, 4, 11, 13, 16] κ L f (fun (z : Int) (g : pF) => (-2147483648) ≤ z ∧ z ≤ 2147483647)) (cPost D E (pA L sz)) (pA L sz)) 0 0 (pA L sz) := by
  refine k_enter (own := R_So) (by decide) rfl (Nat.le_of_ble_eq_true rfl) (fun p e s m below meth c ls AV QQ H locs hQQ X Y hA hin hr hlk hml hl KS KR => ?_)
  have hl : lv_has ls 8 [(0, .ref h), (1, .int (iI a1)), (2, .int (iI a2)), (3, .ref a3), (4, .ref a4)] := hl
  have S : tS E T (tFr κ L [1, 2, 3, 4, 11, 13, 16] []) κ L f κ L f := tS_rf hw
  refine lv_aload_n X.1 X.2.1 d_So_hearSafe_0 rfl (lv_at hl 3 rfl) ?_
  refine lv_sipush (v := iI 372) X.1 X.2.1 d_So_hearSafe_1 (by decide) ?_
  refine lv_bipush (v := iI 20) X.1 X.2.1 d_So_hearSafe_4 (by decide) ?_
  refine t_ui (x_runS (As := [.ref a3, .int (iI 372), .int (iI 20)]) (rest := []) (n := 3) X hml hl.1 (c_So_judgeHead l D E T κ L f H.size a3 n3 k3 (by omega) 372 (by omega) (by omega) 20 (by omega) (by omega) S.1) (ok_k X Y hA KS KR) kl_So_So_judgeHead ks_So_judgeHead ki_So_judgeHead ini_So ⟨rfl, rfl⟩ hd_So_judgeHead.2 ⟨Nat.le_of_ble_eq_true rfl, Nat.le_of_ble_eq_true rfl⟩ rfl (Nat.le_of_ble_eq_true rfl) d_So_hearSafe_6 ⟨Nat.le_of_ble_eq_true rfl, Nat.le_of_ble_eq_true rfl⟩) X Y hA (fun z1 H locs Y p1 => ?_)
  obtain ⟨l1, u1⟩ := p1
  refine lv_istore (lv' := [(5, .int (iI z1)), (0, .ref h), (1, .int (iI a1)), (2, .int (iI a2)), (3, .ref a3), (4, .ref a4)]) X.1 X.2.1 d_So_hearSafe_9 hl (by decide) rfl (fun ls hl => ?_)
  refine lv_iload X.1 X.2.1 d_So_hearSafe_11 (lv_at hl 0 rfl) ?_
  refine z_if_ge (tgt := 19) X.1 X.2.1 d_So_hearSafe_13 (by decide) ⟨by omega, by omega⟩ (fun h2 => ?_) (fun h2 => ?_)
  · refine lv_aload_n X.1 X.2.1 d_So_hearSafe_19 rfl (lv_at hl 4 rfl) ?_
    refine lv_iconst (v := iI 0) X.1 X.2.1 d_So_hearSafe_20 (by decide) ?_
    refine lv_iconst (v := iI 2) X.1 X.2.1 d_So_hearSafe_21 (by decide) ?_
    refine t_ui (t_runV (As := [.int (iI 0), .int (iI 2)]) (rest := []) (n := 2) X Y S k3 hml hl.1 (c_By_field l D E T κ L f H.size a3 n3 k3 (by omega) 0 (by omega) (by omega) 2 (by omega) (by omega) S.1) (ok_k X Y hA KS KR) rfl kl_So_By_field ks_By_field kx_By_field ki_By_field ini_By ⟨rfl, rfl⟩ hd_By_field ⟨Nat.le_of_ble_eq_true rfl, Nat.le_of_ble_eq_true rfl⟩ rfl (Nat.le_of_ble_eq_true rfl) d_So_hearSafe_22 ⟨Nat.le_of_ble_eq_true rfl, Nat.le_of_ble_eq_true rfl⟩) X Y hA (fun z3 H locs Y p3 => ?_)
    obtain ⟨l3, u3⟩ := p3
    refine lv_istore (lv' := [(6, .int (iI z3)), (5, .int (iI z1)), (0, .ref h), (1, .int (iI a1)), (2, .int (iI a2)), (3, .ref a3), (4, .ref a4)]) X.1 X.2.1 d_So_hearSafe_25 hl (by decide) rfl (fun ls hl => ?_)
    refine lv_aload_n X.1 X.2.1 d_So_hearSafe_27 rfl (lv_at hl 5 rfl) ?_
    refine lv_iconst (v := iI 0) X.1 X.2.1 d_So_hearSafe_28 (by decide) ?_
    refine lv_iconst (v := iI 3) X.1 X.2.1 d_So_hearSafe_29 (by decide) ?_
    refine t_ui (t_runV (As := [.int (iI 0), .int (iI 3)]) (rest := []) (n := 2) X Y S k3 hml hl.1 (c_By_field l D E T κ L f H.size a3 n3 k3 (by omega) 0 (by omega) (by omega) 3 (by omega) (by omega) S.1) (ok_k X Y hA KS KR) rfl kl_So_By_field ks_By_field kx_By_field ki_By_field ini_By ⟨rfl, rfl⟩ hd_By_field ⟨Nat.le_of_ble_eq_true rfl, Nat.le_of_ble_eq_true rfl⟩ rfl (Nat.le_of_ble_eq_true rfl) d_So_hearSafe_30 ⟨Nat.le_of_ble_eq_true rfl, Nat.le_of_ble_eq_true rfl⟩) X Y hA (fun z4 H locs Y p4 => ?_)
    obtain ⟨l4, u4⟩ := p4
    refine lv_istore (lv' := [(7, .int (iI z4)), (6, .int (iI z3)), (5, .int (iI z1)), (0, .ref h), (1, .int (iI a1)), (2, .int (iI a2)), (3, .ref a3), (4, .ref a4)]) X.1 X.2.1 d_So_hearSafe_33 hl (by decide) rfl (fun ls hl => ?_)
    refine lv_aload_n X.1 X.2.1 d_So_hearSafe_35 rfl (lv_at hl 3 rfl) ?_
    refine t_getk (ci := 9) X Y S k0 rfl i_So 3 (by decide) rfl lk_So_19 (fun _ h9 => h9) d_So_hearSafe_36 (fun b5 n5 e5 k5 x5 => ?_)
    refine lv_aload_n X.1 X.2.1 d_So_hearSafe_39 rfl (lv_at hl 6 rfl) ?_
    refine lv_iload X.1 X.2.1 d_So_hearSafe_40 (lv_at hl 0 rfl) ?_
    refine t_ui (x_runS (As := [.ref b5, .ref a3, .int (iI z4)]) (rest := []) (n := 3) X hml hl.1 (c_Va_isSumFor l D E T κ L f H.size b5 n5 k5 (by omega) a3 n3 k3 (by omega) z4 (by omega) (by omega) S.1) (ok_k X Y hA KS KR) kl_So_Va_isSumFor ks_Va_isSumFor ki_Va_isSumFor ini_Va ⟨rfl, rfl⟩ hd_Va_isSumFor.2 ⟨Nat.le_of_ble_eq_true rfl, Nat.le_of_ble_eq_true rfl⟩ rfl (Nat.le_of_ble_eq_true rfl) d_So_hearSafe_42 ⟨Nat.le_of_ble_eq_true rfl, Nat.le_of_ble_eq_true rfl⟩) X Y hA (fun z6 H locs Y p6 => ?_)
    obtain ⟨l6, u6⟩ := p6
    refine z_if_ne (tgt := 51) X.1 X.2.1 d_So_hearSafe_45 (by decide) ⟨by omega, by omega⟩ (fun h7 => ?_) (fun h7 => ?_)
    · refine lv_aload_n X.1 X.2.1 d_So_hearSafe_51 rfl (lv_at hl 3 rfl) ?_
      refine t_getr (ci := 9) X Y S k0 rfl i_So 0 (by decide) rfl (k1 := 21) (k2 := 0) rfl rfl lk_So_35 (fun _ h9 => h9) d_So_hearSafe_52 (fun b8 e8 k8 => ?_)
      refine lv_aload_n X.1 X.2.1 d_So_hearSafe_55 rfl (lv_at hl 3 rfl) ?_
      refine t_get0 (ci := 9) X Y S k0 rfl i_So 3 (by decide) rfl lk_So_19 (fun _ h9 => h9) d_So_hearSafe_56 e5 ?_
      refine lv_bipush (v := iI 15) X.1 X.2.1 d_So_hearSafe_59 (by decide) ?_
      refine lv_aload_n X.1 X.2.1 d_So_hearSafe_61 rfl (lv_at hl 6 rfl) ?_
      refine lv_iload X.1 X.2.1 d_So_hearSafe_62 (lv_at hl 1 rfl) ?_
      refine lv_aload_n X.1 X.2.1 d_So_hearSafe_64 rfl (lv_at hl 6 rfl) ?_
      refine lv_iload X.1 X.2.1 d_So_hearSafe_65 (lv_at hl 1 rfl) ?_
      refine lv_aload_n X.1 X.2.1 d_So_hearSafe_67 rfl (lv_at hl 6 rfl) ?_
      refine t_gets (ci := 3) X Y S k3 rfl i_By 1 (by decide) rfl lk_So_141 (fun _ h9 => h9) d_So_hearSafe_68 (fun z9 e9 l9 u9 => ?_)
      refine t_ui (t_runV (As := [.int (iI z3), .int (iI z9)]) (rest := [.int (iI z3), .ref a3, .int (iI 15), .ref b5, .ref b8]) (n := 2) X Y S k3 hml hl.1 (c_By_stop l D E T κ L f H.size a3 n3 k3 (by omega) z3 (by omega) (by omega) z9 (by omega) (by omega) S.1 z9 e9 (by omega) (by omega)) (ok_k X Y hA KS KR) rfl kl_So_By_stop ks_By_stop kx_By_stop ki_By_stop ini_By ⟨rfl, rfl⟩ hd_By_stop ⟨Nat.le_of_ble_eq_true rfl, Nat.le_of_ble_eq_true rfl⟩ rfl (Nat.le_of_ble_eq_true rfl) d_So_hearSafe_71 ⟨Nat.le_of_ble_eq_true rfl, Nat.le_of_ble_eq_true rfl⟩) X Y hA (fun z10 H locs Y p10 => ?_)
      obtain ⟨l10, u10, x10⟩ := p10
      refine t_nv (t_runV (As := [.ref b5, .int (iI 15), .ref a3, .int (iI z3), .int (iI z10)]) (rest := []) (n := 5) X Y S k8 hml hl.1 (c_Va_sum l D E T κ L f H.size b8 k8 b5 n5 k5 (by omega) 15 (by omega) (by omega) a3 n3 k3 (by omega) z3 (by omega) (by omega) z10 (by omega) (by omega) S.1) (ok_k X Y hA KS KR) rfl kl_So_Va_sum ks_Va_sum kx_Va_sum ki_Va_sum ini_Va ⟨rfl, rfl⟩ hd_Va_sum ⟨Nat.le_of_ble_eq_true rfl, Nat.le_of_ble_eq_true rfl⟩ rfl (Nat.le_of_ble_eq_true rfl) d_So_hearSafe_74 ⟨Nat.le_of_ble_eq_true rfl, Nat.le_of_ble_eq_true rfl⟩) X Y hA S (by decide) (fun f11 H locs Y S s11 p11 => ?_)
      refine lv_aload_n X.1 X.2.1 d_So_hearSafe_77 rfl (lv_at hl 3 rfl) ?_
      refine t_get0 (ci := 9) X Y S k0 rfl i_So 0 (by decide) rfl lk_So_35 (fun _ h9 => h9) d_So_hearSafe_78 ((gF_same (s11.2.2.2 _ ⟨(t_obj S.1 k0).1, by rw [k0]; decide, by simp⟩).1 0).trans e8) ?_
      refine lv_aload_n X.1 X.2.1 d_So_hearSafe_81 rfl (lv_at hl 6 rfl) ?_
      refine lv_iload X.1 X.2.1 d_So_hearSafe_82 (lv_at hl 0 rfl) ?_
      refine t_ui (t_runV (As := [.ref a3, .int (iI z4)]) (rest := []) (n := 2) X Y S k8 hml hl.1 (c_Va_isSum l D E T κ L f11 H.size b8 k8 a3 n3 k3 (by omega) z4 (by omega) (by omega) S.1) (ok_k X Y hA KS KR) rfl kl_So_Va_isSum ks_Va_isSum kx_Va_isSum ki_Va_isSum ini_Va ⟨rfl, rfl⟩ hd_Va_isSum ⟨Nat.le_of_ble_eq_true rfl, Nat.le_of_ble_eq_true rfl⟩ rfl (Nat.le_of_ble_eq_true rfl) d_So_hearSafe_84 ⟨Nat.le_of_ble_eq_true rfl, Nat.le_of_ble_eq_true rfl⟩) X Y hA (fun z12 H locs Y p12 => ?_)
      obtain ⟨l12, u12⟩ := p12
      refine z_if_ne (tgt := 93) X.1 X.2.1 d_So_hearSafe_87 (by decide) ⟨by omega, by omega⟩ (fun h13 => ?_) (fun h13 => ?_)
      · refine lv_aload_n X.1 X.2.1 d_So_hearSafe_93 rfl (lv_at hl 3 rfl) ?_
        refine lv_iload_n X.1 X.2.1 d_So_hearSafe_94 rfl (lv_at hl 4 rfl) ?_
        refine lv_iload_n X.1 X.2.1 d_So_hearSafe_95 rfl (lv_at hl 5 rfl) ?_
        refine lv_aload_n X.1 X.2.1 d_So_hearSafe_96 rfl (lv_at hl 6 rfl) ?_
        refine lv_iload X.1 X.2.1 d_So_hearSafe_97 (lv_at hl 1 rfl) ?_
        refine lv_aload X.1 X.2.1 d_So_hearSafe_99 (lv_at hl 7 rfl) ?_
        refine t_ni (t_runV (As := [.int (iI a1), .int (iI a2), .ref a3, .int (iI z3), .ref a4]) (rest := []) (n := 5) X Y S k0 hml hl.1 (c_So_hearData l D E T κ L f11 H.size h k0 a1 (by omega) (by omega) a2 (by omega) (by omega) a3 n3 k3 (by omega) z3 (by omega) (by omega) a4 n4 k4 (by omega) S.1) (ok_k X Y hA KS KR) rfl kl_So_So_hearData ks_So_hearData kx_So_hearData ki_So_hearData ini_So ⟨rfl, rfl⟩ hd_So_hearData ⟨Nat.le_of_ble_eq_true rfl, Nat.le_of_ble_eq_true rfl⟩ rfl (Nat.le_of_ble_eq_true rfl) d_So_hearSafe_101 ⟨Nat.le_of_ble_eq_true rfl, Nat.le_of_ble_eq_true rfl⟩) X Y hA S (by decide) (fun z14 f14 H locs Y S s14 p14 => ?_)
        obtain ⟨l14, u14⟩ := p14
        exact c_reti hQQ X Y hr hlk ⟨rfl, S, z14, rfl, ⟨by omega, by omega⟩⟩ d_So_hearSafe_104
      · refine lv_bipush (v := iI (-41)) X.1 X.2.1 d_So_hearSafe_90 (by decide) ?_
        exact c_reti hQQ X Y hr hlk ⟨rfl, S, (-41), rfl, ⟨by omega, by omega⟩⟩ d_So_hearSafe_92
    · refine lv_bipush (v := iI (-50)) X.1 X.2.1 d_So_hearSafe_48 (by decide) ?_
      exact c_reti hQQ X Y hr hlk ⟨rfl, S, (-50), rfl, ⟨by omega, by omega⟩⟩ d_So_hearSafe_50
  · refine lv_iload X.1 X.2.1 d_So_hearSafe_16 (lv_at hl 0 rfl) ?_
    exact c_reti hQQ X Y hr hlk ⟨rfl, S, z1, rfl, ⟨by omega, by omega⟩⟩ d_So_hearSafe_18
set_option maxHeartbeats 4000000 in
set_option maxRecDepth 100000 in
theorem c_So_putCred (l : Launch) (D : va_G) (E : cE) (T : cT) (κ : tK) (L : List Nat) (f : pF) (sz : Nat) (h : Nat) (k0 : κ h = (19, 0)) (a1 : Nat) (k1 : κ a1 = (20, 0)) (a2 : Int) (l_a2 : (-2147483648) ≤ a2) (u_a2 : a2 ≤ 2147483647) (a3 n3 : Nat) (k3 : κ a3 = (13, n3)) (x3 : n3 ≤ 12288) (hw : tW E T κ L f) : Met l y_So_putCred (k_So_putCred :: lw_tg) (kRm 8 203 0 0) (va_Pc [.ref h, .ref a1, .int (iI a2), .ref a3] (kPre D E T L f sz)) (va_Qv (nPv E T [1, 2, 3, 4, 11, 13, 16, 21] κ L f (fun (g : pF) => True)) (cPost D E (pA L sz)) (pA L sz)) 0 0 (pA L sz) := by
  refine k_enter (own := R_So) (by decide) rfl (Nat.le_of_ble_eq_true rfl) (fun p e s m below meth c ls AV QQ H locs hQQ X Y hA hin hr hlk hml hl KS KR => ?_)
  have hl : lv_has ls 13 [(0, .ref h), (1, .ref a1), (2, .int (iI a2)), (3, .ref a3)] := hl
  have S : tS E T (tFr κ L [1, 2, 3, 4, 11, 13, 16, 21] []) κ L f κ L f := tS_rf hw
  refine lv_aload_n X.1 X.2.1 d_So_putCred_0 rfl (lv_at hl 0 rfl) ?_
  refine t_getr (ci := 9) X Y S k0 rfl i_So 0 (by decide) rfl (k1 := 21) (k2 := 0) rfl rfl lk_So_35 (fun _ h9 => h9) d_So_putCred_1 (fun b1 e1 k1 => ?_)
  refine t_getr (ci := 11) X Y S k1 rfl i_Va 1 (by decide) rfl (k1 := 13) (k2 := 6144) rfl rfl lk_So_91 (fun _ h9 => h9) d_So_putCred_4 (fun b2 e2 k2 => ?_)
  refine lv_astore (lv' := [(4, .ref b2), (0, .ref h), (1, .ref a1), (2, .int (iI a2)), (3, .ref a3)]) X.1 X.2.1 d_So_putCred_7 hl (by decide) rfl (fun ls hl => ?_)
  refine lv_aload X.1 X.2.1 d_So_putCred_9 (lv_at hl 0 rfl) ?_
  refine t_nv (t_runV (As := []) (rest := []) (n := 0) X Y S k2 hml hl.1 (c_By_clear l D E T κ L f H.size b2 6144 k2 (by omega) S.1) (ok_k X Y hA KS KR) rfl kl_So_By_clear ks_By_clear kx_By_clear ki_By_clear ini_By ⟨rfl, rfl⟩ hd_By_clear ⟨Nat.le_of_ble_eq_true rfl, Nat.le_of_ble_eq_true rfl⟩ rfl (Nat.le_of_ble_eq_true rfl) d_So_putCred_11 ⟨Nat.le_of_ble_eq_true rfl, Nat.le_of_ble_eq_true rfl⟩) X Y hA S (by decide) (fun f3 H locs Y S s3 p3 => ?_)
  refine lv_aload X.1 X.2.1 d_So_putCred_14 (lv_at hl 0 rfl) ?_
  refine lv_bipush (v := iI 125) X.1 X.2.1 d_So_putCred_16 (by decide) ?_
  refine t_ni (t_runV (As := [.int (iI 125)]) (rest := []) (n := 1) X Y S k2 hml hl.1 (c_By_open l D E T κ L f3 H.size b2 6144 k2 (by omega) 125 (by omega) (by omega) S.1) (ok_k X Y hA KS KR) rfl kl_So_By_open ks_By_open kx_By_open ki_By_open ini_By ⟨rfl, rfl⟩ hd_By_open ⟨Nat.le_of_ble_eq_true rfl, Nat.le_of_ble_eq_true rfl⟩ rfl (Nat.le_of_ble_eq_true rfl) d_So_putCred_18 ⟨Nat.le_of_ble_eq_true rfl, Nat.le_of_ble_eq_true rfl⟩) X Y hA S (by decide) (fun z4 f4 H locs Y S s4 p4 => ?_)
  obtain ⟨l4, u4⟩ := p4
  refine lv_istore (lv' := [(5, .int (iI z4)), (4, .ref b2), (0, .ref h), (1, .ref a1), (2, .int (iI a2)), (3, .ref a3)]) X.1 X.2.1 d_So_putCred_21 hl (by decide) rfl (fun ls hl => ?_)
  refine lv_aload X.1 X.2.1 d_So_putCred_23 (lv_at hl 1 rfl) ?_
  refine lv_bipush (v := iI 48) X.1 X.2.1 d_So_putCred_25 (by decide) ?_
  refine t_ni (t_runV (As := [.int (iI 48)]) (rest := []) (n := 1) X Y S k2 hml hl.1 (c_By_open l D E T κ L f4 H.size b2 6144 k2 (by omega) 48 (by omega) (by omega) S.1) (ok_k X Y hA KS KR) rfl kl_So_By_open ks_By_open kx_By_open ki_By_open ini_By ⟨rfl, rfl⟩ hd_By_open ⟨Nat.le_of_ble_eq_true rfl, Nat.le_of_ble_eq_true rfl⟩ rfl (Nat.le_of_ble_eq_true rfl) d_So_putCred_27 ⟨Nat.le_of_ble_eq_true rfl, Nat.le_of_ble_eq_true rfl⟩) X Y hA S (by decide) (fun z5 f5 H locs Y S s5 p5 => ?_)
  obtain ⟨l5, u5⟩ := p5
  refine lv_istore (lv' := [(6, .int (iI z5)), (5, .int (iI z4)), (4, .ref b2), (0, .ref h), (1, .ref a1), (2, .int (iI a2)), (3, .ref a3)]) X.1 X.2.1 d_So_putCred_30 hl (by decide) rfl (fun ls hl => ?_)
  refine lv_aload X.1 X.2.1 d_So_putCred_32 (lv_at hl 2 rfl) ?_
  refine lv_iconst (v := iI 0) X.1 X.2.1 d_So_putCred_34 (by decide) ?_
  refine t_ni (t_runV (As := [.int (iI 0)]) (rest := []) (n := 1) X Y S k2 hml hl.1 (c_By_openField l D E T κ L f5 H.size b2 6144 k2 (by omega) 0 (by omega) (by omega) S.1) (ok_k X Y hA KS KR) rfl kl_So_By_openField ks_By_openField kx_By_openField ki_By_openField ini_By ⟨rfl, rfl⟩ hd_By_openField ⟨Nat.le_of_ble_eq_true rfl, Nat.le_of_ble_eq_true rfl⟩ rfl (Nat.le_of_ble_eq_true rfl) d_So_putCred_35 ⟨Nat.le_of_ble_eq_true rfl, Nat.le_of_ble_eq_true rfl⟩) X Y hA S (by decide) (fun z6 f6 H locs Y S s6 p6 => ?_)
  obtain ⟨l6, u6⟩ := p6
  refine lv_istore (lv' := [(7, .int (iI z6)), (6, .int (iI z5)), (5, .int (iI z4)), (4, .ref b2), (0, .ref h), (1, .ref a1), (2, .int (iI a2)), (3, .ref a3)]) X.1 X.2.1 d_So_putCred_38 hl (by decide) rfl (fun ls hl => ?_)
  refine lv_aload X.1 X.2.1 d_So_putCred_40 (lv_at hl 3 rfl) ?_
  refine lv_bipush (v := iI 48) X.1 X.2.1 d_So_putCred_42 (by decide) ?_
  refine t_ni (t_runV (As := [.int (iI 48)]) (rest := []) (n := 1) X Y S k2 hml hl.1 (c_By_open l D E T κ L f6 H.size b2 6144 k2 (by omega) 48 (by omega) (by omega) S.1) (ok_k X Y hA KS KR) rfl kl_So_By_open ks_By_open kx_By_open ki_By_open ini_By ⟨rfl, rfl⟩ hd_By_open ⟨Nat.le_of_ble_eq_true rfl, Nat.le_of_ble_eq_true rfl⟩ rfl (Nat.le_of_ble_eq_true rfl) d_So_putCred_44 ⟨Nat.le_of_ble_eq_true rfl, Nat.le_of_ble_eq_true rfl⟩) X Y hA S (by decide) (fun z7 f7 H locs Y S s7 p7 => ?_)
  obtain ⟨l7, u7⟩ := p7
  refine lv_istore (lv' := [(8, .int (iI z7)), (7, .int (iI z6)), (6, .int (iI z5)), (5, .int (iI z4)), (4, .ref b2), (0, .ref h), (1, .ref a1), (2, .int (iI a2)), (3, .ref a3)]) X.1 X.2.1 d_So_putCred_47 hl (by decide) rfl (fun ls hl => ?_)
  refine lv_aload_n X.1 X.2.1 d_So_putCred_49 rfl (lv_at hl 6 rfl) ?_
  refine lv_aload X.1 X.2.1 d_So_putCred_50 (lv_at hl 4 rfl) ?_
  refine t_nv (t_runV (As := [.ref b2]) (rest := []) (n := 1) X Y S k1 hml hl.1 (c_Ti_putInfo l D E T κ L f7 H.size a1 k1 b2 6144 k2 (by omega) S.1) (ok_k X Y hA KS KR) rfl kl_So_Ti_putInfo ks_Ti_putInfo kx_Ti_putInfo ki_Ti_putInfo ini_Ti ⟨rfl, rfl⟩ hd_Ti_putInfo ⟨Nat.le_of_ble_eq_true rfl, Nat.le_of_ble_eq_true rfl⟩ rfl (Nat.le_of_ble_eq_true rfl) d_So_putCred_52 ⟨Nat.le_of_ble_eq_true rfl, Nat.le_of_ble_eq_true rfl⟩) X Y hA S (by decide) (fun f8 H locs Y S s8 p8 => ?_)
  refine lv_aload X.1 X.2.1 d_So_putCred_55 (lv_at hl 4 rfl) ?_
  refine lv_iload X.1 X.2.1 d_So_putCred_57 (lv_at hl 0 rfl) ?_
  refine t_nv (t_runV (As := [.int (iI z7)]) (rest := []) (n := 1) X Y S k2 hml hl.1 (c_By_close l D E T κ L f8 H.size b2 6144 k2 (by omega) z7 (by omega) (by omega) S.1) (ok_k X Y hA KS KR) rfl kl_So_By_close ks_By_close kx_By_close ki_By_close ini_By ⟨rfl, rfl⟩ hd_By_close ⟨Nat.le_of_ble_eq_true rfl, Nat.le_of_ble_eq_true rfl⟩ rfl (Nat.le_of_ble_eq_true rfl) d_So_putCred_59 ⟨Nat.le_of_ble_eq_true rfl, Nat.le_of_ble_eq_true rfl⟩) X Y hA S (by decide) (fun f9 H locs Y S s9 p9 => ?_)
  refine lv_aload X.1 X.2.1 d_So_putCred_62 (lv_at hl 4 rfl) ?_
  refine lv_iload X.1 X.2.1 d_So_putCred_64 (lv_at hl 1 rfl) ?_
  refine t_nv (t_runV (As := [.int (iI z6)]) (rest := []) (n := 1) X Y S k2 hml hl.1 (c_By_close l D E T κ L f9 H.size b2 6144 k2 (by omega) z6 (by omega) (by omega) S.1) (ok_k X Y hA KS KR) rfl kl_So_By_close ks_By_close kx_By_close ki_By_close ini_By ⟨rfl, rfl⟩ hd_By_close ⟨Nat.le_of_ble_eq_true rfl, Nat.le_of_ble_eq_true rfl⟩ rfl (Nat.le_of_ble_eq_true rfl) d_So_putCred_66 ⟨Nat.le_of_ble_eq_true rfl, Nat.le_of_ble_eq_true rfl⟩) X Y hA S (by decide) (fun f10 H locs Y S s10 p10 => ?_)
  refine lv_aload X.1 X.2.1 d_So_putCred_69 (lv_at hl 4 rfl) ?_
  refine lv_iconst (v := iI 2) X.1 X.2.1 d_So_putCred_71 (by decide) ?_
  refine lv_iload_n X.1 X.2.1 d_So_putCred_72 rfl (lv_at hl 7 rfl) ?_
  refine t_nv (t_runV (As := [.int (iI 2), .int (iI a2)]) (rest := []) (n := 2) X Y S k2 hml hl.1 (c_By_putTime l D E T κ L f10 H.size b2 6144 k2 (by omega) 2 (by omega) (by omega) a2 (by omega) (by omega) S.1) (ok_k X Y hA KS KR) rfl kl_So_By_putTime ks_By_putTime kx_By_putTime ki_By_putTime ini_By ⟨rfl, rfl⟩ hd_By_putTime ⟨Nat.le_of_ble_eq_true rfl, Nat.le_of_ble_eq_true rfl⟩ rfl (Nat.le_of_ble_eq_true rfl) d_So_putCred_73 ⟨Nat.le_of_ble_eq_true rfl, Nat.le_of_ble_eq_true rfl⟩) X Y hA S (by decide) (fun f11 H locs Y S s11 p11 => ?_)
  refine lv_aload X.1 X.2.1 d_So_putCred_76 (lv_at hl 4 rfl) ?_
  refine lv_iconst (v := iI 3) X.1 X.2.1 d_So_putCred_78 (by decide) ?_
  refine lv_lconst (v := 0) X.1 X.2.1 d_So_putCred_79 rfl ?_
  refine t_nv (t_runV (As := [.int (iI 3), .long 0]) (rest := []) (n := 2) X Y S k2 hml hl.1 (c_By_putNumber l D E T κ L f11 H.size b2 6144 k2 (by omega) 3 (by omega) (by omega) 0 S.1) (ok_k X Y hA KS KR) rfl kl_So_By_putNumber ks_By_putNumber kx_By_putNumber ki_By_putNumber ini_By ⟨rfl, rfl⟩ hd_By_putNumber ⟨Nat.le_of_ble_eq_true rfl, Nat.le_of_ble_eq_true rfl⟩ rfl (Nat.le_of_ble_eq_true rfl) d_So_putCred_80 ⟨Nat.le_of_ble_eq_true rfl, Nat.le_of_ble_eq_true rfl⟩) X Y hA S (by decide) (fun f12 H locs Y S s12 p12 => ?_)
  refine lv_aload X.1 X.2.1 d_So_putCred_83 (lv_at hl 4 rfl) ?_
  refine lv_iload X.1 X.2.1 d_So_putCred_85 (lv_at hl 2 rfl) ?_
  refine t_nv (t_runV (As := [.int (iI z5)]) (rest := []) (n := 1) X Y S k2 hml hl.1 (c_By_close l D E T κ L f12 H.size b2 6144 k2 (by omega) z5 (by omega) (by omega) S.1) (ok_k X Y hA KS KR) rfl kl_So_By_close ks_By_close kx_By_close ki_By_close ini_By ⟨rfl, rfl⟩ hd_By_close ⟨Nat.le_of_ble_eq_true rfl, Nat.le_of_ble_eq_true rfl⟩ rfl (Nat.le_of_ble_eq_true rfl) d_So_putCred_87 ⟨Nat.le_of_ble_eq_true rfl, Nat.le_of_ble_eq_true rfl⟩) X Y hA S (by decide) (fun f13 H locs Y S s13 p13 => ?_)
  refine lv_aload X.1 X.2.1 d_So_putCred_90 (lv_at hl 4 rfl) ?_
  refine lv_iload X.1 X.2.1 d_So_putCred_92 (lv_at hl 3 rfl) ?_
  refine t_nv (t_runV (As := [.int (iI z4)]) (rest := []) (n := 1) X Y S k2 hml hl.1 (c_By_close l D E T κ L f13 H.size b2 6144 k2 (by omega) z4 (by omega) (by omega) S.1) (ok_k X Y hA KS KR) rfl kl_So_By_close ks_By_close kx_By_close ki_By_close ini_By ⟨rfl, rfl⟩ hd_By_close ⟨Nat.le_of_ble_eq_true rfl, Nat.le_of_ble_eq_true rfl⟩ rfl (Nat.le_of_ble_eq_true rfl) d_So_putCred_94 ⟨Nat.le_of_ble_eq_true rfl, Nat.le_of_ble_eq_true rfl⟩) X Y hA S (by decide) (fun f14 H locs Y S s14 p14 => ?_)
  refine lv_aload_n X.1 X.2.1 d_So_putCred_97 rfl (lv_at hl 8 rfl) ?_
  refine t_nv (t_runV (As := []) (rest := []) (n := 0) X Y S k3 hml hl.1 (c_By_clear l D E T κ L f14 H.size a3 n3 k3 (by omega) S.1) (ok_k X Y hA KS KR) rfl kl_So_By_clear ks_By_clear kx_By_clear ki_By_clear ini_By ⟨rfl, rfl⟩ hd_By_clear ⟨Nat.le_of_ble_eq_true rfl, Nat.le_of_ble_eq_true rfl⟩ rfl (Nat.le_of_ble_eq_true rfl) d_So_putCred_98 ⟨Nat.le_of_ble_eq_true rfl, Nat.le_of_ble_eq_true rfl⟩) X Y hA S (by decide) (fun f15 H locs Y S s15 p15 => ?_)
  refine lv_aload_n X.1 X.2.1 d_So_putCred_101 rfl (lv_at hl 8 rfl) ?_
  refine lv_bipush (v := iI 118) X.1 X.2.1 d_So_putCred_102 (by decide) ?_
  refine t_ni (t_runV (As := [.int (iI 118)]) (rest := []) (n := 1) X Y S k3 hml hl.1 (c_By_open l D E T κ L f15 H.size a3 n3 k3 (by omega) 118 (by omega) (by omega) S.1) (ok_k X Y hA KS KR) rfl kl_So_By_open ks_By_open kx_By_open ki_By_open ini_By ⟨rfl, rfl⟩ hd_By_open ⟨Nat.le_of_ble_eq_true rfl, Nat.le_of_ble_eq_true rfl⟩ rfl (Nat.le_of_ble_eq_true rfl) d_So_putCred_104 ⟨Nat.le_of_ble_eq_true rfl, Nat.le_of_ble_eq_true rfl⟩) X Y hA S (by decide) (fun z16 f16 H locs Y S s16 p16 => ?_)
  obtain ⟨l16, u16⟩ := p16
  refine lv_istore (lv' := [(9, .int (iI z16)), (8, .int (iI z7)), (7, .int (iI z6)), (6, .int (iI z5)), (5, .int (iI z4)), (4, .ref b2), (0, .ref h), (1, .ref a1), (2, .int (iI a2)), (3, .ref a3)]) X.1 X.2.1 d_So_putCred_107 hl (by decide) rfl (fun ls hl => ?_)
  refine lv_aload_n X.1 X.2.1 d_So_putCred_109 rfl (lv_at hl 9 rfl) ?_
  refine lv_bipush (v := iI 48) X.1 X.2.1 d_So_putCred_110 (by decide) ?_
  refine t_ni (t_runV (As := [.int (iI 48)]) (rest := []) (n := 1) X Y S k3 hml hl.1 (c_By_open l D E T κ L f16 H.size a3 n3 k3 (by omega) 48 (by omega) (by omega) S.1) (ok_k X Y hA KS KR) rfl kl_So_By_open ks_By_open kx_By_open ki_By_open ini_By ⟨rfl, rfl⟩ hd_By_open ⟨Nat.le_of_ble_eq_true rfl, Nat.le_of_ble_eq_true rfl⟩ rfl (Nat.le_of_ble_eq_true rfl) d_So_putCred_112 ⟨Nat.le_of_ble_eq_true rfl, Nat.le_of_ble_eq_true rfl⟩) X Y hA S (by decide) (fun z17 f17 H locs Y S s17 p17 => ?_)
  obtain ⟨l17, u17⟩ := p17
  refine lv_istore (lv' := [(10, .int (iI z17)), (9, .int (iI z16)), (8, .int (iI z7)), (7, .int (iI z6)), (6, .int (iI z5)), (5, .int (iI z4)), (4, .ref b2), (0, .ref h), (1, .ref a1), (2, .int (iI a2)), (3, .ref a3)]) X.1 X.2.1 d_So_putCred_115 hl (by decide) rfl (fun ls hl => ?_)
  refine lv_aload_n X.1 X.2.1 d_So_putCred_117 rfl (lv_at hl 10 rfl) ?_
  refine lv_iconst (v := iI 0) X.1 X.2.1 d_So_putCred_118 (by decide) ?_
  refine lv_ldc2 (v := (5)) X.1 X.2.1 X.2.2.2.1 (X.2.2.1 _ cl_So_112) d_So_putCred_119 ?_
  refine t_nv (t_runV (As := [.int (iI 0), .long ((5))]) (rest := []) (n := 2) X Y S k3 hml hl.1 (c_By_putNumber l D E T κ L f17 H.size a3 n3 k3 (by omega) 0 (by omega) (by omega) ((5)) S.1) (ok_k X Y hA KS KR) rfl kl_So_By_putNumber ks_By_putNumber kx_By_putNumber ki_By_putNumber ini_By ⟨rfl, rfl⟩ hd_By_putNumber ⟨Nat.le_of_ble_eq_true rfl, Nat.le_of_ble_eq_true rfl⟩ rfl (Nat.le_of_ble_eq_true rfl) d_So_putCred_122 ⟨Nat.le_of_ble_eq_true rfl, Nat.le_of_ble_eq_true rfl⟩) X Y hA S (by decide) (fun f18 H locs Y S s18 p18 => ?_)
  refine lv_aload_n X.1 X.2.1 d_So_putCred_125 rfl (lv_at hl 10 rfl) ?_
  refine lv_iconst (v := iI 1) X.1 X.2.1 d_So_putCred_126 (by decide) ?_
  refine lv_ldc2 (v := (22)) X.1 X.2.1 X.2.2.2.1 (X.2.2.1 _ cl_So_227) d_So_putCred_127 ?_
  refine t_nv (t_runV (As := [.int (iI 1), .long ((22))]) (rest := []) (n := 2) X Y S k3 hml hl.1 (c_By_putNumber l D E T κ L f18 H.size a3 n3 k3 (by omega) 1 (by omega) (by omega) ((22)) S.1) (ok_k X Y hA KS KR) rfl kl_So_By_putNumber ks_By_putNumber kx_By_putNumber ki_By_putNumber ini_By ⟨rfl, rfl⟩ hd_By_putNumber ⟨Nat.le_of_ble_eq_true rfl, Nat.le_of_ble_eq_true rfl⟩ rfl (Nat.le_of_ble_eq_true rfl) d_So_putCred_130 ⟨Nat.le_of_ble_eq_true rfl, Nat.le_of_ble_eq_true rfl⟩) X Y hA S (by decide) (fun f19 H locs Y S s19 p19 => ?_)
  refine lv_aload_n X.1 X.2.1 d_So_putCred_133 rfl (lv_at hl 10 rfl) ?_
  refine lv_iconst (v := iI 2) X.1 X.2.1 d_So_putCred_134 (by decide) ?_
  refine t_ni (t_runV (As := [.int (iI 2)]) (rest := []) (n := 1) X Y S k3 hml hl.1 (c_By_openField l D E T κ L f19 H.size a3 n3 k3 (by omega) 2 (by omega) (by omega) S.1) (ok_k X Y hA KS KR) rfl kl_So_By_openField ks_By_openField kx_By_openField ki_By_openField ini_By ⟨rfl, rfl⟩ hd_By_openField ⟨Nat.le_of_ble_eq_true rfl, Nat.le_of_ble_eq_true rfl⟩ rfl (Nat.le_of_ble_eq_true rfl) d_So_putCred_135 ⟨Nat.le_of_ble_eq_true rfl, Nat.le_of_ble_eq_true rfl⟩) X Y hA S (by decide) (fun z20 f20 H locs Y S s20 p20 => ?_)
  obtain ⟨l20, u20⟩ := p20
  refine lv_istore (lv' := [(11, .int (iI z20)), (10, .int (iI z17)), (9, .int (iI z16)), (8, .int (iI z7)), (7, .int (iI z6)), (6, .int (iI z5)), (5, .int (iI z4)), (4, .ref b2), (0, .ref h), (1, .ref a1), (2, .int (iI a2)), (3, .ref a3)]) X.1 X.2.1 d_So_putCred_138 hl (by decide) rfl (fun ls hl => ?_)
  refine lv_aload_n X.1 X.2.1 d_So_putCred_140 rfl (lv_at hl 11 rfl) ?_
  refine lv_bipush (v := iI 48) X.1 X.2.1 d_So_putCred_141 (by decide) ?_
  refine lv_aload_n X.1 X.2.1 d_So_putCred_143 rfl (lv_at hl 9 rfl) ?_
  refine t_getm (ci := 10) X Y S k1 rfl i_Ti 0 (by decide) rfl (k1 := 13) (k2 := 4000) rfl rfl lk_So_229 (fun _ h9 => h9) d_So_putCred_144 (fun b21 n21 e21 k21 x21 => ?_)
  refine t_getrow (ci := 3) X Y S k21 rfl i_By 0 (by decide) rfl lk_So_138 (fun _ h9 => h9) d_So_putCred_147 (fun b22 e22 k22 => ?_)
  refine lv_iconst (v := iI 0) X.1 X.2.1 d_So_putCred_150 (by decide) ?_
  refine lv_aload_n X.1 X.2.1 d_So_putCred_151 rfl (lv_at hl 9 rfl) ?_
  refine t_get0 (ci := 10) X Y S k1 rfl i_Ti 0 (by decide) rfl lk_So_229 (fun _ h9 => h9) d_So_putCred_152 e21 ?_
  refine t_gets (ci := 3) X Y S k21 rfl i_By 1 (by decide) rfl lk_So_141 (fun _ h9 => h9) d_So_putCred_155 (fun z23 e23 l23 u23 => ?_)
  refine t_nv (t_runV (As := [.int (iI 48), .ref b22, .int (iI 0), .int (iI z23)]) (rest := []) (n := 4) X Y S k3 hml hl.1 (c_By_putValue l D E T κ L f20 H.size a3 n3 k3 (by omega) 48 (by omega) (by omega) b22 n21 (Or.inl k22) (by omega) 0 (by omega) (by omega) z23 (by omega) (by omega) S.1) (ok_k X Y hA KS KR) rfl kl_So_By_putValue ks_By_putValue kx_By_putValue ki_By_putValue ini_By ⟨rfl, rfl⟩ hd_By_putValue ⟨Nat.le_of_ble_eq_true rfl, Nat.le_of_ble_eq_true rfl⟩ rfl (Nat.le_of_ble_eq_true rfl) d_So_putCred_158 ⟨Nat.le_of_ble_eq_true rfl, Nat.le_of_ble_eq_true rfl⟩) X Y hA S (by decide) (fun f24 H locs Y S s24 p24 => ?_)
  refine lv_aload_n X.1 X.2.1 d_So_putCred_161 rfl (lv_at hl 11 rfl) ?_
  refine lv_iload X.1 X.2.1 d_So_putCred_162 (lv_at hl 0 rfl) ?_
  refine t_nv (t_runV (As := [.int (iI z20)]) (rest := []) (n := 1) X Y S k3 hml hl.1 (c_By_close l D E T κ L f24 H.size a3 n3 k3 (by omega) z20 (by omega) (by omega) S.1) (ok_k X Y hA KS KR) rfl kl_So_By_close ks_By_close kx_By_close ki_By_close ini_By ⟨rfl, rfl⟩ hd_By_close ⟨Nat.le_of_ble_eq_true rfl, Nat.le_of_ble_eq_true rfl⟩ rfl (Nat.le_of_ble_eq_true rfl) d_So_putCred_164 ⟨Nat.le_of_ble_eq_true rfl, Nat.le_of_ble_eq_true rfl⟩) X Y hA S (by decide) (fun f25 H locs Y S s25 p25 => ?_)
  refine lv_aload_n X.1 X.2.1 d_So_putCred_167 rfl (lv_at hl 11 rfl) ?_
  refine lv_iconst (v := iI 3) X.1 X.2.1 d_So_putCred_168 (by decide) ?_
  refine t_ni (t_runV (As := [.int (iI 3)]) (rest := []) (n := 1) X Y S k3 hml hl.1 (c_By_openField l D E T κ L f25 H.size a3 n3 k3 (by omega) 3 (by omega) (by omega) S.1) (ok_k X Y hA KS KR) rfl kl_So_By_openField ks_By_openField kx_By_openField ki_By_openField ini_By ⟨rfl, rfl⟩ hd_By_openField ⟨Nat.le_of_ble_eq_true rfl, Nat.le_of_ble_eq_true rfl⟩ rfl (Nat.le_of_ble_eq_true rfl) d_So_putCred_169 ⟨Nat.le_of_ble_eq_true rfl, Nat.le_of_ble_eq_true rfl⟩) X Y hA S (by decide) (fun z26 f26 H locs Y S s26 p26 => ?_)
  obtain ⟨l26, u26⟩ := p26
  refine lv_istore (lv' := [(12, .int (iI z26)), (11, .int (iI z20)), (10, .int (iI z17)), (9, .int (iI z16)), (8, .int (iI z7)), (7, .int (iI z6)), (6, .int (iI z5)), (5, .int (iI z4)), (4, .ref b2), (0, .ref h), (1, .ref a1), (2, .int (iI a2)), (3, .ref a3)]) X.1 X.2.1 d_So_putCred_172 hl (by decide) rfl (fun ls hl => ?_)
  refine lv_aload_n X.1 X.2.1 d_So_putCred_174 rfl (lv_at hl 9 rfl) ?_
  refine t_get0 (ci := 9) X Y S k0 rfl i_So 0 (by decide) rfl lk_So_35 (fun _ h9 => h9) d_So_putCred_175 ((gF_same (s26.2.2.2 _ ⟨(t_obj S.1 k0).1, by rw [k0]; decide, by simp⟩).1 0).trans ((gF_same (s25.2.2.2 _ ⟨(t_obj S.1 k0).1, by rw [k0]; decide, by simp⟩).1 0).trans ((gF_same (s24.2.2.2 _ ⟨(t_obj S.1 k0).1, by rw [k0]; decide, by simp⟩).1 0).trans ((gF_same (s20.2.2.2 _ ⟨(t_obj S.1 k0).1, by rw [k0]; decide, by simp⟩).1 0).trans ((gF_same (s19.2.2.2 _ ⟨(t_obj S.1 k0).1, by rw [k0]; decide, by simp⟩).1 0).trans ((gF_same (s18.2.2.2 _ ⟨(t_obj S.1 k0).1, by rw [k0]; decide, by simp⟩).1 0).trans ((gF_same (s17.2.2.2 _ ⟨(t_obj S.1 k0).1, by rw [k0]; decide, by simp⟩).1 0).trans ((gF_same (s16.2.2.2 _ ⟨(t_obj S.1 k0).1, by rw [k0]; decide, by simp⟩).1 0).trans ((gF_same (s15.2.2.2 _ ⟨(t_obj S.1 k0).1, by rw [k0]; decide, by simp⟩).1 0).trans ((gF_same (s14.2.2.2 _ ⟨(t_obj S.1 k0).1, by rw [k0]; decide, by simp⟩).1 0).trans ((gF_same (s13.2.2.2 _ ⟨(t_obj S.1 k0).1, by rw [k0]; decide, by simp⟩).1 0).trans ((gF_same (s12.2.2.2 _ ⟨(t_obj S.1 k0).1, by rw [k0]; decide, by simp⟩).1 0).trans ((gF_same (s11.2.2.2 _ ⟨(t_obj S.1 k0).1, by rw [k0]; decide, by simp⟩).1 0).trans ((gF_same (s10.2.2.2 _ ⟨(t_obj S.1 k0).1, by rw [k0]; decide, by simp⟩).1 0).trans ((gF_same (s9.2.2.2 _ ⟨(t_obj S.1 k0).1, by rw [k0]; decide, by simp⟩).1 0).trans ((gF_same (s8.2.2.2 _ ⟨(t_obj S.1 k0).1, by rw [k0]; decide, by simp⟩).1 0).trans ((gF_same (s7.2.2.2 _ ⟨(t_obj S.1 k0).1, by rw [k0]; decide, by simp⟩).1 0).trans ((gF_same (s6.2.2.2 _ ⟨(t_obj S.1 k0).1, by rw [k0]; decide, by simp⟩).1 0).trans ((gF_same (s5.2.2.2 _ ⟨(t_obj S.1 k0).1, by rw [k0]; decide, by simp⟩).1 0).trans ((gF_same (s4.2.2.2 _ ⟨(t_obj S.1 k0).1, by rw [k0]; decide, by simp⟩).1 0).trans ((gF_same (s3.2.2.2 _ ⟨(t_obj S.1 k0).1, by rw [k0]; decide, by simp⟩).1 0).trans e1))))))))))))))))))))) ?_
  refine lv_aload_n X.1 X.2.1 d_So_putCred_178 rfl (lv_at hl 12 rfl) ?_
  refine lv_aload_n X.1 X.2.1 d_So_putCred_179 rfl (lv_at hl 9 rfl) ?_
  refine t_getk (ci := 9) X Y S k0 rfl i_So 3 (by decide) rfl lk_So_19 (fun _ h9 => h9) d_So_putCred_180 (fun b27 n27 e27 k27 x27 => ?_)
  refine lv_bipush (v := iI 14) X.1 X.2.1 d_So_putCred_183 (by decide) ?_
  refine lv_iconst (v := iI 0) X.1 X.2.1 d_So_putCred_185 (by decide) ?_
  refine t_nv (t_runV (As := [.ref a3, .ref b27, .int (iI 14), .int (iI 0)]) (rest := []) (n := 4) X Y S k1 hml hl.1 (c_Va_putSealed l D E T κ L f26 H.size b1 k1 a3 n3 k3 (by omega) b27 n27 k27 (by omega) 14 (by omega) (by omega) 0 (by omega) (by omega) S.1) (ok_k X Y hA KS KR) rfl kl_So_Va_putSealed ks_Va_putSealed kx_Va_putSealed ki_Va_putSealed ini_Va ⟨rfl, rfl⟩ hd_Va_putSealed ⟨Nat.le_of_ble_eq_true rfl, Nat.le_of_ble_eq_true rfl⟩ rfl (Nat.le_of_ble_eq_true rfl) d_So_putCred_186 ⟨Nat.le_of_ble_eq_true rfl, Nat.le_of_ble_eq_true rfl⟩) X Y hA S (by decide) (fun f28 H locs Y S s28 p28 => ?_)
  refine lv_aload_n X.1 X.2.1 d_So_putCred_189 rfl (lv_at hl 12 rfl) ?_
  refine lv_iload X.1 X.2.1 d_So_putCred_190 (lv_at hl 0 rfl) ?_
  refine t_nv (t_runV (As := [.int (iI z26)]) (rest := []) (n := 1) X Y S k3 hml hl.1 (c_By_close l D E T κ L f28 H.size a3 n3 k3 (by omega) z26 (by omega) (by omega) S.1) (ok_k X Y hA KS KR) rfl kl_So_By_close ks_By_close kx_By_close ki_By_close ini_By ⟨rfl, rfl⟩ hd_By_close ⟨Nat.le_of_ble_eq_true rfl, Nat.le_of_ble_eq_true rfl⟩ rfl (Nat.le_of_ble_eq_true rfl) d_So_putCred_192 ⟨Nat.le_of_ble_eq_true rfl, Nat.le_of_ble_eq_true rfl⟩) X Y hA S (by decide) (fun f29 H locs Y S s29 p29 => ?_)
  refine lv_aload_n X.1 X.2.1 d_So_putCred_195 rfl (lv_at hl 12 rfl) ?_
  refine lv_iload X.1 X.2.1 d_So_putCred_196 (lv_at hl 2 rfl) ?_
  refine t_nv (t_runV (As := [.int (iI z17)]) (rest := []) (n := 1) X Y S k3 hml hl.1 (c_By_close l D E T κ L f29 H.size a3 n3 k3 (by omega) z17 (by omega) (by omega) S.1) (ok_k X Y hA KS KR) rfl kl_So_By_close ks_By_close kx_By_close ki_By_close ini_By ⟨rfl, rfl⟩ hd_By_close ⟨Nat.le_of_ble_eq_true rfl, Nat.le_of_ble_eq_true rfl⟩ rfl (Nat.le_of_ble_eq_true rfl) d_So_putCred_198 ⟨Nat.le_of_ble_eq_true rfl, Nat.le_of_ble_eq_true rfl⟩) X Y hA S (by decide) (fun f30 H locs Y S s30 p30 => ?_)
  refine lv_aload_n X.1 X.2.1 d_So_putCred_201 rfl (lv_at hl 12 rfl) ?_
  refine lv_iload X.1 X.2.1 d_So_putCred_202 (lv_at hl 3 rfl) ?_
  refine t_nv (t_runV (As := [.int (iI z16)]) (rest := []) (n := 1) X Y S k3 hml hl.1 (c_By_close l D E T κ L f30 H.size a3 n3 k3 (by omega) z16 (by omega) (by omega) S.1) (ok_k X Y hA KS KR) rfl kl_So_By_close ks_By_close kx_By_close ki_By_close ini_By ⟨rfl, rfl⟩ hd_By_close ⟨Nat.le_of_ble_eq_true rfl, Nat.le_of_ble_eq_true rfl⟩ rfl (Nat.le_of_ble_eq_true rfl) d_So_putCred_204 ⟨Nat.le_of_ble_eq_true rfl, Nat.le_of_ble_eq_true rfl⟩) X Y hA S (by decide) (fun f31 H locs Y S s31 p31 => ?_)
  exact c_retv hQQ X Y hr hlk ⟨rfl, S, trivial⟩ d_So_putCred_207
set_option maxHeartbeats 4000000 in
set_option maxRecDepth 100000 in
theorem c_So_isWholeInfo (l : Launch) (D : va_G) (E : cE) (T : cT) (κ : tK) (L : List Nat) (f : pF) (sz : Nat) (a1 n1 : Nat) (k1 : κ a1 = (13, n1)) (x1 : n1 ≤ 12288) (a2 : Int) (l_a2 : (-1) ≤ a2) (u_a2 : a2 ≤ 20200) (hw : tW E T κ L f) : Met l y_So_isWholeInfo (k_So_isWholeInfo :: lw_tg) (kRm 3 112 0 0) (va_Pc [.ref a1, .int (iI a2)] (kPre D E T L f sz)) (va_Qi (uPi L f (fun (z : Int) => 0 ≤ z ∧ z ≤ 1)) (cPost D E (pA L sz)) (pA L sz)) 0 0 (pA L sz) := by
  refine k_enter (own := R_So) (by decide) rfl (Nat.le_of_ble_eq_true rfl) (fun p e s m below meth c ls AV QQ H locs hQQ X Y hA hin hr hlk hml hl KS KR => ?_)
  have hl : lv_has ls 3 [(0, .ref a1), (1, .int (iI a2))] := hl
  have S : tS E T (tFr κ L [] []) κ L f κ L f := tS_rf hw
  refine lv_aload_n X.1 X.2.1 d_So_isWholeInfo_0 rfl (lv_at hl 0 rfl) ?_
  refine lv_iload_n X.1 X.2.1 d_So_isWholeInfo_1 rfl (lv_at hl 1 rfl) ?_
  refine lv_iconst (v := iI 0) X.1 X.2.1 d_So_isWholeInfo_2 (by decide) ?_
  refine t_ui (t_runV (As := [.int (iI a2), .int (iI 0)]) (rest := []) (n := 2) X Y S k1 hml hl.1 (c_By_element l D E T κ L f H.size a1 n1 k1 (by omega) a2 (by omega) (by omega) 0 (by omega) (by omega) S.1) (ok_k X Y hA KS KR) rfl kl_So_By_element ks_By_element kx_By_element ki_By_element ini_By ⟨rfl, rfl⟩ hd_By_element ⟨Nat.le_of_ble_eq_true rfl, Nat.le_of_ble_eq_true rfl⟩ rfl (Nat.le_of_ble_eq_true rfl) d_So_isWholeInfo_3 ⟨Nat.le_of_ble_eq_true rfl, Nat.le_of_ble_eq_true rfl⟩) X Y hA (fun z1 H locs Y p1 => ?_)
  obtain ⟨l1, u1⟩ := p1
  refine lv_istore_n (lv' := [(2, .int (iI z1)), (0, .ref a1), (1, .int (iI a2))]) X.1 X.2.1 d_So_isWholeInfo_6 rfl hl (by decide) rfl (fun ls hl => ?_)
  refine lv_iload_n X.1 X.2.1 d_So_isWholeInfo_7 rfl (lv_at hl 0 rfl) ?_
  refine z_if_lt (tgt := 61) X.1 X.2.1 d_So_isWholeInfo_8 (by decide) ⟨by omega, by omega⟩ (fun h2 => ?_) (fun h2 => ?_)
  · refine lv_iconst (v := iI 0) X.1 X.2.1 d_So_isWholeInfo_61 (by decide) ?_
    exact c_retz hQQ X Y hr hlk (iI_bool (by omega) (by omega)).1 ⟨rfl, rfl, 0, rfl, ⟨by omega, by omega⟩⟩ d_So_isWholeInfo_62
  · refine lv_aload_n X.1 X.2.1 d_So_isWholeInfo_11 rfl (lv_at hl 1 rfl) ?_
    refine lv_iload_n X.1 X.2.1 d_So_isWholeInfo_12 rfl (lv_at hl 2 rfl) ?_
    refine lv_iconst (v := iI 1) X.1 X.2.1 d_So_isWholeInfo_13 (by decide) ?_
    refine t_ui (t_runV (As := [.int (iI a2), .int (iI 1)]) (rest := []) (n := 2) X Y S k1 hml hl.1 (c_By_element l D E T κ L f H.size a1 n1 k1 (by omega) a2 (by omega) (by omega) 1 (by omega) (by omega) S.1) (ok_k X Y hA KS KR) rfl kl_So_By_element ks_By_element kx_By_element ki_By_element ini_By ⟨rfl, rfl⟩ hd_By_element ⟨Nat.le_of_ble_eq_true rfl, Nat.le_of_ble_eq_true rfl⟩ rfl (Nat.le_of_ble_eq_true rfl) d_So_isWholeInfo_14 ⟨Nat.le_of_ble_eq_true rfl, Nat.le_of_ble_eq_true rfl⟩) X Y hA (fun z3 H locs Y p3 => ?_)
    obtain ⟨l3, u3⟩ := p3
    refine z_if_ge (tgt := 61) X.1 X.2.1 d_So_isWholeInfo_17 (by decide) ⟨by omega, by omega⟩ (fun h4 => ?_) (fun h4 => ?_)
    · refine lv_iconst (v := iI 0) X.1 X.2.1 d_So_isWholeInfo_61 (by decide) ?_
      exact c_retz hQQ X Y hr hlk (iI_bool (by omega) (by omega)).1 ⟨rfl, rfl, 0, rfl, ⟨by omega, by omega⟩⟩ d_So_isWholeInfo_62
    · refine lv_aload_n X.1 X.2.1 d_So_isWholeInfo_20 rfl (lv_at hl 1 rfl) ?_
      refine lv_iload_n X.1 X.2.1 d_So_isWholeInfo_21 rfl (lv_at hl 0 rfl) ?_
      refine lv_iconst (v := iI 2) X.1 X.2.1 d_So_isWholeInfo_22 (by decide) ?_
      refine t_ui (t_runV (As := [.int (iI z1), .int (iI 2)]) (rest := []) (n := 2) X Y S k1 hml hl.1 (c_By_field l D E T κ L f H.size a1 n1 k1 (by omega) z1 (by omega) (by omega) 2 (by omega) (by omega) S.1) (ok_k X Y hA KS KR) rfl kl_So_By_field ks_By_field kx_By_field ki_By_field ini_By ⟨rfl, rfl⟩ hd_By_field ⟨Nat.le_of_ble_eq_true rfl, Nat.le_of_ble_eq_true rfl⟩ rfl (Nat.le_of_ble_eq_true rfl) d_So_isWholeInfo_23 ⟨Nat.le_of_ble_eq_true rfl, Nat.le_of_ble_eq_true rfl⟩) X Y hA (fun z5 H locs Y p5 => ?_)
      obtain ⟨l5, u5⟩ := p5
      refine z_if_lt (tgt := 61) X.1 X.2.1 d_So_isWholeInfo_26 (by decide) ⟨by omega, by omega⟩ (fun h6 => ?_) (fun h6 => ?_)
      · refine lv_iconst (v := iI 0) X.1 X.2.1 d_So_isWholeInfo_61 (by decide) ?_
        exact c_retz hQQ X Y hr hlk (iI_bool (by omega) (by omega)).1 ⟨rfl, rfl, 0, rfl, ⟨by omega, by omega⟩⟩ d_So_isWholeInfo_62
      · refine lv_aload_n X.1 X.2.1 d_So_isWholeInfo_29 rfl (lv_at hl 1 rfl) ?_
        refine lv_iload_n X.1 X.2.1 d_So_isWholeInfo_30 rfl (lv_at hl 0 rfl) ?_
        refine lv_iconst (v := iI 3) X.1 X.2.1 d_So_isWholeInfo_31 (by decide) ?_
        refine t_ui (t_runV (As := [.int (iI z1), .int (iI 3)]) (rest := []) (n := 2) X Y S k1 hml hl.1 (c_By_field l D E T κ L f H.size a1 n1 k1 (by omega) z1 (by omega) (by omega) 3 (by omega) (by omega) S.1) (ok_k X Y hA KS KR) rfl kl_So_By_field ks_By_field kx_By_field ki_By_field ini_By ⟨rfl, rfl⟩ hd_By_field ⟨Nat.le_of_ble_eq_true rfl, Nat.le_of_ble_eq_true rfl⟩ rfl (Nat.le_of_ble_eq_true rfl) d_So_isWholeInfo_32 ⟨Nat.le_of_ble_eq_true rfl, Nat.le_of_ble_eq_true rfl⟩) X Y hA (fun z7 H locs Y p7 => ?_)
        obtain ⟨l7, u7⟩ := p7
        refine z_if_lt (tgt := 61) X.1 X.2.1 d_So_isWholeInfo_35 (by decide) ⟨by omega, by omega⟩ (fun h8 => ?_) (fun h8 => ?_)
        · refine lv_iconst (v := iI 0) X.1 X.2.1 d_So_isWholeInfo_61 (by decide) ?_
          exact c_retz hQQ X Y hr hlk (iI_bool (by omega) (by omega)).1 ⟨rfl, rfl, 0, rfl, ⟨by omega, by omega⟩⟩ d_So_isWholeInfo_62
        · refine lv_aload_n X.1 X.2.1 d_So_isWholeInfo_38 rfl (lv_at hl 1 rfl) ?_
          refine lv_iload_n X.1 X.2.1 d_So_isWholeInfo_39 rfl (lv_at hl 0 rfl) ?_
          refine lv_iconst (v := iI 4) X.1 X.2.1 d_So_isWholeInfo_40 (by decide) ?_
          refine t_ui (t_runV (As := [.int (iI z1), .int (iI 4)]) (rest := []) (n := 2) X Y S k1 hml hl.1 (c_By_field l D E T κ L f H.size a1 n1 k1 (by omega) z1 (by omega) (by omega) 4 (by omega) (by omega) S.1) (ok_k X Y hA KS KR) rfl kl_So_By_field ks_By_field kx_By_field ki_By_field ini_By ⟨rfl, rfl⟩ hd_By_field ⟨Nat.le_of_ble_eq_true rfl, Nat.le_of_ble_eq_true rfl⟩ rfl (Nat.le_of_ble_eq_true rfl) d_So_isWholeInfo_41 ⟨Nat.le_of_ble_eq_true rfl, Nat.le_of_ble_eq_true rfl⟩) X Y hA (fun z9 H locs Y p9 => ?_)
          obtain ⟨l9, u9⟩ := p9
          refine z_if_lt (tgt := 61) X.1 X.2.1 d_So_isWholeInfo_44 (by decide) ⟨by omega, by omega⟩ (fun h10 => ?_) (fun h10 => ?_)
          · refine lv_iconst (v := iI 0) X.1 X.2.1 d_So_isWholeInfo_61 (by decide) ?_
            exact c_retz hQQ X Y hr hlk (iI_bool (by omega) (by omega)).1 ⟨rfl, rfl, 0, rfl, ⟨by omega, by omega⟩⟩ d_So_isWholeInfo_62
          · refine lv_aload_n X.1 X.2.1 d_So_isWholeInfo_47 rfl (lv_at hl 1 rfl) ?_
            refine lv_iload_n X.1 X.2.1 d_So_isWholeInfo_48 rfl (lv_at hl 0 rfl) ?_
            refine lv_bipush (v := iI 6) X.1 X.2.1 d_So_isWholeInfo_49 (by decide) ?_
            refine t_ui (t_runV (As := [.int (iI z1), .int (iI 6)]) (rest := []) (n := 2) X Y S k1 hml hl.1 (c_By_field l D E T κ L f H.size a1 n1 k1 (by omega) z1 (by omega) (by omega) 6 (by omega) (by omega) S.1) (ok_k X Y hA KS KR) rfl kl_So_By_field ks_By_field kx_By_field ki_By_field ini_By ⟨rfl, rfl⟩ hd_By_field ⟨Nat.le_of_ble_eq_true rfl, Nat.le_of_ble_eq_true rfl⟩ rfl (Nat.le_of_ble_eq_true rfl) d_So_isWholeInfo_51 ⟨Nat.le_of_ble_eq_true rfl, Nat.le_of_ble_eq_true rfl⟩) X Y hA (fun z11 H locs Y p11 => ?_)
            obtain ⟨l11, u11⟩ := p11
            refine z_if_lt (tgt := 61) X.1 X.2.1 d_So_isWholeInfo_54 (by decide) ⟨by omega, by omega⟩ (fun h12 => ?_) (fun h12 => ?_)
            · refine lv_iconst (v := iI 0) X.1 X.2.1 d_So_isWholeInfo_61 (by decide) ?_
              exact c_retz hQQ X Y hr hlk (iI_bool (by omega) (by omega)).1 ⟨rfl, rfl, 0, rfl, ⟨by omega, by omega⟩⟩ d_So_isWholeInfo_62
            · refine lv_iconst (v := iI 1) X.1 X.2.1 d_So_isWholeInfo_57 (by decide) ?_
              refine lv_goto (tgt := 62) X.1 X.2.1 d_So_isWholeInfo_58 (by decide) ?_
              exact c_retz hQQ X Y hr hlk (iI_bool (by omega) (by omega)).1 ⟨rfl, rfl, 1, rfl, ⟨by omega, by omega⟩⟩ d_So_isWholeInfo_62
set_option maxHeartbeats 4000000 in
set_option maxRecDepth 100000 in
theorem c_So_judgeCred (l : Launch) (D : va_G) (E : cE) (T : cT) (κ : tK) (L : List Nat) (f : pF) (sz : Nat) (h : Nat) (k0 : κ h = (19, 0)) (a1 n1 : Nat) (k1 : κ a1 = (13, n1)) (x1 : n1 ≤ 12288) (hw : tW E T κ L f) : Met l y_So_judgeCred (k_So_judgeCred :: lw_tg) (kRm 72 2385 0 0) (va_Pc [.ref h, .ref a1] (kPre D E T L f sz)) (va_Qi (nPi E T [1, 2, 3, 4, 11, 13, 16] κ L f (fun (z : Int) (g : pF) => (-2147483648) ≤ z ∧ z ≤ 2147483647)) (cPost D E (pA L sz)) (pA L sz)) 0 0 (pA L sz) := by
  refine k_enter (own := R_So) (by decide) rfl (Nat.le_of_ble_eq_true rfl) (fun p e s m below meth c ls AV QQ H locs hQQ X Y hA hin hr hlk hml hl KS KR => ?_)
  have hl : lv_has ls 7 [(0, .ref h), (1, .ref a1)] := hl
  have S : tS E T (tFr κ L [1, 2, 3, 4, 11, 13, 16] []) κ L f κ L f := tS_rf hw
  refine lv_aload_n X.1 X.2.1 d_So_judgeCred_0 rfl (lv_at hl 1 rfl) ?_
  refine lv_sipush (v := iI 374) X.1 X.2.1 d_So_judgeCred_1 (by decide) ?_
  refine lv_iconst (v := iI 0) X.1 X.2.1 d_So_judgeCred_4 (by decide) ?_
  refine lv_aload_n X.1 X.2.1 d_So_judgeCred_5 rfl (lv_at hl 1 rfl) ?_
  refine t_gets (ci := 3) X Y S k1 rfl i_By 1 (by decide) rfl lk_So_141 (fun _ h9 => h9) d_So_judgeCred_6 (fun z1 e1 l1 u1 => ?_)
  refine t_ui (t_runV (As := [.int (iI 374), .int (iI 0), .int (iI z1)]) (rest := []) (n := 3) X Y S k1 hml hl.1 (c_By_isA l D E T κ L f H.size a1 n1 k1 (by omega) 374 (by omega) (by omega) 0 (by omega) (by omega) z1 (by omega) (by omega) S.1) (ok_k X Y hA KS KR) rfl kl_So_By_isA ks_By_isA kx_By_isA ki_By_isA ini_By ⟨rfl, rfl⟩ hd_By_isA ⟨Nat.le_of_ble_eq_true rfl, Nat.le_of_ble_eq_true rfl⟩ rfl (Nat.le_of_ble_eq_true rfl) d_So_judgeCred_9 ⟨Nat.le_of_ble_eq_true rfl, Nat.le_of_ble_eq_true rfl⟩) X Y hA (fun z2 H locs Y p2 => ?_)
  obtain ⟨l2, u2⟩ := p2
  refine lv_istore_n (lv' := [(2, .int (iI z2)), (0, .ref h), (1, .ref a1)]) X.1 X.2.1 d_So_judgeCred_12 rfl hl (by decide) rfl (fun ls hl => ?_)
  refine lv_aload_n X.1 X.2.1 d_So_judgeCred_13 rfl (lv_at hl 2 rfl) ?_
  refine lv_iconst (v := iI 0) X.1 X.2.1 d_So_judgeCred_14 (by decide) ?_
  refine lv_iconst (v := iI 2) X.1 X.2.1 d_So_judgeCred_15 (by decide) ?_
  refine t_ui (t_runV (As := [.int (iI 0), .int (iI 2)]) (rest := []) (n := 2) X Y S k1 hml hl.1 (c_By_field l D E T κ L f H.size a1 n1 k1 (by omega) 0 (by omega) (by omega) 2 (by omega) (by omega) S.1) (ok_k X Y hA KS KR) rfl kl_So_By_field ks_By_field kx_By_field ki_By_field ini_By ⟨rfl, rfl⟩ hd_By_field ⟨Nat.le_of_ble_eq_true rfl, Nat.le_of_ble_eq_true rfl⟩ rfl (Nat.le_of_ble_eq_true rfl) d_So_judgeCred_16 ⟨Nat.le_of_ble_eq_true rfl, Nat.le_of_ble_eq_true rfl⟩) X Y hA (fun z3 H locs Y p3 => ?_)
  obtain ⟨l3, u3⟩ := p3
  refine lv_istore_n (lv' := [(3, .int (iI z3)), (2, .int (iI z2)), (0, .ref h), (1, .ref a1)]) X.1 X.2.1 d_So_judgeCred_19 rfl hl (by decide) rfl (fun ls hl => ?_)
  refine lv_iload_n X.1 X.2.1 d_So_judgeCred_20 rfl (lv_at hl 1 rfl) ?_
  refine z_if_eq (tgt := 42) X.1 X.2.1 d_So_judgeCred_21 (by decide) ⟨by omega, by omega⟩ (fun h4 => ?_) (fun h4 => ?_)
  · refine lv_bipush (v := iI (-60)) X.1 X.2.1 d_So_judgeCred_42 (by decide) ?_
    exact c_reti hQQ X Y hr hlk ⟨rfl, S, (-60), rfl, ⟨by omega, by omega⟩⟩ d_So_judgeCred_44
  · refine lv_aload_n X.1 X.2.1 d_So_judgeCred_24 rfl (lv_at hl 3 rfl) ?_
    refine lv_iload_n X.1 X.2.1 d_So_judgeCred_25 rfl (lv_at hl 0 rfl) ?_
    refine lv_iconst (v := iI 0) X.1 X.2.1 d_So_judgeCred_26 (by decide) ?_
    refine t_ui (t_runV (As := [.int (iI z3), .int (iI 0)]) (rest := []) (n := 2) X Y S k1 hml hl.1 (c_By_element l D E T κ L f H.size a1 n1 k1 (by omega) z3 (by omega) (by omega) 0 (by omega) (by omega) S.1) (ok_k X Y hA KS KR) rfl kl_So_By_element ks_By_element kx_By_element ki_By_element ini_By ⟨rfl, rfl⟩ hd_By_element ⟨Nat.le_of_ble_eq_true rfl, Nat.le_of_ble_eq_true rfl⟩ rfl (Nat.le_of_ble_eq_true rfl) d_So_judgeCred_27 ⟨Nat.le_of_ble_eq_true rfl, Nat.le_of_ble_eq_true rfl⟩) X Y hA (fun z5 H locs Y p5 => ?_)
    obtain ⟨l5, u5⟩ := p5
    refine z_if_lt (tgt := 42) X.1 X.2.1 d_So_judgeCred_30 (by decide) ⟨by omega, by omega⟩ (fun h6 => ?_) (fun h6 => ?_)
    · refine lv_bipush (v := iI (-60)) X.1 X.2.1 d_So_judgeCred_42 (by decide) ?_
      exact c_reti hQQ X Y hr hlk ⟨rfl, S, (-60), rfl, ⟨by omega, by omega⟩⟩ d_So_judgeCred_44
    · refine lv_aload_n X.1 X.2.1 d_So_judgeCred_33 rfl (lv_at hl 3 rfl) ?_
      refine lv_iload_n X.1 X.2.1 d_So_judgeCred_34 rfl (lv_at hl 0 rfl) ?_
      refine lv_iconst (v := iI 1) X.1 X.2.1 d_So_judgeCred_35 (by decide) ?_
      refine t_ui (t_runV (As := [.int (iI z3), .int (iI 1)]) (rest := []) (n := 2) X Y S k1 hml hl.1 (c_By_element l D E T κ L f H.size a1 n1 k1 (by omega) z3 (by omega) (by omega) 1 (by omega) (by omega) S.1) (ok_k X Y hA KS KR) rfl kl_So_By_element ks_By_element kx_By_element ki_By_element ini_By ⟨rfl, rfl⟩ hd_By_element ⟨Nat.le_of_ble_eq_true rfl, Nat.le_of_ble_eq_true rfl⟩ rfl (Nat.le_of_ble_eq_true rfl) d_So_judgeCred_36 ⟨Nat.le_of_ble_eq_true rfl, Nat.le_of_ble_eq_true rfl⟩) X Y hA (fun z7 H locs Y p7 => ?_)
      obtain ⟨l7, u7⟩ := p7
      refine z_if_lt (tgt := 45) X.1 X.2.1 d_So_judgeCred_39 (by decide) ⟨by omega, by omega⟩ (fun h8 => ?_) (fun h8 => ?_)
      · refine lv_aload_n X.1 X.2.1 d_So_judgeCred_45 rfl (lv_at hl 3 rfl) ?_
        refine lv_sipush (v := iI 374) X.1 X.2.1 d_So_judgeCred_46 (by decide) ?_
        refine lv_bipush (v := iI 22) X.1 X.2.1 d_So_judgeCred_49 (by decide) ?_
        refine t_ui (x_runS (As := [.ref a1, .int (iI 374), .int (iI 22)]) (rest := []) (n := 3) X hml hl.1 (c_So_judgeHead l D E T κ L f H.size a1 n1 k1 (by omega) 374 (by omega) (by omega) 22 (by omega) (by omega) S.1) (ok_k X Y hA KS KR) kl_So_So_judgeHead ks_So_judgeHead ki_So_judgeHead ini_So ⟨rfl, rfl⟩ hd_So_judgeHead.2 ⟨Nat.le_of_ble_eq_true rfl, Nat.le_of_ble_eq_true rfl⟩ rfl (Nat.le_of_ble_eq_true rfl) d_So_judgeCred_51 ⟨Nat.le_of_ble_eq_true rfl, Nat.le_of_ble_eq_true rfl⟩) X Y hA (fun z9 H locs Y p9 => ?_)
        obtain ⟨l9, u9⟩ := p9
        refine lv_istore (lv' := [(4, .int (iI z9)), (3, .int (iI z3)), (2, .int (iI z2)), (0, .ref h), (1, .ref a1)]) X.1 X.2.1 d_So_judgeCred_54 hl (by decide) rfl (fun ls hl => ?_)
        refine lv_iload X.1 X.2.1 d_So_judgeCred_56 (lv_at hl 0 rfl) ?_
        refine z_if_ge (tgt := 64) X.1 X.2.1 d_So_judgeCred_58 (by decide) ⟨by omega, by omega⟩ (fun h10 => ?_) (fun h10 => ?_)
        · refine lv_aload_n X.1 X.2.1 d_So_judgeCred_64 rfl (lv_at hl 3 rfl) ?_
          refine t_getr (ci := 9) X Y S k0 rfl i_So 0 (by decide) rfl (k1 := 21) (k2 := 0) rfl rfl lk_So_35 (fun _ h9 => h9) d_So_judgeCred_65 (fun b11 e11 k11 => ?_)
          refine t_getr (ci := 11) X Y S k11 rfl i_Va 1 (by decide) rfl (k1 := 13) (k2 := 6144) rfl rfl lk_So_91 (fun _ h9 => h9) d_So_judgeCred_68 (fun b12 e12 k12 => ?_)
          refine lv_astore (lv' := [(5, .ref b12), (4, .int (iI z9)), (3, .int (iI z3)), (2, .int (iI z2)), (0, .ref h), (1, .ref a1)]) X.1 X.2.1 d_So_judgeCred_71 hl (by decide) rfl (fun ls hl => ?_)
          refine lv_aload_n X.1 X.2.1 d_So_judgeCred_73 rfl (lv_at hl 4 rfl) ?_
          refine t_get0 (ci := 9) X Y S k0 rfl i_So 0 (by decide) rfl lk_So_35 (fun _ h9 => h9) d_So_judgeCred_74 e11 ?_
          refine lv_aload_n X.1 X.2.1 d_So_judgeCred_77 rfl (lv_at hl 5 rfl) ?_
          refine lv_aload_n X.1 X.2.1 d_So_judgeCred_78 rfl (lv_at hl 5 rfl) ?_
          refine lv_iconst (v := iI 0) X.1 X.2.1 d_So_judgeCred_79 (by decide) ?_
          refine lv_iconst (v := iI 3) X.1 X.2.1 d_So_judgeCred_80 (by decide) ?_
          refine t_ui (t_runV (As := [.int (iI 0), .int (iI 3)]) (rest := [.ref a1, .ref b11]) (n := 2) X Y S k1 hml hl.1 (c_By_field l D E T κ L f H.size a1 n1 k1 (by omega) 0 (by omega) (by omega) 3 (by omega) (by omega) S.1) (ok_k X Y hA KS KR) rfl kl_So_By_field ks_By_field kx_By_field ki_By_field ini_By ⟨rfl, rfl⟩ hd_By_field ⟨Nat.le_of_ble_eq_true rfl, Nat.le_of_ble_eq_true rfl⟩ rfl (Nat.le_of_ble_eq_true rfl) d_So_judgeCred_81 ⟨Nat.le_of_ble_eq_true rfl, Nat.le_of_ble_eq_true rfl⟩) X Y hA (fun z13 H locs Y p13 => ?_)
          obtain ⟨l13, u13⟩ := p13
          refine lv_aload_n X.1 X.2.1 d_So_judgeCred_84 rfl (lv_at hl 4 rfl) ?_
          refine t_getk (ci := 9) X Y S k0 rfl i_So 3 (by decide) rfl lk_So_19 (fun _ h9 => h9) d_So_judgeCred_85 (fun b14 n14 e14 k14 x14 => ?_)
          refine lv_bipush (v := iI 14) X.1 X.2.1 d_So_judgeCred_88 (by decide) ?_
          refine lv_aload X.1 X.2.1 d_So_judgeCred_90 (lv_at hl 0 rfl) ?_
          refine t_ni (t_runV (As := [.ref a1, .int (iI z13), .ref b14, .int (iI 14), .ref b12]) (rest := []) (n := 5) X Y S k11 hml hl.1 (c_Va_opens l D E T κ L f H.size b11 k11 a1 n1 k1 (by omega) z13 (by omega) (by omega) b14 n14 k14 (by omega) 14 (by omega) (by omega) b12 6144 k12 (by omega) S.1) (ok_k X Y hA KS KR) rfl kl_So_Va_opens ks_Va_opens kx_Va_opens ki_Va_opens ini_Va ⟨rfl, rfl⟩ hd_Va_opens ⟨Nat.le_of_ble_eq_true rfl, Nat.le_of_ble_eq_true rfl⟩ rfl (Nat.le_of_ble_eq_true rfl) d_So_judgeCred_92 ⟨Nat.le_of_ble_eq_true rfl, Nat.le_of_ble_eq_true rfl⟩) X Y hA S (by decide) (fun z15 f15 H locs Y S s15 p15 => ?_)
          obtain ⟨l15, u15⟩ := p15
          refine z_if_ne (tgt := 101) X.1 X.2.1 d_So_judgeCred_95 (by decide) ⟨by omega, by omega⟩ (fun h16 => ?_) (fun h16 => ?_)
          · refine lv_aload X.1 X.2.1 d_So_judgeCred_101 (lv_at hl 0 rfl) ?_
            refine lv_sipush (v := iI 381) X.1 X.2.1 d_So_judgeCred_103 (by decide) ?_
            refine lv_iconst (v := iI 0) X.1 X.2.1 d_So_judgeCred_106 (by decide) ?_
            refine lv_aload X.1 X.2.1 d_So_judgeCred_107 (lv_at hl 0 rfl) ?_
            refine t_gets (ci := 3) X Y S k12 rfl i_By 1 (by decide) rfl lk_So_141 (fun _ h9 => h9) d_So_judgeCred_109 (fun z17 e17 l17 u17 => ?_)
            refine t_ui (t_runV (As := [.int (iI 381), .int (iI 0), .int (iI z17)]) (rest := []) (n := 3) X Y S k12 hml hl.1 (c_By_isA l D E T κ L f15 H.size b12 6144 k12 (by omega) 381 (by omega) (by omega) 0 (by omega) (by omega) z17 (by omega) (by omega) S.1) (ok_k X Y hA KS KR) rfl kl_So_By_isA ks_By_isA kx_By_isA ki_By_isA ini_By ⟨rfl, rfl⟩ hd_By_isA ⟨Nat.le_of_ble_eq_true rfl, Nat.le_of_ble_eq_true rfl⟩ rfl (Nat.le_of_ble_eq_true rfl) d_So_judgeCred_112 ⟨Nat.le_of_ble_eq_true rfl, Nat.le_of_ble_eq_true rfl⟩) X Y hA (fun z18 H locs Y p18 => ?_)
            obtain ⟨l18, u18⟩ := p18
            refine z_if_eq (tgt := 133) X.1 X.2.1 d_So_judgeCred_115 (by decide) ⟨by omega, by omega⟩ (fun h19 => ?_) (fun h19 => ?_)
            · refine lv_bipush (v := iI (-60)) X.1 X.2.1 d_So_judgeCred_133 (by decide) ?_
              exact c_reti hQQ X Y hr hlk ⟨rfl, S, (-60), rfl, ⟨by omega, by omega⟩⟩ d_So_judgeCred_135
            · refine lv_aload X.1 X.2.1 d_So_judgeCred_118 (lv_at hl 0 rfl) ?_
              refine lv_aload X.1 X.2.1 d_So_judgeCred_120 (lv_at hl 0 rfl) ?_
              refine lv_iconst (v := iI 0) X.1 X.2.1 d_So_judgeCred_122 (by decide) ?_
              refine lv_iconst (v := iI 0) X.1 X.2.1 d_So_judgeCred_123 (by decide) ?_
              refine t_ui (t_runV (As := [.int (iI 0), .int (iI 0)]) (rest := [.ref b12]) (n := 2) X Y S k12 hml hl.1 (c_By_field l D E T κ L f15 H.size b12 6144 k12 (by omega) 0 (by omega) (by omega) 0 (by omega) (by omega) S.1) (ok_k X Y hA KS KR) rfl kl_So_By_field ks_By_field kx_By_field ki_By_field ini_By ⟨rfl, rfl⟩ hd_By_field ⟨Nat.le_of_ble_eq_true rfl, Nat.le_of_ble_eq_true rfl⟩ rfl (Nat.le_of_ble_eq_true rfl) d_So_judgeCred_124 ⟨Nat.le_of_ble_eq_true rfl, Nat.le_of_ble_eq_true rfl⟩) X Y hA (fun z20 H locs Y p20 => ?_)
              obtain ⟨l20, u20⟩ := p20
              refine t_ui (x_runS (As := [.ref b12, .int (iI z20)]) (rest := []) (n := 2) X hml hl.1 (c_So_isWholeInfo l D E T κ L f15 H.size b12 6144 k12 (by omega) z20 (by omega) (by omega) S.1) (ok_k X Y hA KS KR) kl_So_So_isWholeInfo ks_So_isWholeInfo ki_So_isWholeInfo ini_So ⟨rfl, rfl⟩ hd_So_isWholeInfo.2 ⟨Nat.le_of_ble_eq_true rfl, Nat.le_of_ble_eq_true rfl⟩ rfl (Nat.le_of_ble_eq_true rfl) d_So_judgeCred_127 ⟨Nat.le_of_ble_eq_true rfl, Nat.le_of_ble_eq_true rfl⟩) X Y hA (fun z21 H locs Y p21 => ?_)
              obtain ⟨l21, u21⟩ := p21
              refine z_if_ne (tgt := 136) X.1 X.2.1 d_So_judgeCred_130 (by decide) ⟨by omega, by omega⟩ (fun h22 => ?_) (fun h22 => ?_)
              · refine lv_aload X.1 X.2.1 d_So_judgeCred_136 (lv_at hl 0 rfl) ?_
                refine lv_aload X.1 X.2.1 d_So_judgeCred_138 (lv_at hl 0 rfl) ?_
                refine lv_iconst (v := iI 0) X.1 X.2.1 d_So_judgeCred_140 (by decide) ?_
                refine lv_iconst (v := iI 2) X.1 X.2.1 d_So_judgeCred_141 (by decide) ?_
                refine t_ui (t_runV (As := [.int (iI 0), .int (iI 2)]) (rest := [.ref b12]) (n := 2) X Y S k12 hml hl.1 (c_By_field l D E T κ L f15 H.size b12 6144 k12 (by omega) 0 (by omega) (by omega) 2 (by omega) (by omega) S.1) (ok_k X Y hA KS KR) rfl kl_So_By_field ks_By_field kx_By_field ki_By_field ini_By ⟨rfl, rfl⟩ hd_By_field ⟨Nat.le_of_ble_eq_true rfl, Nat.le_of_ble_eq_true rfl⟩ rfl (Nat.le_of_ble_eq_true rfl) d_So_judgeCred_142 ⟨Nat.le_of_ble_eq_true rfl, Nat.le_of_ble_eq_true rfl⟩) X Y hA (fun z23 H locs Y p23 => ?_)
                obtain ⟨l23, u23⟩ := p23
                refine t_ui (t_runV (As := [.int (iI z23)]) (rest := []) (n := 1) X Y S k12 hml hl.1 (c_By_timeAt l D E T κ L f15 H.size b12 6144 k12 (by omega) z23 (by omega) (by omega) S.1) (ok_k X Y hA KS KR) rfl kl_So_By_timeAt ks_By_timeAt kx_By_timeAt ki_By_timeAt ini_By ⟨rfl, rfl⟩ hd_By_timeAt ⟨Nat.le_of_ble_eq_true rfl, Nat.le_of_ble_eq_true rfl⟩ rfl (Nat.le_of_ble_eq_true rfl) d_So_judgeCred_145 ⟨Nat.le_of_ble_eq_true rfl, Nat.le_of_ble_eq_true rfl⟩) X Y hA (fun z24 H locs Y p24 => ?_)
                obtain ⟨l24, u24⟩ := p24
                refine lv_istore (lv' := [(6, .int (iI z24)), (5, .ref b12), (4, .int (iI z9)), (3, .int (iI z3)), (2, .int (iI z2)), (0, .ref h), (1, .ref a1)]) X.1 X.2.1 d_So_judgeCred_148 hl (by decide) rfl (fun ls hl => ?_)
                refine lv_iload X.1 X.2.1 d_So_judgeCred_150 (lv_at hl 0 rfl) ?_
                refine z_if_lt (tgt := 174) X.1 X.2.1 d_So_judgeCred_152 (by decide) ⟨by omega, by omega⟩ (fun h25 => ?_) (fun h25 => ?_)
                · refine lv_bipush (v := iI (-37)) X.1 X.2.1 d_So_judgeCred_174 (by decide) ?_
                  refine lv_goto (tgt := 180) X.1 X.2.1 d_So_judgeCred_176 (by decide) ?_
                  exact c_reti hQQ X Y hr hlk ⟨rfl, S, (-37), rfl, ⟨by omega, by omega⟩⟩ d_So_judgeCred_180
                · refine lv_iload X.1 X.2.1 d_So_judgeCred_155 (lv_at hl 0 rfl) ?_
                  refine lv_aload_n X.1 X.2.1 d_So_judgeCred_157 rfl (lv_at hl 5 rfl) ?_
                  refine t_get0 (ci := 9) X Y S k0 rfl i_So 0 (by decide) rfl lk_So_35 (fun _ h9 => h9) d_So_judgeCred_158 ((gF_same (s15.2.2.2 _ ⟨(t_obj S.1 k0).1, by rw [k0]; decide, by simp⟩).1 0).trans e11) ?_
                  refine t_geti (ci := 11) X Y S k11 rfl i_Va 0 (by decide) rfl lk_So_241 (fun _ h9 => h9) d_So_judgeCred_161 (fun z26 e26 l26 u26 => ?_)
                  refine lv_isub X.1 X.2.1 d_So_judgeCred_164 ?_
                  refine t_u (fun z27 l27 u27 => ?_)
                  refine va_mabs X.1 X.2.1 (hml.trans hl.1.symm) X.2.2.2.1 (X.2.2.1 _ kl_So_mabs) (X.2.2.1 _ ks_mabs) (X.2.2.1 _ ini_Math) (X.2.2.1 _ ki_mabs) (Nat.le_of_ble_eq_true rfl) (Nat.le_of_ble_eq_true rfl) (Nat.le_of_ble_eq_true rfl) (Nat.le_of_ble_eq_true rfl) d_So_judgeCred_165 ?_
                  refine t_u (fun z28 l28 u28 => ?_)
                  refine lv_sipush (v := iI 300) X.1 X.2.1 d_So_judgeCred_168 (by decide) ?_
                  refine z_icmp_le (tgt := 179) X.1 X.2.1 d_So_judgeCred_171 (by decide) ⟨by omega, by omega⟩ ⟨by omega, by omega⟩ (fun h29 => ?_) (fun h29 => ?_)
                  · refine lv_iconst (v := iI 0) X.1 X.2.1 d_So_judgeCred_179 (by decide) ?_
                    exact c_reti hQQ X Y hr hlk ⟨rfl, S, 0, rfl, ⟨by omega, by omega⟩⟩ d_So_judgeCred_180
                  · refine lv_bipush (v := iI (-37)) X.1 X.2.1 d_So_judgeCred_174 (by decide) ?_
                    refine lv_goto (tgt := 180) X.1 X.2.1 d_So_judgeCred_176 (by decide) ?_
                    exact c_reti hQQ X Y hr hlk ⟨rfl, S, (-37), rfl, ⟨by omega, by omega⟩⟩ d_So_judgeCred_180
              · refine lv_bipush (v := iI (-60)) X.1 X.2.1 d_So_judgeCred_133 (by decide) ?_
                exact c_reti hQQ X Y hr hlk ⟨rfl, S, (-60), rfl, ⟨by omega, by omega⟩⟩ d_So_judgeCred_135
          · refine lv_bipush (v := iI (-31)) X.1 X.2.1 d_So_judgeCred_98 (by decide) ?_
            exact c_reti hQQ X Y hr hlk ⟨rfl, S, (-31), rfl, ⟨by omega, by omega⟩⟩ d_So_judgeCred_100
        · refine lv_iload X.1 X.2.1 d_So_judgeCred_61 (lv_at hl 0 rfl) ?_
          exact c_reti hQQ X Y hr hlk ⟨rfl, S, z9, rfl, ⟨by omega, by omega⟩⟩ d_So_judgeCred_63
      · refine lv_bipush (v := iI (-60)) X.1 X.2.1 d_So_judgeCred_42 (by decide) ?_
        exact c_reti hQQ X Y hr hlk ⟨rfl, S, (-60), rfl, ⟨by omega, by omega⟩⟩ d_So_judgeCred_44
