set_option maxHeartbeats 4000000 in
set_option maxRecDepth 100000 in
theorem c_So_putApRep (l : Launch) (D : va_G) (E : cE) (T : cT) (κ : tK) (L : List Nat) (f : pF) (sz : Nat) (h : Nat) (k0 : κ h = (19, 0)) (a1 n1 : Nat) (k1 : κ a1 = (13, n1)) (x1 : n1 ≤ 12288) (hw : tW E T κ L f) : Met l y_So_putApRep (k_So_putApRep :: lw_tg) (kRm 6 187 0 0) (va_Pc [.ref h, .ref a1] (kPre D E T L f sz)) (va_Qv (nPv E T [1, 2, 3, 4, 11, 13, 16, 21] κ L f (fun (g : pF) => True)) (cPost D E (pA L sz)) (pA L sz)) 0 0 (pA L sz) := by
  refine k_enter (own := R_So) (by decide) rfl (Nat.le_of_ble_eq_true rfl) (fun p e s m below meth c ls AV QQ H locs hQQ X Y hA hin hr hlk hml hl KS KR => ?_)
  have hl : lv_has ls 8 [(0, .ref h), (1, .ref a1)] := hl
  have S : tS E T (tFr κ L [1, 2, 3, 4, 11, 13, 16, 21] []) κ L f κ L f := tS_rf hw
  refine lv_aload_n X.1 X.2.1 d_So_putApRep_0 rfl (lv_at hl 0 rfl) ?_
  refine t_getr (ci := 9) X Y S k0 rfl i_So 0 (by decide) rfl (k1 := 21) (k2 := 0) rfl rfl lk_So_35 (fun _ h9 => h9) d_So_putApRep_1 (fun b101 e101 k101 => ?_)
  refine t_getr (ci := 11) X Y S k101 rfl i_Va 1 (by decide) rfl (k1 := 13) (k2 := 6144) rfl rfl lk_So_91 (fun _ h9 => h9) d_So_putApRep_4 (fun b102 e102 k102 => ?_)
  refine lv_astore_n (lv' := [(2, .ref b102), (0, .ref h), (1, .ref a1)]) X.1 X.2.1 d_So_putApRep_7 rfl hl (by decide) rfl (fun ls hl => ?_)
  refine lv_aload_n X.1 X.2.1 d_So_putApRep_8 rfl (lv_at hl 0 rfl) ?_
  refine t_nv (t_runV (As := []) (rest := []) (n := 0) X Y S k102 hml hl.1 (c_By_clear l D E T κ L f H.size b102 6144 k102 (by omega) S.1) (ok_k X Y hA KS KR) rfl kl_So_By_clear ks_By_clear kx_By_clear ki_By_clear ini_By ⟨rfl, rfl⟩ hd_By_clear ⟨Nat.le_of_ble_eq_true rfl, Nat.le_of_ble_eq_true rfl⟩ rfl (Nat.le_of_ble_eq_true rfl) d_So_putApRep_9 ⟨Nat.le_of_ble_eq_true rfl, Nat.le_of_ble_eq_true rfl⟩) X Y hA S (by decide) (fun f103 H locs Y S s103 p103 => ?_)
  refine lv_aload_n X.1 X.2.1 d_So_putApRep_12 rfl (lv_at hl 0 rfl) ?_
  refine lv_bipush (v := iI 123) X.1 X.2.1 d_So_putApRep_13 (by decide) ?_
  refine t_ni (t_runV (As := [.int (iI 123)]) (rest := []) (n := 1) X Y S k102 hml hl.1 (c_By_open l D E T κ L f103 H.size b102 6144 k102 (by omega) 123 (by omega) (by omega) S.1) (ok_k X Y hA KS KR) rfl kl_So_By_open ks_By_open kx_By_open ki_By_open ini_By ⟨rfl, rfl⟩ hd_By_open ⟨Nat.le_of_ble_eq_true rfl, Nat.le_of_ble_eq_true rfl⟩ rfl (Nat.le_of_ble_eq_true rfl) d_So_putApRep_15 ⟨Nat.le_of_ble_eq_true rfl, Nat.le_of_ble_eq_true rfl⟩) X Y hA S (by decide) (fun z104 f104 H locs Y S s104 p104 => ?_)
  obtain ⟨l104, u104⟩ := p104
  refine lv_istore_n (lv' := [(3, .int (iI z104)), (2, .ref b102), (0, .ref h), (1, .ref a1)]) X.1 X.2.1 d_So_putApRep_18 rfl hl (by decide) rfl (fun ls hl => ?_)
  refine lv_aload_n X.1 X.2.1 d_So_putApRep_19 rfl (lv_at hl 1 rfl) ?_
  refine lv_bipush (v := iI 48) X.1 X.2.1 d_So_putApRep_20 (by decide) ?_
  refine t_ni (t_runV (As := [.int (iI 48)]) (rest := []) (n := 1) X Y S k102 hml hl.1 (c_By_open l D E T κ L f104 H.size b102 6144 k102 (by omega) 48 (by omega) (by omega) S.1) (ok_k X Y hA KS KR) rfl kl_So_By_open ks_By_open kx_By_open ki_By_open ini_By ⟨rfl, rfl⟩ hd_By_open ⟨Nat.le_of_ble_eq_true rfl, Nat.le_of_ble_eq_true rfl⟩ rfl (Nat.le_of_ble_eq_true rfl) d_So_putApRep_22 ⟨Nat.le_of_ble_eq_true rfl, Nat.le_of_ble_eq_true rfl⟩) X Y hA S (by decide) (fun z105 f105 H locs Y S s105 p105 => ?_)
  obtain ⟨l105, u105⟩ := p105
  refine lv_istore (lv' := [(4, .int (iI z105)), (3, .int (iI z104)), (2, .ref b102), (0, .ref h), (1, .ref a1)]) X.1 X.2.1 d_So_putApRep_25 hl (by decide) rfl (fun ls hl => ?_)
  refine lv_aload_n X.1 X.2.1 d_So_putApRep_27 rfl (lv_at hl 2 rfl) ?_
  refine lv_iconst (v := iI 0) X.1 X.2.1 d_So_putApRep_28 (by decide) ?_
  refine lv_aload_n X.1 X.2.1 d_So_putApRep_29 rfl (lv_at hl 3 rfl) ?_
  refine t_geti (ci := 9) X Y S k0 rfl i_So 5 (by decide) rfl lk_So_66 (fun _ h9 => h9) d_So_putApRep_30 (fun z106 e106 l106 u106 => ?_)
  refine t_nv (t_runV (As := [.int (iI 0), .int (iI z106)]) (rest := []) (n := 2) X Y S k102 hml hl.1 (c_By_putTime l D E T κ L f105 H.size b102 6144 k102 (by omega) 0 (by omega) (by omega) z106 (by omega) (by omega) S.1) (ok_k X Y hA KS KR) rfl kl_So_By_putTime ks_By_putTime kx_By_putTime ki_By_putTime ini_By ⟨rfl, rfl⟩ hd_By_putTime ⟨Nat.le_of_ble_eq_true rfl, Nat.le_of_ble_eq_true rfl⟩ rfl (Nat.le_of_ble_eq_true rfl) d_So_putApRep_33 ⟨Nat.le_of_ble_eq_true rfl, Nat.le_of_ble_eq_true rfl⟩) X Y hA S (by decide) (fun f107 H locs Y S s107 p107 => ?_)
  refine lv_aload_n X.1 X.2.1 d_So_putApRep_36 rfl (lv_at hl 2 rfl) ?_
  refine lv_iconst (v := iI 1) X.1 X.2.1 d_So_putApRep_37 (by decide) ?_
  refine lv_aload_n X.1 X.2.1 d_So_putApRep_38 rfl (lv_at hl 3 rfl) ?_
  refine t_geti (ci := 9) X Y S k0 rfl i_So 6 (by decide) rfl lk_So_73 (fun _ h9 => h9) d_So_putApRep_39 (fun z108 e108 l108 u108 => ?_)
  refine lv_i2l X.1 X.2.1 d_So_putApRep_42 rfl ?_
  refine t_anyl (fun v109 => ?_)
  refine t_nv (t_runV (As := [.int (iI 1), .long v109]) (rest := []) (n := 2) X Y S k102 hml hl.1 (c_By_putNumber l D E T κ L f107 H.size b102 6144 k102 (by omega) 1 (by omega) (by omega) v109 S.1) (ok_k X Y hA KS KR) rfl kl_So_By_putNumber ks_By_putNumber kx_By_putNumber ki_By_putNumber ini_By ⟨rfl, rfl⟩ hd_By_putNumber ⟨Nat.le_of_ble_eq_true rfl, Nat.le_of_ble_eq_true rfl⟩ rfl (Nat.le_of_ble_eq_true rfl) d_So_putApRep_43 ⟨Nat.le_of_ble_eq_true rfl, Nat.le_of_ble_eq_true rfl⟩) X Y hA S (by decide) (fun f110 H locs Y S s110 p110 => ?_)
  refine lv_aload_n X.1 X.2.1 d_So_putApRep_46 rfl (lv_at hl 3 rfl) ?_
  refine t_getl (ci := 9) X Y S k0 rfl i_So 7 (by decide) rfl lk_So_78 (fun _ h9 => h9) d_So_putApRep_47 (fun v111 e111 => ?_)
  refine lv_lconst (v := 0) X.1 X.2.1 d_So_putApRep_50 rfl ?_
  refine W.lcmp X.1 X.2.1 d_So_putApRep_51 ?_
  refine t_u (fun z112 l112 u112 => ?_)
  have J114 : ∀ (f113 : pF) (H : Heap) (locs : List Loc) (ls : Array Slot), pH D cCl (pA L sz) s.heap L f113 H locs → tS E T (tFr κ L [1, 2, 3, 4, 11, 13, 16, 21] []) κ L f κ L f113 → lv_has ls 8 [(0, .ref h), (1, .ref a1), (2, .ref b102), (3, .int (iI z104)), (4, .int (iI z105))] → W p l e (kRm 6 187 0 0) s m AV below meth c H locs 0 0 QQ (F0 m 67 ls []) := by
    intro f113 H locs ls  Y S hl
    refine lv_aload_n X.1 X.2.1 d_So_putApRep_67 rfl (lv_at hl 2 rfl) ?_
    refine lv_iload X.1 X.2.1 d_So_putApRep_68 (lv_at hl 4 rfl) ?_
    refine t_nv (t_runV (As := [.int (iI z105)]) (rest := []) (n := 1) X Y S k102 hml hl.1 (c_By_close l D E T κ L f113 H.size b102 6144 k102 (by omega) z105 (by omega) (by omega) S.1) (ok_k X Y hA KS KR) rfl kl_So_By_close ks_By_close kx_By_close ki_By_close ini_By ⟨rfl, rfl⟩ hd_By_close ⟨Nat.le_of_ble_eq_true rfl, Nat.le_of_ble_eq_true rfl⟩ rfl (Nat.le_of_ble_eq_true rfl) d_So_putApRep_70 ⟨Nat.le_of_ble_eq_true rfl, Nat.le_of_ble_eq_true rfl⟩) X Y hA S (by decide) (fun f118 H locs Y S s118 p118 => ?_)
    refine lv_aload_n X.1 X.2.1 d_So_putApRep_73 rfl (lv_at hl 2 rfl) ?_
    refine lv_iload_n X.1 X.2.1 d_So_putApRep_74 rfl (lv_at hl 3 rfl) ?_
    refine t_nv (t_runV (As := [.int (iI z104)]) (rest := []) (n := 1) X Y S k102 hml hl.1 (c_By_close l D E T κ L f118 H.size b102 6144 k102 (by omega) z104 (by omega) (by omega) S.1) (ok_k X Y hA KS KR) rfl kl_So_By_close ks_By_close kx_By_close ki_By_close ini_By ⟨rfl, rfl⟩ hd_By_close ⟨Nat.le_of_ble_eq_true rfl, Nat.le_of_ble_eq_true rfl⟩ rfl (Nat.le_of_ble_eq_true rfl) d_So_putApRep_75 ⟨Nat.le_of_ble_eq_true rfl, Nat.le_of_ble_eq_true rfl⟩) X Y hA S (by decide) (fun f119 H locs Y S s119 p119 => ?_)
    refine lv_aload_n X.1 X.2.1 d_So_putApRep_78 rfl (lv_at hl 1 rfl) ?_
    refine lv_bipush (v := iI 111) X.1 X.2.1 d_So_putApRep_79 (by decide) ?_
    refine t_ni (t_runV (As := [.int (iI 111)]) (rest := []) (n := 1) X Y S k1 hml hl.1 (c_By_open l D E T κ L f119 H.size a1 n1 k1 (by omega) 111 (by omega) (by omega) S.1) (ok_k X Y hA KS KR) rfl kl_So_By_open ks_By_open kx_By_open ki_By_open ini_By ⟨rfl, rfl⟩ hd_By_open ⟨Nat.le_of_ble_eq_true rfl, Nat.le_of_ble_eq_true rfl⟩ rfl (Nat.le_of_ble_eq_true rfl) d_So_putApRep_81 ⟨Nat.le_of_ble_eq_true rfl, Nat.le_of_ble_eq_true rfl⟩) X Y hA S (by decide) (fun z120 f120 H locs Y S s120 p120 => ?_)
    obtain ⟨l120, u120⟩ := p120
    refine lv_istore (lv' := [(5, .int (iI z120)), (0, .ref h), (1, .ref a1), (2, .ref b102), (3, .int (iI z104)), (4, .int (iI z105))]) X.1 X.2.1 d_So_putApRep_84 hl (by decide) rfl (fun ls hl => ?_)
    refine lv_aload_n X.1 X.2.1 d_So_putApRep_86 rfl (lv_at hl 2 rfl) ?_
    refine lv_bipush (v := iI 48) X.1 X.2.1 d_So_putApRep_87 (by decide) ?_
    refine t_ni (t_runV (As := [.int (iI 48)]) (rest := []) (n := 1) X Y S k1 hml hl.1 (c_By_open l D E T κ L f120 H.size a1 n1 k1 (by omega) 48 (by omega) (by omega) S.1) (ok_k X Y hA KS KR) rfl kl_So_By_open ks_By_open kx_By_open ki_By_open ini_By ⟨rfl, rfl⟩ hd_By_open ⟨Nat.le_of_ble_eq_true rfl, Nat.le_of_ble_eq_true rfl⟩ rfl (Nat.le_of_ble_eq_true rfl) d_So_putApRep_89 ⟨Nat.le_of_ble_eq_true rfl, Nat.le_of_ble_eq_true rfl⟩) X Y hA S (by decide) (fun z121 f121 H locs Y S s121 p121 => ?_)
    obtain ⟨l121, u121⟩ := p121
    refine lv_istore (lv' := [(6, .int (iI z121)), (5, .int (iI z120)), (0, .ref h), (1, .ref a1), (2, .ref b102), (3, .int (iI z104)), (4, .int (iI z105))]) X.1 X.2.1 d_So_putApRep_92 hl (by decide) rfl (fun ls hl => ?_)
    refine lv_aload_n X.1 X.2.1 d_So_putApRep_94 rfl (lv_at hl 3 rfl) ?_
    refine lv_iconst (v := iI 0) X.1 X.2.1 d_So_putApRep_95 (by decide) ?_
    refine lv_ldc2 (v := (5)) X.1 X.2.1 X.2.2.2.1 (X.2.2.1 _ cl_So_112) d_So_putApRep_96 ?_
    refine t_nv (t_runV (As := [.int (iI 0), .long ((5))]) (rest := []) (n := 2) X Y S k1 hml hl.1 (c_By_putNumber l D E T κ L f121 H.size a1 n1 k1 (by omega) 0 (by omega) (by omega) ((5)) S.1) (ok_k X Y hA KS KR) rfl kl_So_By_putNumber ks_By_putNumber kx_By_putNumber ki_By_putNumber ini_By ⟨rfl, rfl⟩ hd_By_putNumber ⟨Nat.le_of_ble_eq_true rfl, Nat.le_of_ble_eq_true rfl⟩ rfl (Nat.le_of_ble_eq_true rfl) d_So_putApRep_99 ⟨Nat.le_of_ble_eq_true rfl, Nat.le_of_ble_eq_true rfl⟩) X Y hA S (by decide) (fun f122 H locs Y S s122 p122 => ?_)
    refine lv_aload_n X.1 X.2.1 d_So_putApRep_102 rfl (lv_at hl 3 rfl) ?_
    refine lv_iconst (v := iI 1) X.1 X.2.1 d_So_putApRep_103 (by decide) ?_
    refine lv_ldc2 (v := (15)) X.1 X.2.1 X.2.2.2.1 (X.2.2.1 _ cl_So_114) d_So_putApRep_104 ?_
    refine t_nv (t_runV (As := [.int (iI 1), .long ((15))]) (rest := []) (n := 2) X Y S k1 hml hl.1 (c_By_putNumber l D E T κ L f122 H.size a1 n1 k1 (by omega) 1 (by omega) (by omega) ((15)) S.1) (ok_k X Y hA KS KR) rfl kl_So_By_putNumber ks_By_putNumber kx_By_putNumber ki_By_putNumber ini_By ⟨rfl, rfl⟩ hd_By_putNumber ⟨Nat.le_of_ble_eq_true rfl, Nat.le_of_ble_eq_true rfl⟩ rfl (Nat.le_of_ble_eq_true rfl) d_So_putApRep_107 ⟨Nat.le_of_ble_eq_true rfl, Nat.le_of_ble_eq_true rfl⟩) X Y hA S (by decide) (fun f123 H locs Y S s123 p123 => ?_)
    refine lv_aload_n X.1 X.2.1 d_So_putApRep_110 rfl (lv_at hl 3 rfl) ?_
    refine lv_iconst (v := iI 2) X.1 X.2.1 d_So_putApRep_111 (by decide) ?_
    refine t_ni (t_runV (As := [.int (iI 2)]) (rest := []) (n := 1) X Y S k1 hml hl.1 (c_By_openField l D E T κ L f123 H.size a1 n1 k1 (by omega) 2 (by omega) (by omega) S.1) (ok_k X Y hA KS KR) rfl kl_So_By_openField ks_By_openField kx_By_openField ki_By_openField ini_By ⟨rfl, rfl⟩ hd_By_openField ⟨Nat.le_of_ble_eq_true rfl, Nat.le_of_ble_eq_true rfl⟩ rfl (Nat.le_of_ble_eq_true rfl) d_So_putApRep_112 ⟨Nat.le_of_ble_eq_true rfl, Nat.le_of_ble_eq_true rfl⟩) X Y hA S (by decide) (fun z124 f124 H locs Y S s124 p124 => ?_)
    obtain ⟨l124, u124⟩ := p124
    refine lv_istore (lv' := [(7, .int (iI z124)), (6, .int (iI z121)), (5, .int (iI z120)), (0, .ref h), (1, .ref a1), (2, .ref b102), (3, .int (iI z104)), (4, .int (iI z105))]) X.1 X.2.1 d_So_putApRep_115 hl (by decide) rfl (fun ls hl => ?_)
    refine lv_aload_n X.1 X.2.1 d_So_putApRep_117 rfl (lv_at hl 3 rfl) ?_
    refine t_getr (ci := 9) X Y S k0 rfl i_So 0 (by decide) rfl (k1 := 21) (k2 := 0) rfl rfl lk_So_35 (fun _ h9 => h9) d_So_putApRep_118 (fun b125 e125 k125 => ?_)
    refine lv_aload_n X.1 X.2.1 d_So_putApRep_121 rfl (lv_at hl 4 rfl) ?_
    refine lv_aload_n X.1 X.2.1 d_So_putApRep_122 rfl (lv_at hl 3 rfl) ?_
    refine t_getk (ci := 9) X Y S k0 rfl i_So 4 (by decide) rfl lk_So_22 (fun _ h9 => h9) d_So_putApRep_123 (fun b126 n126 e126 k126 x126 => ?_)
    refine lv_bipush (v := iI 12) X.1 X.2.1 d_So_putApRep_126 (by decide) ?_
    refine lv_iconst (v := iI 0) X.1 X.2.1 d_So_putApRep_128 (by decide) ?_
    refine t_nv (t_runV (As := [.ref a1, .ref b126, .int (iI 12), .int (iI 0)]) (rest := []) (n := 4) X Y S k125 hml hl.1 (c_Va_putSealed l D E T κ L f124 H.size b125 k125 a1 n1 k1 (by omega) b126 n126 k126 (by omega) 12 (by omega) (by omega) 0 (by omega) (by omega) S.1) (ok_k X Y hA KS KR) rfl kl_So_Va_putSealed ks_Va_putSealed kx_Va_putSealed ki_Va_putSealed ini_Va ⟨rfl, rfl⟩ hd_Va_putSealed ⟨Nat.le_of_ble_eq_true rfl, Nat.le_of_ble_eq_true rfl⟩ rfl (Nat.le_of_ble_eq_true rfl) d_So_putApRep_129 ⟨Nat.le_of_ble_eq_true rfl, Nat.le_of_ble_eq_true rfl⟩) X Y hA S (by decide) (fun f127 H locs Y S s127 p127 => ?_)
    refine lv_aload_n X.1 X.2.1 d_So_putApRep_132 rfl (lv_at hl 4 rfl) ?_
    refine lv_iload X.1 X.2.1 d_So_putApRep_133 (lv_at hl 0 rfl) ?_
    refine t_nv (t_runV (As := [.int (iI z124)]) (rest := []) (n := 1) X Y S k1 hml hl.1 (c_By_close l D E T κ L f127 H.size a1 n1 k1 (by omega) z124 (by omega) (by omega) S.1) (ok_k X Y hA KS KR) rfl kl_So_By_close ks_By_close kx_By_close ki_By_close ini_By ⟨rfl, rfl⟩ hd_By_close ⟨Nat.le_of_ble_eq_true rfl, Nat.le_of_ble_eq_true rfl⟩ rfl (Nat.le_of_ble_eq_true rfl) d_So_putApRep_135 ⟨Nat.le_of_ble_eq_true rfl, Nat.le_of_ble_eq_true rfl⟩) X Y hA S (by decide) (fun f128 H locs Y S s128 p128 => ?_)
    refine lv_aload_n X.1 X.2.1 d_So_putApRep_138 rfl (lv_at hl 4 rfl) ?_
    refine lv_iload X.1 X.2.1 d_So_putApRep_139 (lv_at hl 1 rfl) ?_
    refine t_nv (t_runV (As := [.int (iI z121)]) (rest := []) (n := 1) X Y S k1 hml hl.1 (c_By_close l D E T κ L f128 H.size a1 n1 k1 (by omega) z121 (by omega) (by omega) S.1) (ok_k X Y hA KS KR) rfl kl_So_By_close ks_By_close kx_By_close ki_By_close ini_By ⟨rfl, rfl⟩ hd_By_close ⟨Nat.le_of_ble_eq_true rfl, Nat.le_of_ble_eq_true rfl⟩ rfl (Nat.le_of_ble_eq_true rfl) d_So_putApRep_141 ⟨Nat.le_of_ble_eq_true rfl, Nat.le_of_ble_eq_true rfl⟩) X Y hA S (by decide) (fun f129 H locs Y S s129 p129 => ?_)
    refine lv_aload_n X.1 X.2.1 d_So_putApRep_144 rfl (lv_at hl 4 rfl) ?_
    refine lv_iload X.1 X.2.1 d_So_putApRep_145 (lv_at hl 2 rfl) ?_
    refine t_nv (t_runV (As := [.int (iI z120)]) (rest := []) (n := 1) X Y S k1 hml hl.1 (c_By_close l D E T κ L f129 H.size a1 n1 k1 (by omega) z120 (by omega) (by omega) S.1) (ok_k X Y hA KS KR) rfl kl_So_By_close ks_By_close kx_By_close ki_By_close ini_By ⟨rfl, rfl⟩ hd_By_close ⟨Nat.le_of_ble_eq_true rfl, Nat.le_of_ble_eq_true rfl⟩ rfl (Nat.le_of_ble_eq_true rfl) d_So_putApRep_147 ⟨Nat.le_of_ble_eq_true rfl, Nat.le_of_ble_eq_true rfl⟩) X Y hA S (by decide) (fun f130 H locs Y S s130 p130 => ?_)
    exact c_retv hQQ X Y hr hlk ⟨rfl, S, trivial⟩ d_So_putApRep_150
  refine z_if_lt (tgt := 67) X.1 X.2.1 d_So_putApRep_52 (by decide) ⟨by omega, by omega⟩ (fun h131 => ?_) (fun h131 => ?_)
  · exact J114 f110 _ _ _  Y S (lv_sub hl [3, 4, 2, 1, 0] rfl)
  · refine lv_aload_n X.1 X.2.1 d_So_putApRep_55 rfl (lv_at hl 2 rfl) ?_
    refine lv_iconst (v := iI 3) X.1 X.2.1 d_So_putApRep_56 (by decide) ?_
    refine lv_aload_n X.1 X.2.1 d_So_putApRep_57 rfl (lv_at hl 3 rfl) ?_
    refine t_getr (ci := 9) X Y S k0 rfl i_So 8 (by decide) rfl (k1 := 2) (k2 := 2) rfl rfl lk_So_25 (fun _ h9 => h9) d_So_putApRep_58 (fun b132 e132 k132 => ?_)
    refine lv_iconst (v := iI 1) X.1 X.2.1 d_So_putApRep_61 (by decide) ?_
    refine t_iald2 X Y S k132 (by omega) (by omega) (by omega) d_So_putApRep_62 (fun z133 l133 u133 => ?_)
    refine lv_i2l X.1 X.2.1 d_So_putApRep_63 rfl ?_
    refine t_anyl (fun v134 => ?_)
    refine t_nv (t_runV (As := [.int (iI 3), .long v134]) (rest := []) (n := 2) X Y S k102 hml hl.1 (c_By_putNumber l D E T κ L f110 H.size b102 6144 k102 (by omega) 3 (by omega) (by omega) v134 S.1) (ok_k X Y hA KS KR) rfl kl_So_By_putNumber ks_By_putNumber kx_By_putNumber ki_By_putNumber ini_By ⟨rfl, rfl⟩ hd_By_putNumber ⟨Nat.le_of_ble_eq_true rfl, Nat.le_of_ble_eq_true rfl⟩ rfl (Nat.le_of_ble_eq_true rfl) d_So_putApRep_64 ⟨Nat.le_of_ble_eq_true rfl, Nat.le_of_ble_eq_true rfl⟩) X Y hA S (by decide) (fun f135 H locs Y S s135 p135 => ?_)
    exact J114 f135 _ _ _  Y S (lv_sub hl [3, 4, 2, 1, 0] rfl)
set_option maxHeartbeats 4000000 in
set_option maxRecDepth 100000 in
theorem c_So_begin (l : Launch) (D : va_G) (E : cE) (T : cT) (κ : tK) (L : List Nat) (f : pF) (sz : Nat) (h : Nat) (k0 : κ h = (19, 0)) (a1 : Nat) (k1 : κ a1 = (15, 0)) (a2 : Int) (l_a2 : 0 ≤ a2) (u_a2 : a2 ≤ 1) (a3 n3 : Nat) (k3 : κ a3 = (13, n3)) (x3 : n3 ≤ 12288) (hw : tW E T κ L f) : Met l y_So_begin (k_So_begin :: lw_tg) (kRm 7 214 1 32) (va_Pc [.ref h, .ref a1, .int (iI a2), .ref a3] (kPre D E T L f sz)) (va_Qv (aPv E T [1, 2, 3, 4, 11, 13, 16, 19, 21] [] κ L f (fun (k : tK) (g : pF) => True)) (cPost D E (pA L sz)) (pA L sz)) 1 32 (pA L sz) := by
  refine k_enter (own := R_So) (by decide) rfl (Nat.le_of_ble_eq_true rfl) (fun p e s m below meth c ls AV QQ H locs hQQ X Y hA hin hr hlk hml hl KS KR => ?_)
  have hl : lv_has ls 7 [(0, .ref h), (1, .ref a1), (2, .int (iI a2)), (3, .ref a3)] := hl
  have S : tS E T (tFr κ L [1, 2, 3, 4, 11, 13, 16, 19, 21] []) κ L f κ L f := tS_rf hw
  have hF0 : ∀ b, tFr κ L [1, 2, 3, 4, 11, 13, 16, 19, 21] [] b → b ∈ L := fun b h9 => h9.1
  refine lv_aload_n X.1 X.2.1 d_So_begin_0 rfl (lv_at hl 1 rfl) ?_
  refine t_getr (ci := 5) X Y S k1 rfl i_Ga 2 (by decide) rfl (k1 := 13) (k2 := 4000) rfl rfl lk_So_39 (fun _ h9 => h9) d_So_begin_1 (fun b101 e101 k101 => ?_)
  refine lv_astore (lv' := [(4, .ref b101), (0, .ref h), (1, .ref a1), (2, .int (iI a2)), (3, .ref a3)]) X.1 X.2.1 d_So_begin_4 hl (by decide) rfl (fun ls hl => ?_)
  refine lv_aload X.1 X.2.1 d_So_begin_6 (lv_at hl 0 rfl) ?_
  refine lv_iconst (v := iI 0) X.1 X.2.1 d_So_begin_8 (by decide) ?_
  refine lv_bipush (v := iI 7) X.1 X.2.1 d_So_begin_9 (by decide) ?_
  refine t_ui (t_runV (As := [.int (iI 0), .int (iI 7)]) (rest := []) (n := 2) X Y S k101 hml hl.1 (c_By_field l D E T κ L f H.size b101 4000 k101 (by omega) 0 (by omega) (by omega) 7 (by omega) (by omega) S.1) (ok_k X Y hA KS KR) rfl kl_So_By_field ks_By_field kx_By_field ki_By_field ini_By ⟨rfl, rfl⟩ hd_By_field ⟨Nat.le_of_ble_eq_true rfl, Nat.le_of_ble_eq_true rfl⟩ rfl (Nat.le_of_ble_eq_true rfl) d_So_begin_11 ⟨Nat.le_of_ble_eq_true rfl, Nat.le_of_ble_eq_true rfl⟩) X Y hA (fun z102 H locs Y p102 => ?_)
  obtain ⟨l102, u102⟩ := p102
  refine lv_istore (lv' := [(5, .int (iI z102)), (4, .ref b101), (0, .ref h), (1, .ref a1), (2, .int (iI a2)), (3, .ref a3)]) X.1 X.2.1 d_So_begin_14 hl (by decide) rfl (fun ls hl => ?_)
  refine lv_aload X.1 X.2.1 d_So_begin_16 (lv_at hl 1 rfl) ?_
  refine lv_aload X.1 X.2.1 d_So_begin_18 (lv_at hl 1 rfl) ?_
  refine lv_iconst (v := iI 0) X.1 X.2.1 d_So_begin_20 (by decide) ?_
  refine lv_bipush (v := iI 6) X.1 X.2.1 d_So_begin_21 (by decide) ?_
  refine t_ui (t_runV (As := [.int (iI 0), .int (iI 6)]) (rest := [.ref b101]) (n := 2) X Y S k101 hml hl.1 (c_By_field l D E T κ L f H.size b101 4000 k101 (by omega) 0 (by omega) (by omega) 6 (by omega) (by omega) S.1) (ok_k X Y hA KS KR) rfl kl_So_By_field ks_By_field kx_By_field ki_By_field ini_By ⟨rfl, rfl⟩ hd_By_field ⟨Nat.le_of_ble_eq_true rfl, Nat.le_of_ble_eq_true rfl⟩ rfl (Nat.le_of_ble_eq_true rfl) d_So_begin_23 ⟨Nat.le_of_ble_eq_true rfl, Nat.le_of_ble_eq_true rfl⟩) X Y hA (fun z103 H locs Y p103 => ?_)
  obtain ⟨l103, u103⟩ := p103
  refine t_ar (x_runS (As := [.ref b101, .int (iI z103)]) (rest := []) (n := 2) X hml hl.1 (c_Va_keyAt l D E T κ L f H.size b101 4000 k101 (by omega) z103 (by omega) (by omega) S.1) (ok_k X Y hA KS KR) kl_So_Va_keyAt ks_Va_keyAt ki_Va_keyAt ini_Va ⟨rfl, rfl⟩ hd_Va_keyAt.2 ⟨Nat.le_of_ble_eq_true rfl, Nat.le_of_ble_eq_true rfl⟩ rfl (Nat.le_of_ble_eq_true rfl) d_So_begin_26 ⟨Nat.le_of_ble_eq_true rfl, Nat.le_of_ble_eq_true rfl⟩) X Y hA S (by decide) (fun b104 κ104 L104 f104 H locs Y S s104 p104 => ?_)
  obtain ⟨n104, k104⟩ := p104
  have x104 := tKey_n k104
  have k105 : κ104 h = (19, 0) := tLe_k s104.2.2.1 k0
  have k106 : κ104 a1 = (15, 0) := tLe_k s104.2.2.1 k1
  have k107 : κ104 a3 = (13, n3) := tLe_k s104.2.2.1 k3
  have k108 : κ104 b101 = (13, 4000) := tLe_k s104.2.2.1 k101
  refine lv_astore (lv' := [(6, .ref b104), (5, .int (iI z102)), (4, .ref b101), (0, .ref h), (1, .ref a1), (2, .int (iI a2)), (3, .ref a3)]) X.1 X.2.1 d_So_begin_29 hl (by decide) rfl (fun ls hl => ?_)
  refine lv_aload_n X.1 X.2.1 d_So_begin_31 rfl (lv_at hl 3 rfl) ?_
  refine lv_iconst (v := iI 1) X.1 X.2.1 d_So_begin_32 (by decide) ?_
  refine t_put (ci := 9) X Y S k105 rfl i_So t_So t_So_ok n_So 1 (by decide) rfl lk_So_57 (fun _ h9 => h9) rfl (t_So_ok 1 (by decide)) (iI_bool (by omega) (by omega)).1 (iI_bool (by omega) (by omega)).2 ⟨_, rfl, (show (0 : Int) ≤ 1 by omega), (show 1 ≤ (1 : Int) by omega)⟩ (nF_of S k105 (by decide)) d_So_begin_33 (fun f109 H locs Y S w109 => ?_)
  refine lv_aload_n X.1 X.2.1 d_So_begin_36 rfl (lv_at hl 3 rfl) ?_
  refine lv_iconst (v := iI (-1)) X.1 X.2.1 d_So_begin_37 (by decide) ?_
  refine t_put (ci := 9) X Y S k105 rfl i_So t_So t_So_ok n_So 2 (by decide) rfl lk_So_9 (fun _ h9 => h9) rfl (t_So_ok 2 (by decide)) rfl rfl ⟨_, rfl, (show ((-1) : Int) ≤ (-1) by omega), (show (-1) ≤ (3 : Int) by omega)⟩ (nF_of S k105 (by decide)) d_So_begin_38 (fun f110 H locs Y S w110 => ?_)
  refine lv_aload_n X.1 X.2.1 d_So_begin_41 rfl (lv_at hl 3 rfl) ?_
  refine lv_aload_n X.1 X.2.1 d_So_begin_42 rfl (lv_at hl 4 rfl) ?_
  refine t_getk (ci := 5) X Y S k106 rfl i_Ga 3 (by decide) rfl lk_So_61 (fun _ h9 => h9) d_So_begin_43 (fun b111 n111 e111 k111 x111 => ?_)
  refine t_put (ci := 9) X Y S k105 rfl i_So t_So t_So_ok n_So 4 (by decide) rfl lk_So_22 (fun _ h9 => h9) rfl (t_So_ok 4 (by decide)) rfl rfl ⟨_, n111, rfl, k111⟩ (nF_of S k105 (by decide)) d_So_begin_46 (fun f112 H locs Y S w112 => ?_)
  refine lv_aload_n X.1 X.2.1 d_So_begin_49 rfl (lv_at hl 3 rfl) ?_
  refine lv_aload X.1 X.2.1 d_So_begin_50 (lv_at hl 0 rfl) ?_
  refine t_alen X Y S KS (tKey_src k104) (by omega) d_So_begin_52 ?_
  have J116 : ∀ (b113 n115 : Nat) (H : Heap) (locs : List Loc) (ls : Array Slot), (n115 = 0 ∨ n115 = 16 ∨ n115 = 32) → (tKey T κ104 b113 n115) → pH D cCl (pA L sz) s.heap L104 f112 H locs → tS E T (tFr κ L [1, 2, 3, 4, 11, 13, 16, 19, 21] []) κ L f κ104 L104 f112 → lv_has ls 7 [(0, .ref h), (2, .int (iI a2)), (3, .ref a3), (4, .ref b101), (5, .int (iI z102))] → W p l e (kRm 7 214 1 32) s m AV below meth c H locs 1 32 QQ (F0 m 65 ls [.ref b113, .ref h]) := by
    intro b113 n115 H locs ls xn115 k114 Y S hl
    refine t_put (ci := 9) X Y S k105 rfl i_So t_So t_So_ok n_So 3 (by decide) rfl lk_So_19 (fun _ h9 => h9) rfl (t_So_ok 3 (by decide)) rfl rfl ⟨_, n115, rfl, k114⟩ (nF_of S k105 (by decide)) d_So_begin_65 (fun f120 H locs Y S w120 => ?_)
    refine lv_aload_n X.1 X.2.1 d_So_begin_68 rfl (lv_at hl 0 rfl) ?_
    refine lv_aload X.1 X.2.1 d_So_begin_69 (lv_at hl 3 rfl) ?_
    refine lv_aload X.1 X.2.1 d_So_begin_71 (lv_at hl 3 rfl) ?_
    refine lv_iconst (v := iI 0) X.1 X.2.1 d_So_begin_73 (by decide) ?_
    refine lv_iconst (v := iI 5) X.1 X.2.1 d_So_begin_74 (by decide) ?_
    refine t_ui (t_runV (As := [.int (iI 0), .int (iI 5)]) (rest := [.ref b101, .ref h]) (n := 2) X Y S k108 hml hl.1 (c_By_field l D E T κ104 L104 f120 H.size b101 4000 k108 (by omega) 0 (by omega) (by omega) 5 (by omega) (by omega) S.1) (ok_k X Y hA KS KR) rfl kl_So_By_field ks_By_field kx_By_field ki_By_field ini_By ⟨rfl, rfl⟩ hd_By_field ⟨Nat.le_of_ble_eq_true rfl, Nat.le_of_ble_eq_true rfl⟩ rfl (Nat.le_of_ble_eq_true rfl) d_So_begin_75 ⟨Nat.le_of_ble_eq_true rfl, Nat.le_of_ble_eq_true rfl⟩) X Y hA (fun z121 H locs Y p121 => ?_)
    obtain ⟨l121, u121⟩ := p121
    refine t_ui (t_runV (As := [.int (iI z121)]) (rest := [.ref h]) (n := 1) X Y S k108 hml hl.1 (c_By_timeAt l D E T κ104 L104 f120 H.size b101 4000 k108 (by omega) z121 (by omega) (by omega) S.1) (ok_k X Y hA KS KR) rfl kl_So_By_timeAt ks_By_timeAt kx_By_timeAt ki_By_timeAt ini_By ⟨rfl, rfl⟩ hd_By_timeAt ⟨Nat.le_of_ble_eq_true rfl, Nat.le_of_ble_eq_true rfl⟩ rfl (Nat.le_of_ble_eq_true rfl) d_So_begin_78 ⟨Nat.le_of_ble_eq_true rfl, Nat.le_of_ble_eq_true rfl⟩) X Y hA (fun z122 H locs Y p122 => ?_)
    obtain ⟨l122, u122⟩ := p122
    refine t_put (ci := 9) X Y S k105 rfl i_So t_So t_So_ok n_So 5 (by decide) rfl lk_So_66 (fun _ h9 => h9) rfl (t_So_ok 5 (by decide)) rfl rfl ⟨_, rfl, (show ((-2147483648) : Int) ≤ z122 by omega), (show z122 ≤ (2147483647 : Int) by omega)⟩ (nF_of S k105 (by decide)) d_So_begin_81 (fun f123 H locs Y S w123 => ?_)
    refine lv_aload_n X.1 X.2.1 d_So_begin_84 rfl (lv_at hl 0 rfl) ?_
    refine lv_aload X.1 X.2.1 d_So_begin_85 (lv_at hl 3 rfl) ?_
    refine lv_aload X.1 X.2.1 d_So_begin_87 (lv_at hl 3 rfl) ?_
    refine lv_iconst (v := iI 0) X.1 X.2.1 d_So_begin_89 (by decide) ?_
    refine lv_iconst (v := iI 4) X.1 X.2.1 d_So_begin_90 (by decide) ?_
    refine t_ui (t_runV (As := [.int (iI 0), .int (iI 4)]) (rest := [.ref b101, .ref h]) (n := 2) X Y S k108 hml hl.1 (c_By_field l D E T κ104 L104 f123 H.size b101 4000 k108 (by omega) 0 (by omega) (by omega) 4 (by omega) (by omega) S.1) (ok_k X Y hA KS KR) rfl kl_So_By_field ks_By_field kx_By_field ki_By_field ini_By ⟨rfl, rfl⟩ hd_By_field ⟨Nat.le_of_ble_eq_true rfl, Nat.le_of_ble_eq_true rfl⟩ rfl (Nat.le_of_ble_eq_true rfl) d_So_begin_91 ⟨Nat.le_of_ble_eq_true rfl, Nat.le_of_ble_eq_true rfl⟩) X Y hA (fun z124 H locs Y p124 => ?_)
    obtain ⟨l124, u124⟩ := p124
    refine t_ul (t_runV (As := [.int (iI z124)]) (rest := [.ref h]) (n := 1) X Y S k108 hml hl.1 (c_By_numberAt l D E T κ104 L104 f123 H.size b101 4000 k108 (by omega) z124 (by omega) (by omega) S.1) (ok_k X Y hA KS KR) rfl kl_So_By_numberAt ks_By_numberAt kx_By_numberAt ki_By_numberAt ini_By ⟨rfl, rfl⟩ hd_By_numberAt ⟨Nat.le_of_ble_eq_true rfl, Nat.le_of_ble_eq_true rfl⟩ rfl (Nat.le_of_ble_eq_true rfl) d_So_begin_94 ⟨Nat.le_of_ble_eq_true rfl, Nat.le_of_ble_eq_true rfl⟩) X Y hA (fun v125 H locs Y p125 => ?_)
    refine lv_l2i X.1 X.2.1 d_So_begin_97 rfl ?_
    refine t_u (fun z126 l126 u126 => ?_)
    refine t_put (ci := 9) X Y S k105 rfl i_So t_So t_So_ok n_So 6 (by decide) rfl lk_So_73 (fun _ h9 => h9) rfl (t_So_ok 6 (by decide)) rfl rfl ⟨_, rfl, (show ((-2147483648) : Int) ≤ z126 by omega), (show z126 ≤ (2147483647 : Int) by omega)⟩ (nF_of S k105 (by decide)) d_So_begin_98 (fun f127 H locs Y S w127 => ?_)
    refine lv_aload_n X.1 X.2.1 d_So_begin_101 rfl (lv_at hl 0 rfl) ?_
    refine lv_iload X.1 X.2.1 d_So_begin_102 (lv_at hl 4 rfl) ?_
    have J129 : ∀ (v128 : Int64) (H : Heap) (locs : List Loc) (ls : Array Slot), pH D cCl (pA L sz) s.heap L104 f127 H locs → tS E T (tFr κ L [1, 2, 3, 4, 11, 13, 16, 19, 21] []) κ L f κ104 L104 f127 → lv_has ls 7 [(0, .ref h), (2, .int (iI a2)), (3, .ref a3), (5, .int (iI z102))] → W p l e (kRm 7 214 1 32) s m AV below meth c H locs 1 32 QQ (F0 m 120 ls [.long v128, .ref h]) := by
      intro v128 H locs ls  Y S hl
      refine t_put (ci := 9) X Y S k105 rfl i_So t_So t_So_ok n_So 7 (by decide) rfl lk_So_78 (fun _ h9 => h9) rfl (t_So_ok 7 (by decide)) rfl rfl ⟨_, rfl⟩ (nF_of S k105 (by decide)) d_So_begin_120 (fun f133 H locs Y S w133 => ?_)
      refine lv_aload_n X.1 X.2.1 d_So_begin_123 rfl (lv_at hl 0 rfl) ?_
      refine t_getr (ci := 9) X Y S k105 rfl i_So 9 (by decide) rfl (k1 := 2) (k2 := 2) rfl rfl lk_So_29 (fun _ h9 => h9) d_So_begin_124 (fun b134 e134 k134 => ?_)
      refine lv_iconst (v := iI 1) X.1 X.2.1 d_So_begin_127 (by decide) ?_
      refine lv_iload X.1 X.2.1 d_So_begin_128 (lv_at hl 3 rfl) ?_
      have J136 : ∀ (z135 : Int) (H : Heap) (locs : List Loc) (ls : Array Slot), ((-2147483648) ≤ z135) → (z135 ≤ 2147483647) → pH D cCl (pA L sz) s.heap L104 f133 H locs → tS E T (tFr κ L [1, 2, 3, 4, 11, 13, 16, 19, 21] []) κ L f κ104 L104 f133 → lv_has ls 7 [(0, .ref h), (2, .int (iI a2)), (3, .ref a3), (5, .int (iI z102))] → W p l e (kRm 7 214 1 32) s m AV below meth c H locs 1 32 QQ (F0 m 142 ls [.int (iI z135), .int (iI 1), .ref b134]) := by
        intro z135 H locs ls l135 u135 Y S hl
        refine t_iast2 X Y S k134 (by omega) (by omega) (by omega) (nF_of S k134 (by decide)) d_So_begin_142 (fun f140 H locs Y S w140 => ?_)
        refine lv_aload_n X.1 X.2.1 d_So_begin_143 rfl (lv_at hl 0 rfl) ?_
        refine t_getr (ci := 9) X Y S k105 rfl i_So 8 (by decide) rfl (k1 := 2) (k2 := 2) rfl rfl lk_So_25 (fun _ h9 => h9) d_So_begin_144 (fun b141 e141 k141 => ?_)
        refine lv_iconst (v := iI 1) X.1 X.2.1 d_So_begin_147 (by decide) ?_
        refine lv_iload_n X.1 X.2.1 d_So_begin_148 rfl (lv_at hl 1 rfl) ?_
        have J144 : ∀ (z143 : Int) (f142 : pF) (H : Heap) (locs : List Loc) (ls : Array Slot), (0 ≤ z143) → (z143 ≤ 1073741823) → pH D cCl (pA L sz) s.heap L104 f142 H locs → tS E T (tFr κ L [1, 2, 3, 4, 11, 13, 16, 19, 21] []) κ L f κ104 L104 f142 → lv_has ls 7 [(0, .ref h), (2, .int (iI a2)), (3, .ref a3)] → W p l e (kRm 7 214 1 32) s m AV below meth c H locs 1 32 QQ (F0 m 171 ls [.int (iI z143), .int (iI 1), .ref b141]) := by
          intro z143 f142 H locs ls l143 u143 Y S hl
          refine t_iast2 X Y S k141 (by omega) (by omega) (by omega) (nF_of S k141 (by decide)) d_So_begin_171 (fun f148 H locs Y S w148 => ?_)
          refine lv_iload_n X.1 X.2.1 d_So_begin_172 rfl (lv_at hl 1 rfl) ?_
          refine z_if_eq (tgt := 181) X.1 X.2.1 d_So_begin_173 (by decide) ⟨by omega, by omega⟩ (fun h149 => ?_) (fun h149 => ?_)
          · exact c_retv hQQ X Y hr hlk ⟨κ104, S, trivial⟩ d_So_begin_181
          · refine lv_aload_n X.1 X.2.1 d_So_begin_176 rfl (lv_at hl 0 rfl) ?_
            refine lv_aload_n X.1 X.2.1 d_So_begin_177 rfl (lv_at hl 2 rfl) ?_
            refine t_nv (t_runV (As := [.ref a3]) (rest := []) (n := 1) X Y S k105 hml hl.1 (c_So_putApRep l D E T κ104 L104 f148 H.size h k105 a3 n3 k107 (by omega) S.1) (ok_k X Y hA KS KR) rfl kl_So_So_putApRep ks_So_putApRep kx_So_putApRep ki_So_putApRep ini_So ⟨rfl, rfl⟩ hd_So_putApRep ⟨Nat.le_of_ble_eq_true rfl, Nat.le_of_ble_eq_true rfl⟩ rfl (Nat.le_of_ble_eq_true rfl) d_So_begin_178 ⟨Nat.le_of_ble_eq_true rfl, Nat.le_of_ble_eq_true rfl⟩) X Y hA S (by decide) (fun f150 H locs Y S s150 p150 => ?_)
            exact c_retv hQQ X Y hr hlk ⟨κ104, S, trivial⟩ d_So_begin_181
        have J151 : ∀  (H : Heap) (locs : List Loc) (ls : Array Slot), pH D cCl (pA L sz) s.heap L104 f140 H locs → tS E T (tFr κ L [1, 2, 3, 4, 11, 13, 16, 19, 21] []) κ L f κ104 L104 f140 → lv_has ls 7 [(0, .ref h), (2, .int (iI a2)), (3, .ref a3)] → W p l e (kRm 7 214 1 32) s m AV below meth c H locs 1 32 QQ (F0 m 170 ls [.int (iI 1), .ref b141]) := by
          intro  H locs ls  Y S hl
          refine lv_iconst (v := iI 0) X.1 X.2.1 d_So_begin_170 (by decide) ?_
          exact J144 0 f140 _ _ _ (by omega) (by omega) Y S (lv_sub hl [0, 1, 2] rfl)
        refine z_if_eq (tgt := 170) X.1 X.2.1 d_So_begin_149 (by decide) ⟨by omega, by omega⟩ (fun h155 => ?_) (fun h155 => ?_)
        · exact J151  _ _ _  Y S (lv_sub hl [0, 1, 2] rfl)
        · refine lv_iload X.1 X.2.1 d_So_begin_152 (lv_at hl 3 rfl) ?_
          refine z_if_lt (tgt := 170) X.1 X.2.1 d_So_begin_154 (by decide) ⟨by omega, by omega⟩ (fun h156 => ?_) (fun h156 => ?_)
          · exact J151  _ _ _  Y S (lv_sub hl [0, 1, 2] rfl)
          · refine lv_aload_n X.1 X.2.1 d_So_begin_157 rfl (lv_at hl 0 rfl) ?_
            refine t_getr (ci := 9) X Y S k105 rfl i_So 0 (by decide) rfl (k1 := 21) (k2 := 0) rfl rfl lk_So_35 (fun _ h9 => h9) d_So_begin_158 (fun b157 e157 k157 => ?_)
            refine t_ni (t_runV (As := []) (rest := [.int (iI 1), .ref b141]) (n := 0) X Y S k157 hml hl.1 (c_Va_freshNumber l D E T κ104 L104 f140 H.size b157 k157 S.1) (ok_k X Y hA KS KR) rfl kl_So_Va_freshNumber ks_Va_freshNumber kx_Va_freshNumber ki_Va_freshNumber ini_Va ⟨rfl, rfl⟩ hd_Va_freshNumber ⟨Nat.le_of_ble_eq_true rfl, Nat.le_of_ble_eq_true rfl⟩ rfl (Nat.le_of_ble_eq_true rfl) d_So_begin_161 ⟨Nat.le_of_ble_eq_true rfl, Nat.le_of_ble_eq_true rfl⟩) X Y hA S (by decide) (fun z158 f158 H locs Y S s158 p158 => ?_)
            obtain ⟨l158, u158⟩ := p158
            refine lv_ldc (v := (1073741823)) X.1 X.2.1 X.2.2.2.1 (X.2.2.1 _ cn_So_86) d_So_begin_164 ?_
            refine t_eq (y := iI 1073741823) (by decide) ?_
            refine z_iand X.1 X.2.1 (by omega) (by omega) d_So_begin_166 (fun z159 l159 u159 => ?_)
            refine lv_goto (tgt := 171) X.1 X.2.1 d_So_begin_167 (by decide) ?_
            exact J144 z159 f158 _ _ _ (by omega) (by omega) Y S (lv_sub hl [0, 1, 2] rfl)
      refine z_if_lt (tgt := 141) X.1 X.2.1 d_So_begin_130 (by decide) ⟨by omega, by omega⟩ (fun h160 => ?_) (fun h160 => ?_)
      · refine lv_iconst (v := iI 0) X.1 X.2.1 d_So_begin_141 (by decide) ?_
        exact J136 0 _ _ _ (by omega) (by omega) Y S (lv_sub hl [0, 1, 2, 3] rfl)
      · refine lv_aload_n X.1 X.2.1 d_So_begin_133 rfl (lv_at hl 0 rfl) ?_
        refine t_get0 (ci := 9) X Y S k105 rfl i_So 7 (by decide) rfl lk_So_78 (fun _ h9 => h9) d_So_begin_134 w133.2.1 ?_
        refine lv_l2i X.1 X.2.1 d_So_begin_137 rfl ?_
        refine t_u (fun z161 l161 u161 => ?_)
        refine lv_goto (tgt := 142) X.1 X.2.1 d_So_begin_138 (by decide) ?_
        exact J136 z161 _ _ _ (by omega) (by omega) Y S (lv_sub hl [0, 1, 2, 3] rfl)
    refine z_if_lt (tgt := 117) X.1 X.2.1 d_So_begin_104 (by decide) ⟨by omega, by omega⟩ (fun h162 => ?_) (fun h162 => ?_)
    · refine lv_ldc2 (v := (-1)) X.1 X.2.1 X.2.2.2.1 (X.2.2.1 _ cl_So_76) d_So_begin_117 ?_
      exact J129 ((-1)) _ _ _  Y S (lv_sub hl [0, 1, 2, 4] rfl)
    · refine lv_aload X.1 X.2.1 d_So_begin_107 (lv_at hl 3 rfl) ?_
      refine lv_iload X.1 X.2.1 d_So_begin_109 (lv_at hl 4 rfl) ?_
      refine t_ul (t_runV (As := [.int (iI z102)]) (rest := [.ref h]) (n := 1) X Y S k108 hml hl.1 (c_By_numberAt l D E T κ104 L104 f127 H.size b101 4000 k108 (by omega) z102 (by omega) (by omega) S.1) (ok_k X Y hA KS KR) rfl kl_So_By_numberAt ks_By_numberAt kx_By_numberAt ki_By_numberAt ini_By ⟨rfl, rfl⟩ hd_By_numberAt ⟨Nat.le_of_ble_eq_true rfl, Nat.le_of_ble_eq_true rfl⟩ rfl (Nat.le_of_ble_eq_true rfl) d_So_begin_111 ⟨Nat.le_of_ble_eq_true rfl, Nat.le_of_ble_eq_true rfl⟩) X Y hA (fun v163 H locs Y p163 => ?_)
      refine lv_goto (tgt := 120) X.1 X.2.1 d_So_begin_114 (by decide) ?_
      exact J129 v163 _ _ _  Y S (lv_sub hl [0, 1, 2, 4] rfl)
  refine z_if_le (tgt := 61) X.1 X.2.1 d_So_begin_53 (by decide) ⟨by omega, by omega⟩ (fun h164 => ?_) (fun h164 => ?_)
  · refine lv_aload_n X.1 X.2.1 d_So_begin_61 rfl (lv_at hl 4 rfl) ?_
    refine t_get0 (ci := 5) X Y S k106 rfl i_Ga 3 (by decide) rfl lk_So_61 (fun _ h9 => h9) d_So_begin_62 ((gF_put w112 (Or.inr (by decide))).trans e111) ?_
    exact J116 b111 n111 _ _ _ (by omega) k111 Y S (lv_sub hl [3, 5, 6, 2, 1] rfl)
  · refine lv_aload X.1 X.2.1 d_So_begin_56 (lv_at hl 0 rfl) ?_
    refine lv_goto (tgt := 65) X.1 X.2.1 d_So_begin_58 (by decide) ?_
    exact J116 b104 n104 _ _ _ (by omega) k104 Y S (lv_sub hl [3, 5, 6, 2, 1] rfl)
set_option maxHeartbeats 4000000 in
set_option maxRecDepth 100000 in
theorem c_So_leave (l : Launch) (D : va_G) (E : cE) (T : cT) (κ : tK) (L : List Nat) (f : pF) (sz : Nat) (h : Nat) (k0 : κ h = (19, 0)) (a1 : Int) (l_a1 : (-2147483648) ≤ a1) (u_a1 : a1 ≤ 2147483647) (hw : tW E T κ L f) : Met l y_So_leave (k_So_leave :: lw_tg) (kRm 1 60 0 0) (va_Pc [.ref h, .int (iI a1)] (kPre D E T L f sz)) (va_Qv (nPv E T [19] κ L f (fun (g : pF) => True)) (cPost D E (pA L sz)) (pA L sz)) 0 0 (pA L sz) := by
  refine k_enter (own := R_So) (by decide) rfl (Nat.le_of_ble_eq_true rfl) (fun p e s m below meth c ls AV QQ H locs hQQ X Y hA hin hr hlk hml hl KS KR => ?_)
  have hl : lv_has ls 2 [(0, .ref h), (1, .int (iI a1))] := hl
  have S : tS E T (tFr κ L [19] []) κ L f κ L f := tS_rf hw
  refine lv_aload_n X.1 X.2.1 d_So_leave_0 rfl (lv_at hl 0 rfl) ?_
  refine t_geti (ci := 9) X Y S k0 rfl i_So 2 (by decide) rfl lk_So_9 (fun _ h9 => h9) d_So_leave_1 (fun z101 e101 l101 u101 => ?_)
  refine lv_iload_n X.1 X.2.1 d_So_leave_4 rfl (lv_at hl 1 rfl) ?_
  refine z_icmp_ne (tgt := 13) X.1 X.2.1 d_So_leave_5 (by decide) ⟨by omega, by omega⟩ ⟨by omega, by omega⟩ (fun h102 => ?_) (fun h102 => ?_)
  · exact c_retv hQQ X Y hr hlk ⟨rfl, S, trivial⟩ d_So_leave_13
  · refine lv_aload_n X.1 X.2.1 d_So_leave_8 rfl (lv_at hl 0 rfl) ?_
    refine lv_iconst (v := iI (-1)) X.1 X.2.1 d_So_leave_9 (by decide) ?_
    refine t_put (ci := 9) X Y S k0 rfl i_So t_So t_So_ok n_So 2 (by decide) rfl lk_So_9 (fun _ h9 => h9) rfl (t_So_ok 2 (by decide)) rfl rfl ⟨_, rfl, (show ((-1) : Int) ≤ (-1) by omega), (show (-1) ≤ (3 : Int) by omega)⟩ (nF_of S k0 (by decide)) d_So_leave_10 (fun f103 H locs Y S w103 => ?_)
    exact c_retv hQQ X Y hr hlk ⟨rfl, S, trivial⟩ d_So_leave_13
set_option maxHeartbeats 4000000 in
set_option maxRecDepth 100000 in
theorem c_So_isTicketKey (l : Launch) (D : va_G) (E : cE) (T : cT) (κ : tK) (L : List Nat) (f : pF) (sz : Nat) (h : Nat) (k0 : κ h = (19, 0)) (a1 n1 : Nat) (k1 : tKey T κ a1 n1) (x1 : n1 = 0 ∨ n1 = 16 ∨ n1 = 32) (hw : tW E T κ L f) : Met l y_So_isTicketKey (k_So_isTicketKey :: lw_tg) (kRm 1 60 0 0) (va_Pc [.ref h, .ref a1] (kPre D E T L f sz)) (va_Qi (uPi L f (fun (z : Int) => 0 ≤ z ∧ z ≤ 1)) (cPost D E (pA L sz)) (pA L sz)) 0 0 (pA L sz) := by
  refine k_enter (own := R_So) (by decide) rfl (Nat.le_of_ble_eq_true rfl) (fun p e s m below meth c ls AV QQ H locs hQQ X Y hA hin hr hlk hml hl KS KR => ?_)
  have hl : lv_has ls 3 [(0, .ref h), (1, .ref a1)] := hl
  have S : tS E T (tFr κ L [] []) κ L f κ L f := tS_rf hw
  refine lv_aload_n X.1 X.2.1 d_So_isTicketKey_0 rfl (lv_at hl 1 rfl) ?_
  refine t_alen X Y S KS (tKey_src k1) (by omega) d_So_isTicketKey_1 ?_
  refine lv_aload_n X.1 X.2.1 d_So_isTicketKey_2 rfl (lv_at hl 0 rfl) ?_
  refine t_getk (ci := 9) X Y S k0 rfl i_So 4 (by decide) rfl lk_So_22 (fun _ h9 => h9) d_So_isTicketKey_3 (fun b101 n101 e101 k101 x101 => ?_)
  refine t_alen X Y S KS (tKey_src k101) (by omega) d_So_isTicketKey_6 ?_
  refine z_icmp_eq (tgt := 12) X.1 X.2.1 d_So_isTicketKey_7 (by decide) ⟨by omega, by omega⟩ ⟨by omega, by omega⟩ (fun h102 => ?_) (fun h102 => ?_)
  · refine lv_iconst (v := iI 0) X.1 X.2.1 d_So_isTicketKey_12 (by decide) ?_
    have J104 : ∀ (n106 : Nat) (z103 : Int) (H : Heap) (locs : List Loc) (ls : Array Slot), (32 - z103).toNat = n106 → (0 ≤ z103) → (z103 ≤ 32) → pH D cCl (pA L sz) s.heap L f H locs → tS E T (tFr κ L [] []) κ L f κ L f → lv_has ls 3 [(0, .ref h), (1, .ref a1), (2, .int (iI z103))] → W p l e (kRm 1 60 0 0) s m AV below meth c H locs 0 0 QQ (F0 m 14 ls []) := by
      intro n106
      induction n106 using Nat.strongRecOn with
      | ind n106 ih105 =>
        intro z103 H locs ls hm107 l103 u103 Y S hl
        refine lv_iload_n X.1 X.2.1 d_So_isTicketKey_14 rfl (lv_at hl 2 rfl) ?_
        refine lv_aload_n X.1 X.2.1 d_So_isTicketKey_15 rfl (lv_at hl 1 rfl) ?_
        refine t_alen X Y S KS (tKey_src k1) (by omega) d_So_isTicketKey_16 ?_
        refine z_icmp_ge (tgt := 40) X.1 X.2.1 d_So_isTicketKey_17 (by decide) ⟨by omega, by omega⟩ ⟨by omega, by omega⟩ (fun h108 => ?_) (fun h108 => ?_)
        · refine lv_iconst (v := iI 1) X.1 X.2.1 d_So_isTicketKey_40 (by decide) ?_
          exact c_retz hQQ X Y hr hlk (iI_bool (by omega) (by omega)).1 ⟨rfl, rfl, 1, rfl, ⟨by omega, by omega⟩⟩ d_So_isTicketKey_41
        · refine lv_aload_n X.1 X.2.1 d_So_isTicketKey_20 rfl (lv_at hl 1 rfl) ?_
          refine lv_iload_n X.1 X.2.1 d_So_isTicketKey_21 rfl (lv_at hl 2 rfl) ?_
          refine t_bald X Y S (tKey_src k1) (by omega) (by omega) (by omega) d_So_isTicketKey_22 (fun z109 l109 u109 => ?_)
          refine lv_aload_n X.1 X.2.1 d_So_isTicketKey_23 rfl (lv_at hl 0 rfl) ?_
          refine t_get0 (ci := 9) X Y S k0 rfl i_So 4 (by decide) rfl lk_So_22 (fun _ h9 => h9) d_So_isTicketKey_24 e101 ?_
          refine lv_iload_n X.1 X.2.1 d_So_isTicketKey_27 rfl (lv_at hl 2 rfl) ?_
          refine t_bald X Y S (tKey_src k101) (by omega) (by omega) (by omega) d_So_isTicketKey_28 (fun z110 l110 u110 => ?_)
          refine z_icmp_eq (tgt := 34) X.1 X.2.1 d_So_isTicketKey_29 (by decide) ⟨by omega, by omega⟩ ⟨by omega, by omega⟩ (fun h111 => ?_) (fun h111 => ?_)
          · refine lv_iinc (v := iI (z103 + 1)) (lv' := [(2, .int (iI (z103 + 1))), (0, .ref h), (1, .ref a1)]) X.1 X.2.1 d_So_isTicketKey_34 hl (k := 2) rfl ((iI_add _ _).trans (congrArg iI (by omega))) (by decide) rfl (fun ls hl => ?_)
            refine lv_goto (tgt := 14) X.1 X.2.1 d_So_isTicketKey_37 (by decide) ?_
            exact ih105 ((32 - (z103 + 1)).toNat) (by omega) (z103 + 1) _ _ _ rfl (by omega) (by omega) Y S (lv_sub hl [1, 2, 0] rfl)
          · refine lv_iconst (v := iI 0) X.1 X.2.1 d_So_isTicketKey_32 (by decide) ?_
            exact c_retz hQQ X Y hr hlk (iI_bool (by omega) (by omega)).1 ⟨rfl, rfl, 0, rfl, ⟨by omega, by omega⟩⟩ d_So_isTicketKey_33
    refine lv_istore_n (lv' := [(2, .int (iI 0)), (0, .ref h), (1, .ref a1)]) X.1 X.2.1 d_So_isTicketKey_13 rfl hl (by decide) rfl (fun ls hl => ?_)
    exact J104 _ 0 _ _ _ rfl (by omega) (by omega) Y S (lv_sub hl [1, 2, 0] rfl)
  · refine lv_iconst (v := iI 0) X.1 X.2.1 d_So_isTicketKey_10 (by decide) ?_
    exact c_retz hQQ X Y hr hlk (iI_bool (by omega) (by omega)).1 ⟨rfl, rfl, 0, rfl, ⟨by omega, by omega⟩⟩ d_So_isTicketKey_11
set_option maxHeartbeats 4000000 in
set_option maxRecDepth 100000 in
theorem c_So_join (l : Launch) (D : va_G) (E : cE) (T : cT) (κ : tK) (L : List Nat) (f : pF) (sz : Nat) (h : Nat) (k0 : κ h = (19, 0)) (a1 : Int) (l_a1 : 0 ≤ a1) (u_a1 : a1 ≤ 3) (a2 : Nat) (k2 : κ a2 = (12, 0)) (hw : tW E T κ L f) : Met l y_So_join (k_So_join :: lw_tg) (kRm 2 82 0 0) (va_Pc [.ref h, .int (iI a1), .ref a2] (kPre D E T L f sz)) (va_Qi (nPi E T [2, 3, 4, 19] κ L f (fun (z : Int) (g : pF) => 0 ≤ z ∧ z ≤ 1)) (cPost D E (pA L sz)) (pA L sz)) 0 0 (pA L sz) := by
  refine k_enter (own := R_So) (by decide) rfl (Nat.le_of_ble_eq_true rfl) (fun p e s m below meth c ls AV QQ H locs hQQ X Y hA hin hr hlk hml hl KS KR => ?_)
  have hl : lv_has ls 3 [(0, .ref h), (1, .int (iI a1)), (2, .ref a2)] := hl
  have S : tS E T (tFr κ L [2, 3, 4, 19] []) κ L f κ L f := tS_rf hw
  refine lv_aload_n X.1 X.2.1 d_So_join_0 rfl (lv_at hl 2 rfl) ?_
  refine t_getl (ci := 2) X Y S k2 rfl i_Ag 17 (by decide) rfl lk_So_123 (fun _ h9 => h9) d_So_join_1 (fun v101 e101 => ?_)
  refine lv_lconst (v := 0) X.1 X.2.1 d_So_join_4 rfl ?_
  refine W.lcmp X.1 X.2.1 d_So_join_5 ?_
  refine t_u (fun z102 l102 u102 => ?_)
  refine z_if_lt (tgt := 54) X.1 X.2.1 d_So_join_6 (by decide) ⟨by omega, by omega⟩ (fun h103 => ?_) (fun h103 => ?_)
  · refine lv_iconst (v := iI 0) X.1 X.2.1 d_So_join_54 (by decide) ?_
    exact c_retz hQQ X Y hr hlk (iI_bool (by omega) (by omega)).1 ⟨rfl, S, 0, rfl, ⟨by omega, by omega⟩⟩ d_So_join_55
  · refine lv_aload_n X.1 X.2.1 d_So_join_9 rfl (lv_at hl 2 rfl) ?_
    refine t_get0 (ci := 2) X Y S k2 rfl i_Ag 17 (by decide) rfl lk_So_123 (fun _ h9 => h9) d_So_join_10 e101 ?_
    refine lv_aload_n X.1 X.2.1 d_So_join_13 rfl (lv_at hl 0 rfl) ?_
    refine t_getl (ci := 9) X Y S k0 rfl i_So 7 (by decide) rfl lk_So_78 (fun _ h9 => h9) d_So_join_14 (fun v104 e104 => ?_)
    refine W.lcmp X.1 X.2.1 d_So_join_17 ?_
    refine t_u (fun z105 l105 u105 => ?_)
    refine z_if_ne (tgt := 54) X.1 X.2.1 d_So_join_18 (by decide) ⟨by omega, by omega⟩ (fun h106 => ?_) (fun h106 => ?_)
    · refine lv_iconst (v := iI 0) X.1 X.2.1 d_So_join_54 (by decide) ?_
      exact c_retz hQQ X Y hr hlk (iI_bool (by omega) (by omega)).1 ⟨rfl, S, 0, rfl, ⟨by omega, by omega⟩⟩ d_So_join_55
    · refine lv_aload_n X.1 X.2.1 d_So_join_21 rfl (lv_at hl 2 rfl) ?_
      refine t_geti (ci := 2) X Y S k2 rfl i_Ag 15 (by decide) rfl lk_So_126 (fun _ h9 => h9) d_So_join_22 (fun z107 e107 l107 u107 => ?_)
      refine lv_aload_n X.1 X.2.1 d_So_join_25 rfl (lv_at hl 0 rfl) ?_
      refine t_geti (ci := 9) X Y S k0 rfl i_So 5 (by decide) rfl lk_So_66 (fun _ h9 => h9) d_So_join_26 (fun z108 e108 l108 u108 => ?_)
      refine z_icmp_ne (tgt := 54) X.1 X.2.1 d_So_join_29 (by decide) ⟨by omega, by omega⟩ ⟨by omega, by omega⟩ (fun h109 => ?_) (fun h109 => ?_)
      · refine lv_iconst (v := iI 0) X.1 X.2.1 d_So_join_54 (by decide) ?_
        exact c_retz hQQ X Y hr hlk (iI_bool (by omega) (by omega)).1 ⟨rfl, S, 0, rfl, ⟨by omega, by omega⟩⟩ d_So_join_55
      · refine lv_aload_n X.1 X.2.1 d_So_join_32 rfl (lv_at hl 2 rfl) ?_
        refine t_geti (ci := 2) X Y S k2 rfl i_Ag 16 (by decide) rfl lk_So_127 (fun _ h9 => h9) d_So_join_33 (fun z110 e110 l110 u110 => ?_)
        refine lv_aload_n X.1 X.2.1 d_So_join_36 rfl (lv_at hl 0 rfl) ?_
        refine t_geti (ci := 9) X Y S k0 rfl i_So 6 (by decide) rfl lk_So_73 (fun _ h9 => h9) d_So_join_37 (fun z111 e111 l111 u111 => ?_)
        refine z_icmp_ne (tgt := 54) X.1 X.2.1 d_So_join_40 (by decide) ⟨by omega, by omega⟩ ⟨by omega, by omega⟩ (fun h112 => ?_) (fun h112 => ?_)
        · refine lv_iconst (v := iI 0) X.1 X.2.1 d_So_join_54 (by decide) ?_
          exact c_retz hQQ X Y hr hlk (iI_bool (by omega) (by omega)).1 ⟨rfl, S, 0, rfl, ⟨by omega, by omega⟩⟩ d_So_join_55
        · refine lv_aload_n X.1 X.2.1 d_So_join_43 rfl (lv_at hl 0 rfl) ?_
          refine lv_aload_n X.1 X.2.1 d_So_join_44 rfl (lv_at hl 2 rfl) ?_
          refine t_getk (ci := 2) X Y S k2 rfl i_Ag 18 (by decide) rfl lk_So_128 (fun _ h9 => h9) d_So_join_45 (fun b113 n113 e113 k113 x113 => ?_)
          refine t_ui (t_runV (As := [.ref b113]) (rest := []) (n := 1) X Y S k0 hml hl.1 (c_So_isTicketKey l D E T κ L f H.size h k0 b113 n113 k113 (by omega) S.1) (ok_k X Y hA KS KR) rfl kl_So_So_isTicketKey ks_So_isTicketKey kx_So_isTicketKey ki_So_isTicketKey ini_So ⟨rfl, rfl⟩ hd_So_isTicketKey ⟨Nat.le_of_ble_eq_true rfl, Nat.le_of_ble_eq_true rfl⟩ rfl (Nat.le_of_ble_eq_true rfl) d_So_join_48 ⟨Nat.le_of_ble_eq_true rfl, Nat.le_of_ble_eq_true rfl⟩) X Y hA (fun z114 H locs Y p114 => ?_)
          obtain ⟨l114, u114⟩ := p114
          refine z_if_ne (tgt := 56) X.1 X.2.1 d_So_join_51 (by decide) ⟨by omega, by omega⟩ (fun h115 => ?_) (fun h115 => ?_)
          · refine lv_aload_n X.1 X.2.1 d_So_join_56 rfl (lv_at hl 0 rfl) ?_
            refine lv_iload_n X.1 X.2.1 d_So_join_57 rfl (lv_at hl 1 rfl) ?_
            refine t_put (ci := 9) X Y S k0 rfl i_So t_So t_So_ok n_So 2 (by decide) rfl lk_So_9 (fun _ h9 => h9) rfl (t_So_ok 2 (by decide)) rfl rfl ⟨_, rfl, (show ((-1) : Int) ≤ a1 by omega), (show a1 ≤ (3 : Int) by omega)⟩ (nF_of S k0 (by decide)) d_So_join_58 (fun f116 H locs Y S w116 => ?_)
            refine lv_aload_n X.1 X.2.1 d_So_join_61 rfl (lv_at hl 0 rfl) ?_
            refine t_getr (ci := 9) X Y S k0 rfl i_So 8 (by decide) rfl (k1 := 2) (k2 := 2) rfl rfl lk_So_25 (fun _ h9 => h9) d_So_join_62 (fun b117 e117 k117 => ?_)
            refine lv_iconst (v := iI 0) X.1 X.2.1 d_So_join_65 (by decide) ?_
            refine lv_aload_n X.1 X.2.1 d_So_join_66 rfl (lv_at hl 2 rfl) ?_
            refine t_get0 (ci := 2) X Y S k2 rfl i_Ag 17 (by decide) rfl lk_So_123 (fun _ h9 => h9) d_So_join_67 ((gF_put w116 (Or.inr (by decide))).trans e101) ?_
            refine lv_l2i X.1 X.2.1 d_So_join_70 rfl ?_
            refine t_u (fun z118 l118 u118 => ?_)
            refine t_iast2 X Y S k117 (by omega) (by omega) (by omega) (nF_of S k117 (by decide)) d_So_join_71 (fun f119 H locs Y S w119 => ?_)
            refine lv_aload_n X.1 X.2.1 d_So_join_72 rfl (lv_at hl 0 rfl) ?_
            refine t_getr (ci := 9) X Y S k0 rfl i_So 9 (by decide) rfl (k1 := 2) (k2 := 2) rfl rfl lk_So_29 (fun _ h9 => h9) d_So_join_73 (fun b120 e120 k120 => ?_)
            refine lv_iconst (v := iI 0) X.1 X.2.1 d_So_join_76 (by decide) ?_
            refine lv_aload_n X.1 X.2.1 d_So_join_77 rfl (lv_at hl 2 rfl) ?_
            refine t_getl (ci := 2) X Y S k2 rfl i_Ag 19 (by decide) rfl lk_So_135 (fun _ h9 => h9) d_So_join_78 (fun v121 e121 => ?_)
            refine lv_l2i X.1 X.2.1 d_So_join_81 rfl ?_
            refine t_u (fun z122 l122 u122 => ?_)
            refine t_iast2 X Y S k120 (by omega) (by omega) (by omega) (nF_of S k120 (by decide)) d_So_join_82 (fun f123 H locs Y S w123 => ?_)
            refine lv_iconst (v := iI 1) X.1 X.2.1 d_So_join_83 (by decide) ?_
            exact c_retz hQQ X Y hr hlk (iI_bool (by omega) (by omega)).1 ⟨rfl, S, 1, rfl, ⟨by omega, by omega⟩⟩ d_So_join_84
          · refine lv_iconst (v := iI 0) X.1 X.2.1 d_So_join_54 (by decide) ?_
            exact c_retz hQQ X Y hr hlk (iI_bool (by omega) (by omega)).1 ⟨rfl, S, 0, rfl, ⟨by omega, by omega⟩⟩ d_So_join_55
set_option maxHeartbeats 4000000 in
set_option maxRecDepth 100000 in
theorem c_So_putData (l : Launch) (D : va_G) (E : cE) (T : cT) (κ : tK) (L : List Nat) (f : pF) (sz : Nat) (h : Nat) (k0 : κ h = (19, 0)) (a1 : Int) (l_a1 : 0 ≤ a1) (u_a1 : a1 ≤ 1) (a2 : Int) (l_a2 : (-2147483648) ≤ a2) (u_a2 : a2 ≤ 2147483647) (a3 n3 : Nat) (k3 : κ a3 = (13, n3)) (x3 : n3 ≤ 12288) (a4 n4 : Nat) (k4 : κ a4 = (13, n4)) (x4 : n4 ≤ 12288) (hw : tW E T κ L f) : Met l y_So_putData (k_So_putData :: lw_tg) (kRm 5 159 0 0) (va_Pc [.ref h, .int (iI a1), .int (iI a2), .ref a3, .ref a4] (kPre D E T L f sz)) (va_Qv (nPv E T [1, 2, 3, 4, 13] κ L f (fun (g : pF) => True)) (cPost D E (pA L sz)) (pA L sz)) 0 0 (pA L sz) := by
  refine k_enter (own := R_So) (by decide) rfl (Nat.le_of_ble_eq_true rfl) (fun p e s m below meth c ls AV QQ H locs hQQ X Y hA hin hr hlk hml hl KS KR => ?_)
  have hl : lv_has ls 6 [(0, .ref h), (1, .int (iI a1)), (2, .int (iI a2)), (3, .ref a3), (4, .ref a4)] := hl
  have S : tS E T (tFr κ L [1, 2, 3, 4, 13] []) κ L f κ L f := tS_rf hw
  refine lv_aload X.1 X.2.1 d_So_putData_0 (lv_at hl 4 rfl) ?_
  refine lv_bipush (v := iI 48) X.1 X.2.1 d_So_putData_2 (by decide) ?_
  refine t_ni (t_runV (As := [.int (iI 48)]) (rest := []) (n := 1) X Y S k4 hml hl.1 (c_By_open l D E T κ L f H.size a4 n4 k4 (by omega) 48 (by omega) (by omega) S.1) (ok_k X Y hA KS KR) rfl kl_So_By_open ks_By_open kx_By_open ki_By_open ini_By ⟨rfl, rfl⟩ hd_By_open ⟨Nat.le_of_ble_eq_true rfl, Nat.le_of_ble_eq_true rfl⟩ rfl (Nat.le_of_ble_eq_true rfl) d_So_putData_4 ⟨Nat.le_of_ble_eq_true rfl, Nat.le_of_ble_eq_true rfl⟩) X Y hA S (by decide) (fun z101 f101 H locs Y S s101 p101 => ?_)
  obtain ⟨l101, u101⟩ := p101
  refine lv_istore (lv' := [(5, .int (iI z101)), (0, .ref h), (1, .int (iI a1)), (2, .int (iI a2)), (3, .ref a3), (4, .ref a4)]) X.1 X.2.1 d_So_putData_7 hl (by decide) rfl (fun ls hl => ?_)
  refine lv_aload X.1 X.2.1 d_So_putData_9 (lv_at hl 5 rfl) ?_
  refine lv_iconst (v := iI 0) X.1 X.2.1 d_So_putData_11 (by decide) ?_
  refine lv_aload_n X.1 X.2.1 d_So_putData_12 rfl (lv_at hl 4 rfl) ?_
  refine t_getrow (ci := 3) X Y S k3 rfl i_By 0 (by decide) rfl lk_So_138 (fun _ h9 => h9) d_So_putData_13 (fun b102 e102 k102 => ?_)
  refine lv_iconst (v := iI 0) X.1 X.2.1 d_So_putData_16 (by decide) ?_
  refine lv_aload_n X.1 X.2.1 d_So_putData_17 rfl (lv_at hl 4 rfl) ?_
  refine t_gets (ci := 3) X Y S k3 rfl i_By 1 (by decide) rfl lk_So_141 (fun _ h9 => h9) d_So_putData_18 (fun z103 e103 l103 u103 => ?_)
  refine t_nv (t_runV (As := [.int (iI 0), .ref b102, .int (iI 0), .int (iI z103)]) (rest := []) (n := 4) X Y S k4 hml hl.1 (c_By_putOctets l D E T κ L f101 H.size a4 n4 k4 (by omega) 0 (by omega) (by omega) b102 n3 (Or.inl k102) (by omega) 0 (by omega) (by omega) z103 (by omega) (by omega) S.1) (ok_k X Y hA KS KR) rfl kl_So_By_putOctets ks_By_putOctets kx_By_putOctets ki_By_putOctets ini_By ⟨rfl, rfl⟩ hd_By_putOctets ⟨Nat.le_of_ble_eq_true rfl, Nat.le_of_ble_eq_true rfl⟩ rfl (Nat.le_of_ble_eq_true rfl) d_So_putData_21 ⟨Nat.le_of_ble_eq_true rfl, Nat.le_of_ble_eq_true rfl⟩) X Y hA S (by decide) (fun f104 H locs Y S s104 p104 => ?_)
  refine lv_aload X.1 X.2.1 d_So_putData_24 (lv_at hl 5 rfl) ?_
  refine lv_iconst (v := iI 1) X.1 X.2.1 d_So_putData_26 (by decide) ?_
  refine lv_iload_n X.1 X.2.1 d_So_putData_27 rfl (lv_at hl 3 rfl) ?_
  refine t_nv (t_runV (As := [.int (iI 1), .int (iI a2)]) (rest := []) (n := 2) X Y S k4 hml hl.1 (c_By_putTime l D E T κ L f104 H.size a4 n4 k4 (by omega) 1 (by omega) (by omega) a2 (by omega) (by omega) S.1) (ok_k X Y hA KS KR) rfl kl_So_By_putTime ks_By_putTime kx_By_putTime ki_By_putTime ini_By ⟨rfl, rfl⟩ hd_By_putTime ⟨Nat.le_of_ble_eq_true rfl, Nat.le_of_ble_eq_true rfl⟩ rfl (Nat.le_of_ble_eq_true rfl) d_So_putData_28 ⟨Nat.le_of_ble_eq_true rfl, Nat.le_of_ble_eq_true rfl⟩) X Y hA S (by decide) (fun f105 H locs Y S s105 p105 => ?_)
  refine lv_aload X.1 X.2.1 d_So_putData_31 (lv_at hl 5 rfl) ?_
  refine lv_iconst (v := iI 2) X.1 X.2.1 d_So_putData_33 (by decide) ?_
  refine lv_lconst (v := 0) X.1 X.2.1 d_So_putData_34 rfl ?_
  refine t_nv (t_runV (As := [.int (iI 2), .long 0]) (rest := []) (n := 2) X Y S k4 hml hl.1 (c_By_putNumber l D E T κ L f105 H.size a4 n4 k4 (by omega) 2 (by omega) (by omega) 0 S.1) (ok_k X Y hA KS KR) rfl kl_So_By_putNumber ks_By_putNumber kx_By_putNumber ki_By_putNumber ini_By ⟨rfl, rfl⟩ hd_By_putNumber ⟨Nat.le_of_ble_eq_true rfl, Nat.le_of_ble_eq_true rfl⟩ rfl (Nat.le_of_ble_eq_true rfl) d_So_putData_35 ⟨Nat.le_of_ble_eq_true rfl, Nat.le_of_ble_eq_true rfl⟩) X Y hA S (by decide) (fun f106 H locs Y S s106 p106 => ?_)
  refine lv_aload X.1 X.2.1 d_So_putData_38 (lv_at hl 5 rfl) ?_
  refine lv_iconst (v := iI 3) X.1 X.2.1 d_So_putData_40 (by decide) ?_
  refine lv_aload_n X.1 X.2.1 d_So_putData_41 rfl (lv_at hl 1 rfl) ?_
  refine t_getr (ci := 9) X Y S k0 rfl i_So 8 (by decide) rfl (k1 := 2) (k2 := 2) rfl rfl lk_So_25 (fun _ h9 => h9) d_So_putData_42 (fun b107 e107 k107 => ?_)
  refine lv_iload_n X.1 X.2.1 d_So_putData_45 rfl (lv_at hl 2 rfl) ?_
  refine t_iald2 X Y S k107 (by omega) (by omega) (by omega) d_So_putData_46 (fun z108 l108 u108 => ?_)
  refine lv_i2l X.1 X.2.1 d_So_putData_47 rfl ?_
  refine t_anyl (fun v109 => ?_)
  refine lv_ldc2 (v := (4294967295)) X.1 X.2.1 X.2.2.2.1 (X.2.2.1 _ cl_So_148) d_So_putData_48 ?_
  refine lv_land X.1 X.2.1 d_So_putData_51 ?_
  refine t_anyl (fun v110 => ?_)
  refine t_nv (t_runV (As := [.int (iI 3), .long v110]) (rest := []) (n := 2) X Y S k4 hml hl.1 (c_By_putNumber l D E T κ L f106 H.size a4 n4 k4 (by omega) 3 (by omega) (by omega) v110 S.1) (ok_k X Y hA KS KR) rfl kl_So_By_putNumber ks_By_putNumber kx_By_putNumber ki_By_putNumber ini_By ⟨rfl, rfl⟩ hd_By_putNumber ⟨Nat.le_of_ble_eq_true rfl, Nat.le_of_ble_eq_true rfl⟩ rfl (Nat.le_of_ble_eq_true rfl) d_So_putData_52 ⟨Nat.le_of_ble_eq_true rfl, Nat.le_of_ble_eq_true rfl⟩) X Y hA S (by decide) (fun f111 H locs Y S s111 p111 => ?_)
  refine lv_aload_n X.1 X.2.1 d_So_putData_55 rfl (lv_at hl 1 rfl) ?_
  refine t_getr (ci := 9) X Y S k0 rfl i_So 10 (by decide) rfl (k1 := 1) (k2 := 4) rfl rfl lk_So_32 (fun _ h9 => h9) d_So_putData_56 (fun b112 e112 k112 => ?_)
  refine lv_iconst (v := iI 3) X.1 X.2.1 d_So_putData_59 (by decide) ?_
  refine lv_iload_n X.1 X.2.1 d_So_putData_60 rfl (lv_at hl 2 rfl) ?_
  refine lv_i2b X.1 X.2.1 d_So_putData_61 rfl ?_
  refine t_u (fun z113 l113 u113 => ?_)
  refine t_bast X Y S k112 (by omega) (by omega) (by omega) (nF_of S k112 (by decide)) d_So_putData_62 (fun f114 H locs Y S w114 => ?_)
  refine lv_aload X.1 X.2.1 d_So_putData_63 (lv_at hl 5 rfl) ?_
  refine lv_iconst (v := iI 4) X.1 X.2.1 d_So_putData_65 (by decide) ?_
  refine lv_iconst (v := iI 2) X.1 X.2.1 d_So_putData_66 (by decide) ?_
  refine lv_aload_n X.1 X.2.1 d_So_putData_67 rfl (lv_at hl 1 rfl) ?_
  refine t_get0 (ci := 9) X Y S k0 rfl i_So 10 (by decide) rfl lk_So_32 (fun _ h9 => h9) d_So_putData_68 ((gF_same (w114 _ (k_ne k0 k112 (by decide))) 10).trans e112) ?_
  refine lv_iconst (v := iI 4) X.1 X.2.1 d_So_putData_71 (by decide) ?_
  refine t_nv (t_runV (As := [.int (iI 4), .int (iI 2), .ref b112, .int (iI 4)]) (rest := []) (n := 4) X Y S k4 hml hl.1 (c_By_putPair l D E T κ L f114 H.size a4 n4 k4 (by omega) 4 (by omega) (by omega) 2 (by omega) (by omega) b112 4 (Or.inl k112) (by omega) 4 (by omega) (by omega) S.1) (ok_k X Y hA KS KR) rfl kl_So_By_putPair ks_By_putPair kx_By_putPair ki_By_putPair ini_By ⟨rfl, rfl⟩ hd_By_putPair ⟨Nat.le_of_ble_eq_true rfl, Nat.le_of_ble_eq_true rfl⟩ rfl (Nat.le_of_ble_eq_true rfl) d_So_putData_72 ⟨Nat.le_of_ble_eq_true rfl, Nat.le_of_ble_eq_true rfl⟩) X Y hA S (by decide) (fun f115 H locs Y S s115 p115 => ?_)
  refine lv_aload X.1 X.2.1 d_So_putData_75 (lv_at hl 5 rfl) ?_
  refine lv_iload X.1 X.2.1 d_So_putData_77 (lv_at hl 0 rfl) ?_
  refine t_nv (t_runV (As := [.int (iI z101)]) (rest := []) (n := 1) X Y S k4 hml hl.1 (c_By_close l D E T κ L f115 H.size a4 n4 k4 (by omega) z101 (by omega) (by omega) S.1) (ok_k X Y hA KS KR) rfl kl_So_By_close ks_By_close kx_By_close ki_By_close ini_By ⟨rfl, rfl⟩ hd_By_close ⟨Nat.le_of_ble_eq_true rfl, Nat.le_of_ble_eq_true rfl⟩ rfl (Nat.le_of_ble_eq_true rfl) d_So_putData_79 ⟨Nat.le_of_ble_eq_true rfl, Nat.le_of_ble_eq_true rfl⟩) X Y hA S (by decide) (fun f116 H locs Y S s116 p116 => ?_)
  refine lv_aload_n X.1 X.2.1 d_So_putData_82 rfl (lv_at hl 1 rfl) ?_
  refine t_get0 (ci := 9) X Y S k0 rfl i_So 8 (by decide) rfl lk_So_25 (fun _ h9 => h9) d_So_putData_83 ((gF_same (s116.2.2.2 _ ⟨(t_obj S.1 k0).1, nM_of k0 (by decide), by simp⟩).1 8).trans ((gF_same (s115.2.2.2 _ ⟨(t_obj S.1 k0).1, nM_of k0 (by decide), by simp⟩).1 8).trans ((gF_same (w114 _ (k_ne k0 k112 (by decide))) 8).trans ((gF_same (s111.2.2.2 _ ⟨(t_obj S.1 k0).1, nM_of k0 (by decide), by simp⟩).1 8).trans e107)))) ?_
  refine lv_iload_n X.1 X.2.1 d_So_putData_86 rfl (lv_at hl 2 rfl) ?_
  refine lv_dup2_11 X.1 X.2.1 d_So_putData_87 rfl rfl ?_
  refine t_iald2 X Y S k107 (by omega) (by omega) (by omega) d_So_putData_88 (fun z117 l117 u117 => ?_)
  refine lv_iconst (v := iI 1) X.1 X.2.1 d_So_putData_89 (by decide) ?_
  refine lv_iadd X.1 X.2.1 d_So_putData_90 ?_
  refine t_u (fun z118 l118 u118 => ?_)
  refine t_iast2 X Y S k107 (by omega) (by omega) (by omega) (nF_of S k107 (by decide)) d_So_putData_91 (fun f119 H locs Y S w119 => ?_)
  exact c_retv hQQ X Y hr hlk ⟨rfl, S, trivial⟩ d_So_putData_92
set_option maxHeartbeats 4000000 in
set_option maxRecDepth 100000 in
theorem c_So_putPrivate (l : Launch) (D : va_G) (E : cE) (T : cT) (κ : tK) (L : List Nat) (f : pF) (sz : Nat) (h : Nat) (k0 : κ h = (19, 0)) (a1 : Int) (l_a1 : 0 ≤ a1) (u_a1 : a1 ≤ 1) (a2 : Int) (l_a2 : (-2147483648) ≤ a2) (u_a2 : a2 ≤ 2147483647) (a3 n3 : Nat) (k3 : κ a3 = (13, n3)) (x3 : n3 ≤ 12288) (a4 n4 : Nat) (k4 : κ a4 = (13, n4)) (x4 : n4 ≤ 12288) (hw : tW E T κ L f) : Met l y_So_putPrivate (k_So_putPrivate :: lw_tg) (kRm 6 187 0 0) (va_Pc [.ref h, .int (iI a1), .int (iI a2), .ref a3, .ref a4] (kPre D E T L f sz)) (va_Qv (nPv E T [1, 2, 3, 4, 11, 13, 16, 21] κ L f (fun (g : pF) => True)) (cPost D E (pA L sz)) (pA L sz)) 0 0 (pA L sz) := by
  refine k_enter (own := R_So) (by decide) rfl (Nat.le_of_ble_eq_true rfl) (fun p e s m below meth c ls AV QQ H locs hQQ X Y hA hin hr hlk hml hl KS KR => ?_)
  have hl : lv_has ls 10 [(0, .ref h), (1, .int (iI a1)), (2, .int (iI a2)), (3, .ref a3), (4, .ref a4)] := hl
  have S : tS E T (tFr κ L [1, 2, 3, 4, 11, 13, 16, 21] []) κ L f κ L f := tS_rf hw
  refine lv_aload_n X.1 X.2.1 d_So_putPrivate_0 rfl (lv_at hl 0 rfl) ?_
  refine t_getr (ci := 9) X Y S k0 rfl i_So 0 (by decide) rfl (k1 := 21) (k2 := 0) rfl rfl lk_So_35 (fun _ h9 => h9) d_So_putPrivate_1 (fun b101 e101 k101 => ?_)
  refine t_getr (ci := 11) X Y S k101 rfl i_Va 1 (by decide) rfl (k1 := 13) (k2 := 6144) rfl rfl lk_So_91 (fun _ h9 => h9) d_So_putPrivate_4 (fun b102 e102 k102 => ?_)
  refine lv_astore (lv' := [(5, .ref b102), (0, .ref h), (1, .int (iI a1)), (2, .int (iI a2)), (3, .ref a3), (4, .ref a4)]) X.1 X.2.1 d_So_putPrivate_7 hl (by decide) rfl (fun ls hl => ?_)
  refine lv_aload X.1 X.2.1 d_So_putPrivate_9 (lv_at hl 0 rfl) ?_
  refine t_nv (t_runV (As := []) (rest := []) (n := 0) X Y S k102 hml hl.1 (c_By_clear l D E T κ L f H.size b102 6144 k102 (by omega) S.1) (ok_k X Y hA KS KR) rfl kl_So_By_clear ks_By_clear kx_By_clear ki_By_clear ini_By ⟨rfl, rfl⟩ hd_By_clear ⟨Nat.le_of_ble_eq_true rfl, Nat.le_of_ble_eq_true rfl⟩ rfl (Nat.le_of_ble_eq_true rfl) d_So_putPrivate_11 ⟨Nat.le_of_ble_eq_true rfl, Nat.le_of_ble_eq_true rfl⟩) X Y hA S (by decide) (fun f103 H locs Y S s103 p103 => ?_)
  refine lv_aload X.1 X.2.1 d_So_putPrivate_14 (lv_at hl 0 rfl) ?_
  refine lv_bipush (v := iI 124) X.1 X.2.1 d_So_putPrivate_16 (by decide) ?_
  refine t_ni (t_runV (As := [.int (iI 124)]) (rest := []) (n := 1) X Y S k102 hml hl.1 (c_By_open l D E T κ L f103 H.size b102 6144 k102 (by omega) 124 (by omega) (by omega) S.1) (ok_k X Y hA KS KR) rfl kl_So_By_open ks_By_open kx_By_open ki_By_open ini_By ⟨rfl, rfl⟩ hd_By_open ⟨Nat.le_of_ble_eq_true rfl, Nat.le_of_ble_eq_true rfl⟩ rfl (Nat.le_of_ble_eq_true rfl) d_So_putPrivate_18 ⟨Nat.le_of_ble_eq_true rfl, Nat.le_of_ble_eq_true rfl⟩) X Y hA S (by decide) (fun z104 f104 H locs Y S s104 p104 => ?_)
  obtain ⟨l104, u104⟩ := p104
  refine lv_istore (lv' := [(6, .int (iI z104)), (5, .ref b102), (0, .ref h), (1, .int (iI a1)), (2, .int (iI a2)), (3, .ref a3), (4, .ref a4)]) X.1 X.2.1 d_So_putPrivate_21 hl (by decide) rfl (fun ls hl => ?_)
  refine lv_aload_n X.1 X.2.1 d_So_putPrivate_23 rfl (lv_at hl 2 rfl) ?_
  refine lv_iload_n X.1 X.2.1 d_So_putPrivate_24 rfl (lv_at hl 3 rfl) ?_
  refine lv_iload_n X.1 X.2.1 d_So_putPrivate_25 rfl (lv_at hl 4 rfl) ?_
  refine lv_aload_n X.1 X.2.1 d_So_putPrivate_26 rfl (lv_at hl 5 rfl) ?_
  refine lv_aload X.1 X.2.1 d_So_putPrivate_27 (lv_at hl 1 rfl) ?_
  refine t_nv (t_runV (As := [.int (iI a1), .int (iI a2), .ref a3, .ref b102]) (rest := []) (n := 4) X Y S k0 hml hl.1 (c_So_putData l D E T κ L f104 H.size h k0 a1 (by omega) (by omega) a2 (by omega) (by omega) a3 n3 k3 (by omega) b102 6144 k102 (by omega) S.1) (ok_k X Y hA KS KR) rfl kl_So_So_putData ks_So_putData kx_So_putData ki_So_putData ini_So ⟨rfl, rfl⟩ hd_So_putData ⟨Nat.le_of_ble_eq_true rfl, Nat.le_of_ble_eq_true rfl⟩ rfl (Nat.le_of_ble_eq_true rfl) d_So_putPrivate_29 ⟨Nat.le_of_ble_eq_true rfl, Nat.le_of_ble_eq_true rfl⟩) X Y hA S (by decide) (fun f105 H locs Y S s105 p105 => ?_)
  refine lv_aload X.1 X.2.1 d_So_putPrivate_32 (lv_at hl 1 rfl) ?_
  refine lv_iload X.1 X.2.1 d_So_putPrivate_34 (lv_at hl 0 rfl) ?_
  refine t_nv (t_runV (As := [.int (iI z104)]) (rest := []) (n := 1) X Y S k102 hml hl.1 (c_By_close l D E T κ L f105 H.size b102 6144 k102 (by omega) z104 (by omega) (by omega) S.1) (ok_k X Y hA KS KR) rfl kl_So_By_close ks_By_close kx_By_close ki_By_close ini_By ⟨rfl, rfl⟩ hd_By_close ⟨Nat.le_of_ble_eq_true rfl, Nat.le_of_ble_eq_true rfl⟩ rfl (Nat.le_of_ble_eq_true rfl) d_So_putPrivate_36 ⟨Nat.le_of_ble_eq_true rfl, Nat.le_of_ble_eq_true rfl⟩) X Y hA S (by decide) (fun f106 H locs Y S s106 p106 => ?_)
  refine lv_aload X.1 X.2.1 d_So_putPrivate_39 (lv_at hl 6 rfl) ?_
  refine t_nv (t_runV (As := []) (rest := []) (n := 0) X Y S k4 hml hl.1 (c_By_clear l D E T κ L f106 H.size a4 n4 k4 (by omega) S.1) (ok_k X Y hA KS KR) rfl kl_So_By_clear ks_By_clear kx_By_clear ki_By_clear ini_By ⟨rfl, rfl⟩ hd_By_clear ⟨Nat.le_of_ble_eq_true rfl, Nat.le_of_ble_eq_true rfl⟩ rfl (Nat.le_of_ble_eq_true rfl) d_So_putPrivate_41 ⟨Nat.le_of_ble_eq_true rfl, Nat.le_of_ble_eq_true rfl⟩) X Y hA S (by decide) (fun f107 H locs Y S s107 p107 => ?_)
  refine lv_aload X.1 X.2.1 d_So_putPrivate_44 (lv_at hl 6 rfl) ?_
  refine lv_bipush (v := iI 117) X.1 X.2.1 d_So_putPrivate_46 (by decide) ?_
  refine t_ni (t_runV (As := [.int (iI 117)]) (rest := []) (n := 1) X Y S k4 hml hl.1 (c_By_open l D E T κ L f107 H.size a4 n4 k4 (by omega) 117 (by omega) (by omega) S.1) (ok_k X Y hA KS KR) rfl kl_So_By_open ks_By_open kx_By_open ki_By_open ini_By ⟨rfl, rfl⟩ hd_By_open ⟨Nat.le_of_ble_eq_true rfl, Nat.le_of_ble_eq_true rfl⟩ rfl (Nat.le_of_ble_eq_true rfl) d_So_putPrivate_48 ⟨Nat.le_of_ble_eq_true rfl, Nat.le_of_ble_eq_true rfl⟩) X Y hA S (by decide) (fun z108 f108 H locs Y S s108 p108 => ?_)
  obtain ⟨l108, u108⟩ := p108
  refine lv_istore (lv' := [(7, .int (iI z108)), (6, .int (iI z104)), (5, .ref b102), (0, .ref h), (1, .int (iI a1)), (2, .int (iI a2)), (3, .ref a3), (4, .ref a4)]) X.1 X.2.1 d_So_putPrivate_51 hl (by decide) rfl (fun ls hl => ?_)
  refine lv_aload X.1 X.2.1 d_So_putPrivate_53 (lv_at hl 7 rfl) ?_
  refine lv_bipush (v := iI 48) X.1 X.2.1 d_So_putPrivate_55 (by decide) ?_
  refine t_ni (t_runV (As := [.int (iI 48)]) (rest := []) (n := 1) X Y S k4 hml hl.1 (c_By_open l D E T κ L f108 H.size a4 n4 k4 (by omega) 48 (by omega) (by omega) S.1) (ok_k X Y hA KS KR) rfl kl_So_By_open ks_By_open kx_By_open ki_By_open ini_By ⟨rfl, rfl⟩ hd_By_open ⟨Nat.le_of_ble_eq_true rfl, Nat.le_of_ble_eq_true rfl⟩ rfl (Nat.le_of_ble_eq_true rfl) d_So_putPrivate_57 ⟨Nat.le_of_ble_eq_true rfl, Nat.le_of_ble_eq_true rfl⟩) X Y hA S (by decide) (fun z109 f109 H locs Y S s109 p109 => ?_)
  obtain ⟨l109, u109⟩ := p109
  refine lv_istore (lv' := [(8, .int (iI z109)), (7, .int (iI z108)), (6, .int (iI z104)), (5, .ref b102), (0, .ref h), (1, .int (iI a1)), (2, .int (iI a2)), (3, .ref a3), (4, .ref a4)]) X.1 X.2.1 d_So_putPrivate_60 hl (by decide) rfl (fun ls hl => ?_)
  refine lv_aload X.1 X.2.1 d_So_putPrivate_62 (lv_at hl 8 rfl) ?_
  refine lv_iconst (v := iI 0) X.1 X.2.1 d_So_putPrivate_64 (by decide) ?_
  refine lv_ldc2 (v := (5)) X.1 X.2.1 X.2.2.2.1 (X.2.2.1 _ cl_So_112) d_So_putPrivate_65 ?_
  refine t_nv (t_runV (As := [.int (iI 0), .long ((5))]) (rest := []) (n := 2) X Y S k4 hml hl.1 (c_By_putNumber l D E T κ L f109 H.size a4 n4 k4 (by omega) 0 (by omega) (by omega) ((5)) S.1) (ok_k X Y hA KS KR) rfl kl_So_By_putNumber ks_By_putNumber kx_By_putNumber ki_By_putNumber ini_By ⟨rfl, rfl⟩ hd_By_putNumber ⟨Nat.le_of_ble_eq_true rfl, Nat.le_of_ble_eq_true rfl⟩ rfl (Nat.le_of_ble_eq_true rfl) d_So_putPrivate_68 ⟨Nat.le_of_ble_eq_true rfl, Nat.le_of_ble_eq_true rfl⟩) X Y hA S (by decide) (fun f110 H locs Y S s110 p110 => ?_)
  refine lv_aload X.1 X.2.1 d_So_putPrivate_71 (lv_at hl 8 rfl) ?_
  refine lv_iconst (v := iI 1) X.1 X.2.1 d_So_putPrivate_73 (by decide) ?_
  refine lv_ldc2 (v := (21)) X.1 X.2.1 X.2.2.2.1 (X.2.2.1 _ cl_So_158) d_So_putPrivate_74 ?_
  refine t_nv (t_runV (As := [.int (iI 1), .long ((21))]) (rest := []) (n := 2) X Y S k4 hml hl.1 (c_By_putNumber l D E T κ L f110 H.size a4 n4 k4 (by omega) 1 (by omega) (by omega) ((21)) S.1) (ok_k X Y hA KS KR) rfl kl_So_By_putNumber ks_By_putNumber kx_By_putNumber ki_By_putNumber ini_By ⟨rfl, rfl⟩ hd_By_putNumber ⟨Nat.le_of_ble_eq_true rfl, Nat.le_of_ble_eq_true rfl⟩ rfl (Nat.le_of_ble_eq_true rfl) d_So_putPrivate_77 ⟨Nat.le_of_ble_eq_true rfl, Nat.le_of_ble_eq_true rfl⟩) X Y hA S (by decide) (fun f111 H locs Y S s111 p111 => ?_)
  refine lv_aload X.1 X.2.1 d_So_putPrivate_80 (lv_at hl 8 rfl) ?_
  refine lv_iconst (v := iI 3) X.1 X.2.1 d_So_putPrivate_82 (by decide) ?_
  refine t_ni (t_runV (As := [.int (iI 3)]) (rest := []) (n := 1) X Y S k4 hml hl.1 (c_By_openField l D E T κ L f111 H.size a4 n4 k4 (by omega) 3 (by omega) (by omega) S.1) (ok_k X Y hA KS KR) rfl kl_So_By_openField ks_By_openField kx_By_openField ki_By_openField ini_By ⟨rfl, rfl⟩ hd_By_openField ⟨Nat.le_of_ble_eq_true rfl, Nat.le_of_ble_eq_true rfl⟩ rfl (Nat.le_of_ble_eq_true rfl) d_So_putPrivate_83 ⟨Nat.le_of_ble_eq_true rfl, Nat.le_of_ble_eq_true rfl⟩) X Y hA S (by decide) (fun z112 f112 H locs Y S s112 p112 => ?_)
  obtain ⟨l112, u112⟩ := p112
  refine lv_istore (lv' := [(9, .int (iI z112)), (8, .int (iI z109)), (7, .int (iI z108)), (6, .int (iI z104)), (5, .ref b102), (0, .ref h), (1, .int (iI a1)), (2, .int (iI a2)), (3, .ref a3), (4, .ref a4)]) X.1 X.2.1 d_So_putPrivate_86 hl (by decide) rfl (fun ls hl => ?_)
  refine lv_aload_n X.1 X.2.1 d_So_putPrivate_88 rfl (lv_at hl 5 rfl) ?_
  refine t_get0 (ci := 9) X Y S k0 rfl i_So 0 (by decide) rfl lk_So_35 (fun _ h9 => h9) d_So_putPrivate_89 ((gF_same (s112.2.2.2 _ ⟨(t_obj S.1 k0).1, nM_of k0 (by decide), by simp⟩).1 0).trans ((gF_same (s111.2.2.2 _ ⟨(t_obj S.1 k0).1, nM_of k0 (by decide), by simp⟩).1 0).trans ((gF_same (s110.2.2.2 _ ⟨(t_obj S.1 k0).1, nM_of k0 (by decide), by simp⟩).1 0).trans ((gF_same (s109.2.2.2 _ ⟨(t_obj S.1 k0).1, nM_of k0 (by decide), by simp⟩).1 0).trans ((gF_same (s108.2.2.2 _ ⟨(t_obj S.1 k0).1, nM_of k0 (by decide), by simp⟩).1 0).trans ((gF_same (s107.2.2.2 _ ⟨(t_obj S.1 k0).1, nM_of k0 (by decide), by simp⟩).1 0).trans ((gF_same (s106.2.2.2 _ ⟨(t_obj S.1 k0).1, nM_of k0 (by decide), by simp⟩).1 0).trans ((gF_same (s105.2.2.2 _ ⟨(t_obj S.1 k0).1, nM_of k0 (by decide), by simp⟩).1 0).trans ((gF_same (s104.2.2.2 _ ⟨(t_obj S.1 k0).1, nM_of k0 (by decide), by simp⟩).1 0).trans ((gF_same (s103.2.2.2 _ ⟨(t_obj S.1 k0).1, nM_of k0 (by decide), by simp⟩).1 0).trans e101)))))))))) ?_
  refine lv_aload X.1 X.2.1 d_So_putPrivate_92 (lv_at hl 9 rfl) ?_
  refine lv_aload_n X.1 X.2.1 d_So_putPrivate_94 rfl (lv_at hl 5 rfl) ?_
  refine t_getk (ci := 9) X Y S k0 rfl i_So 3 (by decide) rfl lk_So_19 (fun _ h9 => h9) d_So_putPrivate_95 (fun b113 n113 e113 k113 x113 => ?_)
  refine lv_bipush (v := iI 13) X.1 X.2.1 d_So_putPrivate_98 (by decide) ?_
  refine lv_iconst (v := iI 0) X.1 X.2.1 d_So_putPrivate_100 (by decide) ?_
  refine t_nv (t_runV (As := [.ref a4, .ref b113, .int (iI 13), .int (iI 0)]) (rest := []) (n := 4) X Y S k101 hml hl.1 (c_Va_putSealed l D E T κ L f112 H.size b101 k101 a4 n4 k4 (by omega) b113 n113 k113 (by omega) 13 (by omega) (by omega) 0 (by omega) (by omega) S.1) (ok_k X Y hA KS KR) rfl kl_So_Va_putSealed ks_Va_putSealed kx_Va_putSealed ki_Va_putSealed ini_Va ⟨rfl, rfl⟩ hd_Va_putSealed ⟨Nat.le_of_ble_eq_true rfl, Nat.le_of_ble_eq_true rfl⟩ rfl (Nat.le_of_ble_eq_true rfl) d_So_putPrivate_101 ⟨Nat.le_of_ble_eq_true rfl, Nat.le_of_ble_eq_true rfl⟩) X Y hA S (by decide) (fun f114 H locs Y S s114 p114 => ?_)
  refine lv_aload X.1 X.2.1 d_So_putPrivate_104 (lv_at hl 9 rfl) ?_
  refine lv_iload X.1 X.2.1 d_So_putPrivate_106 (lv_at hl 0 rfl) ?_
  refine t_nv (t_runV (As := [.int (iI z112)]) (rest := []) (n := 1) X Y S k4 hml hl.1 (c_By_close l D E T κ L f114 H.size a4 n4 k4 (by omega) z112 (by omega) (by omega) S.1) (ok_k X Y hA KS KR) rfl kl_So_By_close ks_By_close kx_By_close ki_By_close ini_By ⟨rfl, rfl⟩ hd_By_close ⟨Nat.le_of_ble_eq_true rfl, Nat.le_of_ble_eq_true rfl⟩ rfl (Nat.le_of_ble_eq_true rfl) d_So_putPrivate_108 ⟨Nat.le_of_ble_eq_true rfl, Nat.le_of_ble_eq_true rfl⟩) X Y hA S (by decide) (fun f115 H locs Y S s115 p115 => ?_)
  refine lv_aload X.1 X.2.1 d_So_putPrivate_111 (lv_at hl 9 rfl) ?_
  refine lv_iload X.1 X.2.1 d_So_putPrivate_113 (lv_at hl 1 rfl) ?_
  refine t_nv (t_runV (As := [.int (iI z109)]) (rest := []) (n := 1) X Y S k4 hml hl.1 (c_By_close l D E T κ L f115 H.size a4 n4 k4 (by omega) z109 (by omega) (by omega) S.1) (ok_k X Y hA KS KR) rfl kl_So_By_close ks_By_close kx_By_close ki_By_close ini_By ⟨rfl, rfl⟩ hd_By_close ⟨Nat.le_of_ble_eq_true rfl, Nat.le_of_ble_eq_true rfl⟩ rfl (Nat.le_of_ble_eq_true rfl) d_So_putPrivate_115 ⟨Nat.le_of_ble_eq_true rfl, Nat.le_of_ble_eq_true rfl⟩) X Y hA S (by decide) (fun f116 H locs Y S s116 p116 => ?_)
  refine lv_aload X.1 X.2.1 d_So_putPrivate_118 (lv_at hl 9 rfl) ?_
  refine lv_iload X.1 X.2.1 d_So_putPrivate_120 (lv_at hl 2 rfl) ?_
  refine t_nv (t_runV (As := [.int (iI z108)]) (rest := []) (n := 1) X Y S k4 hml hl.1 (c_By_close l D E T κ L f116 H.size a4 n4 k4 (by omega) z108 (by omega) (by omega) S.1) (ok_k X Y hA KS KR) rfl kl_So_By_close ks_By_close kx_By_close ki_By_close ini_By ⟨rfl, rfl⟩ hd_By_close ⟨Nat.le_of_ble_eq_true rfl, Nat.le_of_ble_eq_true rfl⟩ rfl (Nat.le_of_ble_eq_true rfl) d_So_putPrivate_122 ⟨Nat.le_of_ble_eq_true rfl, Nat.le_of_ble_eq_true rfl⟩) X Y hA S (by decide) (fun f117 H locs Y S s117 p117 => ?_)
  exact c_retv hQQ X Y hr hlk ⟨rfl, S, trivial⟩ d_So_putPrivate_125
set_option maxHeartbeats 4000000 in
set_option maxRecDepth 100000 in
theorem c_So_putSafe (l : Launch) (D : va_G) (E : cE) (T : cT) (κ : tK) (L : List Nat) (f : pF) (sz : Nat) (h : Nat) (k0 : κ h = (19, 0)) (a1 : Int) (l_a1 : 0 ≤ a1) (u_a1 : a1 ≤ 1) (a2 : Int) (l_a2 : (-2147483648) ≤ a2) (u_a2 : a2 ≤ 2147483647) (a3 n3 : Nat) (k3 : κ a3 = (13, n3)) (x3 : n3 ≤ 12288) (a4 n4 : Nat) (k4 : κ a4 = (13, n4)) (x4 : n4 ≤ 12288) (hw : tW E T κ L f) : Met l y_So_putSafe (k_So_putSafe :: lw_tg) (kRm 6 184 0 0) (va_Pc [.ref h, .int (iI a1), .int (iI a2), .ref a3, .ref a4] (kPre D E T L f sz)) (va_Qv (nPv E T [1, 2, 3, 4, 11, 13, 16] κ L f (fun (g : pF) => True)) (cPost D E (pA L sz)) (pA L sz)) 0 0 (pA L sz) := by
  refine k_enter (own := R_So) (by decide) rfl (Nat.le_of_ble_eq_true rfl) (fun p e s m below meth c ls AV QQ H locs hQQ X Y hA hin hr hlk hml hl KS KR => ?_)
  have hl : lv_has ls 8 [(0, .ref h), (1, .int (iI a1)), (2, .int (iI a2)), (3, .ref a3), (4, .ref a4)] := hl
  have S : tS E T (tFr κ L [1, 2, 3, 4, 11, 13, 16] []) κ L f κ L f := tS_rf hw
  refine lv_aload_n X.1 X.2.1 d_So_putSafe_0 rfl (lv_at hl 0 rfl) ?_
  refine t_getr (ci := 9) X Y S k0 rfl i_So 0 (by decide) rfl (k1 := 21) (k2 := 0) rfl rfl lk_So_35 (fun _ h9 => h9) d_So_putSafe_1 (fun b101 e101 k101 => ?_)
  refine t_getr (ci := 11) X Y S k101 rfl i_Va 1 (by decide) rfl (k1 := 13) (k2 := 6144) rfl rfl lk_So_91 (fun _ h9 => h9) d_So_putSafe_4 (fun b102 e102 k102 => ?_)
  refine lv_astore (lv' := [(5, .ref b102), (0, .ref h), (1, .int (iI a1)), (2, .int (iI a2)), (3, .ref a3), (4, .ref a4)]) X.1 X.2.1 d_So_putSafe_7 hl (by decide) rfl (fun ls hl => ?_)
  refine lv_aload X.1 X.2.1 d_So_putSafe_9 (lv_at hl 0 rfl) ?_
  refine t_nv (t_runV (As := []) (rest := []) (n := 0) X Y S k102 hml hl.1 (c_By_clear l D E T κ L f H.size b102 6144 k102 (by omega) S.1) (ok_k X Y hA KS KR) rfl kl_So_By_clear ks_By_clear kx_By_clear ki_By_clear ini_By ⟨rfl, rfl⟩ hd_By_clear ⟨Nat.le_of_ble_eq_true rfl, Nat.le_of_ble_eq_true rfl⟩ rfl (Nat.le_of_ble_eq_true rfl) d_So_putSafe_11 ⟨Nat.le_of_ble_eq_true rfl, Nat.le_of_ble_eq_true rfl⟩) X Y hA S (by decide) (fun f103 H locs Y S s103 p103 => ?_)
  refine lv_aload_n X.1 X.2.1 d_So_putSafe_14 rfl (lv_at hl 1 rfl) ?_
  refine lv_iload_n X.1 X.2.1 d_So_putSafe_15 rfl (lv_at hl 2 rfl) ?_
  refine lv_iload_n X.1 X.2.1 d_So_putSafe_16 rfl (lv_at hl 3 rfl) ?_
  refine lv_aload_n X.1 X.2.1 d_So_putSafe_17 rfl (lv_at hl 4 rfl) ?_
  refine lv_aload X.1 X.2.1 d_So_putSafe_18 (lv_at hl 0 rfl) ?_
  refine t_nv (t_runV (As := [.int (iI a1), .int (iI a2), .ref a3, .ref b102]) (rest := []) (n := 4) X Y S k0 hml hl.1 (c_So_putData l D E T κ L f103 H.size h k0 a1 (by omega) (by omega) a2 (by omega) (by omega) a3 n3 k3 (by omega) b102 6144 k102 (by omega) S.1) (ok_k X Y hA KS KR) rfl kl_So_So_putData ks_So_putData kx_So_putData ki_So_putData ini_So ⟨rfl, rfl⟩ hd_So_putData ⟨Nat.le_of_ble_eq_true rfl, Nat.le_of_ble_eq_true rfl⟩ rfl (Nat.le_of_ble_eq_true rfl) d_So_putSafe_20 ⟨Nat.le_of_ble_eq_true rfl, Nat.le_of_ble_eq_true rfl⟩) X Y hA S (by decide) (fun f104 H locs Y S s104 p104 => ?_)
  refine lv_aload_n X.1 X.2.1 d_So_putSafe_23 rfl (lv_at hl 1 rfl) ?_
  refine t_get0 (ci := 9) X Y S k0 rfl i_So 0 (by decide) rfl lk_So_35 (fun _ h9 => h9) d_So_putSafe_24 ((gF_same (s104.2.2.2 _ ⟨(t_obj S.1 k0).1, nM_of k0 (by decide), by simp⟩).1 0).trans ((gF_same (s103.2.2.2 _ ⟨(t_obj S.1 k0).1, nM_of k0 (by decide), by simp⟩).1 0).trans e101)) ?_
  refine lv_aload_n X.1 X.2.1 d_So_putSafe_27 rfl (lv_at hl 1 rfl) ?_
  refine t_getk (ci := 9) X Y S k0 rfl i_So 3 (by decide) rfl lk_So_19 (fun _ h9 => h9) d_So_putSafe_28 (fun b105 n105 e105 k105 x105 => ?_)
  refine lv_bipush (v := iI 15) X.1 X.2.1 d_So_putSafe_31 (by decide) ?_
  refine lv_aload X.1 X.2.1 d_So_putSafe_33 (lv_at hl 0 rfl) ?_
  refine lv_iconst (v := iI 0) X.1 X.2.1 d_So_putSafe_35 (by decide) ?_
  refine lv_aload X.1 X.2.1 d_So_putSafe_36 (lv_at hl 0 rfl) ?_
  refine t_gets (ci := 3) X Y S k102 rfl i_By 1 (by decide) rfl lk_So_141 (fun _ h9 => h9) d_So_putSafe_38 (fun z106 e106 l106 u106 => ?_)
  refine t_nv (t_runV (As := [.ref b105, .int (iI 15), .ref b102, .int (iI 0), .int (iI z106)]) (rest := []) (n := 5) X Y S k101 hml hl.1 (c_Va_sum l D E T κ L f104 H.size b101 k101 b105 n105 k105 (by omega) 15 (by omega) (by omega) b102 6144 k102 (by omega) 0 (by omega) (by omega) z106 (by omega) (by omega) S.1) (ok_k X Y hA KS KR) rfl kl_So_Va_sum ks_Va_sum kx_Va_sum ki_Va_sum ini_Va ⟨rfl, rfl⟩ hd_Va_sum ⟨Nat.le_of_ble_eq_true rfl, Nat.le_of_ble_eq_true rfl⟩ rfl (Nat.le_of_ble_eq_true rfl) d_So_putSafe_41 ⟨Nat.le_of_ble_eq_true rfl, Nat.le_of_ble_eq_true rfl⟩) X Y hA S (by decide) (fun f107 H locs Y S s107 p107 => ?_)
  refine lv_aload X.1 X.2.1 d_So_putSafe_44 (lv_at hl 5 rfl) ?_
  refine t_nv (t_runV (As := []) (rest := []) (n := 0) X Y S k4 hml hl.1 (c_By_clear l D E T κ L f107 H.size a4 n4 k4 (by omega) S.1) (ok_k X Y hA KS KR) rfl kl_So_By_clear ks_By_clear kx_By_clear ki_By_clear ini_By ⟨rfl, rfl⟩ hd_By_clear ⟨Nat.le_of_ble_eq_true rfl, Nat.le_of_ble_eq_true rfl⟩ rfl (Nat.le_of_ble_eq_true rfl) d_So_putSafe_46 ⟨Nat.le_of_ble_eq_true rfl, Nat.le_of_ble_eq_true rfl⟩) X Y hA S (by decide) (fun f108 H locs Y S s108 p108 => ?_)
  refine lv_aload X.1 X.2.1 d_So_putSafe_49 (lv_at hl 5 rfl) ?_
  refine lv_bipush (v := iI 116) X.1 X.2.1 d_So_putSafe_51 (by decide) ?_
  refine t_ni (t_runV (As := [.int (iI 116)]) (rest := []) (n := 1) X Y S k4 hml hl.1 (c_By_open l D E T κ L f108 H.size a4 n4 k4 (by omega) 116 (by omega) (by omega) S.1) (ok_k X Y hA KS KR) rfl kl_So_By_open ks_By_open kx_By_open ki_By_open ini_By ⟨rfl, rfl⟩ hd_By_open ⟨Nat.le_of_ble_eq_true rfl, Nat.le_of_ble_eq_true rfl⟩ rfl (Nat.le_of_ble_eq_true rfl) d_So_putSafe_53 ⟨Nat.le_of_ble_eq_true rfl, Nat.le_of_ble_eq_true rfl⟩) X Y hA S (by decide) (fun z109 f109 H locs Y S s109 p109 => ?_)
  obtain ⟨l109, u109⟩ := p109
  refine lv_istore (lv' := [(6, .int (iI z109)), (5, .ref b102), (0, .ref h), (1, .int (iI a1)), (2, .int (iI a2)), (3, .ref a3), (4, .ref a4)]) X.1 X.2.1 d_So_putSafe_56 hl (by decide) rfl (fun ls hl => ?_)
  refine lv_aload X.1 X.2.1 d_So_putSafe_58 (lv_at hl 6 rfl) ?_
  refine lv_bipush (v := iI 48) X.1 X.2.1 d_So_putSafe_60 (by decide) ?_
  refine t_ni (t_runV (As := [.int (iI 48)]) (rest := []) (n := 1) X Y S k4 hml hl.1 (c_By_open l D E T κ L f109 H.size a4 n4 k4 (by omega) 48 (by omega) (by omega) S.1) (ok_k X Y hA KS KR) rfl kl_So_By_open ks_By_open kx_By_open ki_By_open ini_By ⟨rfl, rfl⟩ hd_By_open ⟨Nat.le_of_ble_eq_true rfl, Nat.le_of_ble_eq_true rfl⟩ rfl (Nat.le_of_ble_eq_true rfl) d_So_putSafe_62 ⟨Nat.le_of_ble_eq_true rfl, Nat.le_of_ble_eq_true rfl⟩) X Y hA S (by decide) (fun z110 f110 H locs Y S s110 p110 => ?_)
  obtain ⟨l110, u110⟩ := p110
  refine lv_istore (lv' := [(7, .int (iI z110)), (6, .int (iI z109)), (5, .ref b102), (0, .ref h), (1, .int (iI a1)), (2, .int (iI a2)), (3, .ref a3), (4, .ref a4)]) X.1 X.2.1 d_So_putSafe_65 hl (by decide) rfl (fun ls hl => ?_)
  refine lv_aload X.1 X.2.1 d_So_putSafe_67 (lv_at hl 7 rfl) ?_
  refine lv_iconst (v := iI 0) X.1 X.2.1 d_So_putSafe_69 (by decide) ?_
  refine lv_ldc2 (v := (5)) X.1 X.2.1 X.2.2.2.1 (X.2.2.1 _ cl_So_112) d_So_putSafe_70 ?_
  refine t_nv (t_runV (As := [.int (iI 0), .long ((5))]) (rest := []) (n := 2) X Y S k4 hml hl.1 (c_By_putNumber l D E T κ L f110 H.size a4 n4 k4 (by omega) 0 (by omega) (by omega) ((5)) S.1) (ok_k X Y hA KS KR) rfl kl_So_By_putNumber ks_By_putNumber kx_By_putNumber ki_By_putNumber ini_By ⟨rfl, rfl⟩ hd_By_putNumber ⟨Nat.le_of_ble_eq_true rfl, Nat.le_of_ble_eq_true rfl⟩ rfl (Nat.le_of_ble_eq_true rfl) d_So_putSafe_73 ⟨Nat.le_of_ble_eq_true rfl, Nat.le_of_ble_eq_true rfl⟩) X Y hA S (by decide) (fun f111 H locs Y S s111 p111 => ?_)
  refine lv_aload X.1 X.2.1 d_So_putSafe_76 (lv_at hl 7 rfl) ?_
  refine lv_iconst (v := iI 1) X.1 X.2.1 d_So_putSafe_78 (by decide) ?_
  refine lv_ldc2 (v := (20)) X.1 X.2.1 X.2.2.2.1 (X.2.2.1 _ cl_So_164) d_So_putSafe_79 ?_
  refine t_nv (t_runV (As := [.int (iI 1), .long ((20))]) (rest := []) (n := 2) X Y S k4 hml hl.1 (c_By_putNumber l D E T κ L f111 H.size a4 n4 k4 (by omega) 1 (by omega) (by omega) ((20)) S.1) (ok_k X Y hA KS KR) rfl kl_So_By_putNumber ks_By_putNumber kx_By_putNumber ki_By_putNumber ini_By ⟨rfl, rfl⟩ hd_By_putNumber ⟨Nat.le_of_ble_eq_true rfl, Nat.le_of_ble_eq_true rfl⟩ rfl (Nat.le_of_ble_eq_true rfl) d_So_putSafe_82 ⟨Nat.le_of_ble_eq_true rfl, Nat.le_of_ble_eq_true rfl⟩) X Y hA S (by decide) (fun f112 H locs Y S s112 p112 => ?_)
  refine lv_aload X.1 X.2.1 d_So_putSafe_85 (lv_at hl 7 rfl) ?_
  refine lv_iconst (v := iI 2) X.1 X.2.1 d_So_putSafe_87 (by decide) ?_
  refine lv_aload X.1 X.2.1 d_So_putSafe_88 (lv_at hl 2 rfl) ?_
  refine lv_iconst (v := iI 0) X.1 X.2.1 d_So_putSafe_90 (by decide) ?_
  refine t_nv (t_runV (As := [.int (iI 2), .ref b102, .int (iI 0)]) (rest := []) (n := 3) X Y S k4 hml hl.1 (c_By_putCopy l D E T κ L f112 H.size a4 n4 k4 (by omega) 2 (by omega) (by omega) b102 6144 k102 (by omega) 0 (by omega) (by omega) S.1) (ok_k X Y hA KS KR) rfl kl_So_By_putCopy ks_By_putCopy kx_By_putCopy ki_By_putCopy ini_By ⟨rfl, rfl⟩ hd_By_putCopy ⟨Nat.le_of_ble_eq_true rfl, Nat.le_of_ble_eq_true rfl⟩ rfl (Nat.le_of_ble_eq_true rfl) d_So_putSafe_91 ⟨Nat.le_of_ble_eq_true rfl, Nat.le_of_ble_eq_true rfl⟩) X Y hA S (by decide) (fun f113 H locs Y S s113 p113 => ?_)
  refine lv_aload_n X.1 X.2.1 d_So_putSafe_94 rfl (lv_at hl 3 rfl) ?_
  refine t_get0 (ci := 9) X Y S k0 rfl i_So 0 (by decide) rfl lk_So_35 (fun _ h9 => h9) d_So_putSafe_95 ((gF_same (s113.2.2.2 _ ⟨(t_obj S.1 k0).1, nM_of k0 (by decide), by simp⟩).1 0).trans ((gF_same (s112.2.2.2 _ ⟨(t_obj S.1 k0).1, nM_of k0 (by decide), by simp⟩).1 0).trans ((gF_same (s111.2.2.2 _ ⟨(t_obj S.1 k0).1, nM_of k0 (by decide), by simp⟩).1 0).trans ((gF_same (s110.2.2.2 _ ⟨(t_obj S.1 k0).1, nM_of k0 (by decide), by simp⟩).1 0).trans ((gF_same (s109.2.2.2 _ ⟨(t_obj S.1 k0).1, nM_of k0 (by decide), by simp⟩).1 0).trans ((gF_same (s108.2.2.2 _ ⟨(t_obj S.1 k0).1, nM_of k0 (by decide), by simp⟩).1 0).trans ((gF_same (s107.2.2.2 _ ⟨(t_obj S.1 k0).1, nM_of k0 (by decide), by simp⟩).1 0).trans ((gF_same (s104.2.2.2 _ ⟨(t_obj S.1 k0).1, nM_of k0 (by decide), by simp⟩).1 0).trans ((gF_same (s103.2.2.2 _ ⟨(t_obj S.1 k0).1, nM_of k0 (by decide), by simp⟩).1 0).trans e101))))))))) ?_
  refine lv_aload X.1 X.2.1 d_So_putSafe_98 (lv_at hl 7 rfl) ?_
  refine lv_aload_n X.1 X.2.1 d_So_putSafe_100 rfl (lv_at hl 3 rfl) ?_
  refine t_get0 (ci := 9) X Y S k0 rfl i_So 3 (by decide) rfl lk_So_19 (fun _ h9 => h9) d_So_putSafe_101 ((gF_same (s113.2.2.2 _ ⟨(t_obj S.1 k0).1, nM_of k0 (by decide), by simp⟩).1 3).trans ((gF_same (s112.2.2.2 _ ⟨(t_obj S.1 k0).1, nM_of k0 (by decide), by simp⟩).1 3).trans ((gF_same (s111.2.2.2 _ ⟨(t_obj S.1 k0).1, nM_of k0 (by decide), by simp⟩).1 3).trans ((gF_same (s110.2.2.2 _ ⟨(t_obj S.1 k0).1, nM_of k0 (by decide), by simp⟩).1 3).trans ((gF_same (s109.2.2.2 _ ⟨(t_obj S.1 k0).1, nM_of k0 (by decide), by simp⟩).1 3).trans ((gF_same (s108.2.2.2 _ ⟨(t_obj S.1 k0).1, nM_of k0 (by decide), by simp⟩).1 3).trans ((gF_same (s107.2.2.2 _ ⟨(t_obj S.1 k0).1, nM_of k0 (by decide), by simp⟩).1 3).trans e105))))))) ?_
  refine t_nv (t_runV (As := [.ref a4, .ref b105]) (rest := []) (n := 2) X Y S k101 hml hl.1 (c_Va_putSum l D E T κ L f113 H.size b101 k101 a4 n4 k4 (by omega) b105 n105 k105 (by omega) S.1) (ok_k X Y hA KS KR) rfl kl_So_Va_putSum ks_Va_putSum kx_Va_putSum ki_Va_putSum ini_Va ⟨rfl, rfl⟩ hd_Va_putSum ⟨Nat.le_of_ble_eq_true rfl, Nat.le_of_ble_eq_true rfl⟩ rfl (Nat.le_of_ble_eq_true rfl) d_So_putSafe_104 ⟨Nat.le_of_ble_eq_true rfl, Nat.le_of_ble_eq_true rfl⟩) X Y hA S (by decide) (fun f114 H locs Y S s114 p114 => ?_)
  refine lv_aload X.1 X.2.1 d_So_putSafe_107 (lv_at hl 7 rfl) ?_
  refine lv_iload X.1 X.2.1 d_So_putSafe_109 (lv_at hl 0 rfl) ?_
  refine t_nv (t_runV (As := [.int (iI z110)]) (rest := []) (n := 1) X Y S k4 hml hl.1 (c_By_close l D E T κ L f114 H.size a4 n4 k4 (by omega) z110 (by omega) (by omega) S.1) (ok_k X Y hA KS KR) rfl kl_So_By_close ks_By_close kx_By_close ki_By_close ini_By ⟨rfl, rfl⟩ hd_By_close ⟨Nat.le_of_ble_eq_true rfl, Nat.le_of_ble_eq_true rfl⟩ rfl (Nat.le_of_ble_eq_true rfl) d_So_putSafe_111 ⟨Nat.le_of_ble_eq_true rfl, Nat.le_of_ble_eq_true rfl⟩) X Y hA S (by decide) (fun f115 H locs Y S s115 p115 => ?_)
  refine lv_aload X.1 X.2.1 d_So_putSafe_114 (lv_at hl 7 rfl) ?_
  refine lv_iload X.1 X.2.1 d_So_putSafe_116 (lv_at hl 1 rfl) ?_
  refine t_nv (t_runV (As := [.int (iI z109)]) (rest := []) (n := 1) X Y S k4 hml hl.1 (c_By_close l D E T κ L f115 H.size a4 n4 k4 (by omega) z109 (by omega) (by omega) S.1) (ok_k X Y hA KS KR) rfl kl_So_By_close ks_By_close kx_By_close ki_By_close ini_By ⟨rfl, rfl⟩ hd_By_close ⟨Nat.le_of_ble_eq_true rfl, Nat.le_of_ble_eq_true rfl⟩ rfl (Nat.le_of_ble_eq_true rfl) d_So_putSafe_118 ⟨Nat.le_of_ble_eq_true rfl, Nat.le_of_ble_eq_true rfl⟩) X Y hA S (by decide) (fun f116 H locs Y S s116 p116 => ?_)
  exact c_retv hQQ X Y hr hlk ⟨rfl, S, trivial⟩ d_So_putSafe_121
set_option maxHeartbeats 4000000 in
set_option maxRecDepth 100000 in
theorem c_So_judgeHead (l : Launch) (D : va_G) (E : cE) (T : cT) (κ : tK) (L : List Nat) (f : pF) (sz : Nat) (a1 n1 : Nat) (k1 : κ a1 = (13, n1)) (x1 : n1 ≤ 12288) (a2 : Int) (l_a2 : (-2147483648) ≤ a2) (u_a2 : a2 ≤ 2147483647) (a3 : Int) (l_a3 : (-2147483648) ≤ a3) (u_a3 : a3 ≤ 2147483647) (hw : tW E T κ L f) : Met l y_So_judgeHead (k_So_judgeHead :: lw_tg) (kRm 71 2363 0 0) (va_Pc [.ref a1, .int (iI a2), .int (iI a3)] (kPre D E T L f sz)) (va_Qi (uPi L f (fun (z : Int) => (-2147483648) ≤ z ∧ z ≤ 2147483647)) (cPost D E (pA L sz)) (pA L sz)) 0 0 (pA L sz) := by
  refine k_enter (own := R_So) (by decide) rfl (Nat.le_of_ble_eq_true rfl) (fun p e s m below meth c ls AV QQ H locs hQQ X Y hA hin hr hlk hml hl KS KR => ?_)
  have hl : lv_has ls 3 [(0, .ref a1), (1, .int (iI a2)), (2, .int (iI a3))] := hl
  have S : tS E T (tFr κ L [] []) κ L f κ L f := tS_rf hw
  refine lv_aload_n X.1 X.2.1 d_So_judgeHead_0 rfl (lv_at hl 0 rfl) ?_
  refine lv_iload_n X.1 X.2.1 d_So_judgeHead_1 rfl (lv_at hl 1 rfl) ?_
  refine lv_iconst (v := iI 0) X.1 X.2.1 d_So_judgeHead_2 (by decide) ?_
  refine lv_aload_n X.1 X.2.1 d_So_judgeHead_3 rfl (lv_at hl 0 rfl) ?_
  refine t_gets (ci := 3) X Y S k1 rfl i_By 1 (by decide) rfl lk_So_141 (fun _ h9 => h9) d_So_judgeHead_4 (fun z101 e101 l101 u101 => ?_)
  refine t_ui (t_runV (As := [.int (iI a2), .int (iI 0), .int (iI z101)]) (rest := []) (n := 3) X Y S k1 hml hl.1 (c_By_isA l D E T κ L f H.size a1 n1 k1 (by omega) a2 (by omega) (by omega) 0 (by omega) (by omega) z101 (by omega) (by omega) S.1) (ok_k X Y hA KS KR) rfl kl_So_By_isA ks_By_isA kx_By_isA ki_By_isA ini_By ⟨rfl, rfl⟩ hd_By_isA ⟨Nat.le_of_ble_eq_true rfl, Nat.le_of_ble_eq_true rfl⟩ rfl (Nat.le_of_ble_eq_true rfl) d_So_judgeHead_7 ⟨Nat.le_of_ble_eq_true rfl, Nat.le_of_ble_eq_true rfl⟩) X Y hA (fun z102 H locs Y p102 => ?_)
  obtain ⟨l102, u102⟩ := p102
  refine z_if_ne (tgt := 16) X.1 X.2.1 d_So_judgeHead_10 (by decide) ⟨by omega, by omega⟩ (fun h103 => ?_) (fun h103 => ?_)
  · refine lv_aload_n X.1 X.2.1 d_So_judgeHead_16 rfl (lv_at hl 0 rfl) ?_
    refine lv_aload_n X.1 X.2.1 d_So_judgeHead_17 rfl (lv_at hl 0 rfl) ?_
    refine lv_iconst (v := iI 0) X.1 X.2.1 d_So_judgeHead_18 (by decide) ?_
    refine lv_iconst (v := iI 0) X.1 X.2.1 d_So_judgeHead_19 (by decide) ?_
    refine t_ui (t_runV (As := [.int (iI 0), .int (iI 0)]) (rest := [.ref a1]) (n := 2) X Y S k1 hml hl.1 (c_By_field l D E T κ L f H.size a1 n1 k1 (by omega) 0 (by omega) (by omega) 0 (by omega) (by omega) S.1) (ok_k X Y hA KS KR) rfl kl_So_By_field ks_By_field kx_By_field ki_By_field ini_By ⟨rfl, rfl⟩ hd_By_field ⟨Nat.le_of_ble_eq_true rfl, Nat.le_of_ble_eq_true rfl⟩ rfl (Nat.le_of_ble_eq_true rfl) d_So_judgeHead_20 ⟨Nat.le_of_ble_eq_true rfl, Nat.le_of_ble_eq_true rfl⟩) X Y hA (fun z104 H locs Y p104 => ?_)
    obtain ⟨l104, u104⟩ := p104
    refine t_ul (t_runV (As := [.int (iI z104)]) (rest := []) (n := 1) X Y S k1 hml hl.1 (c_By_numberAt l D E T κ L f H.size a1 n1 k1 (by omega) z104 (by omega) (by omega) S.1) (ok_k X Y hA KS KR) rfl kl_So_By_numberAt ks_By_numberAt kx_By_numberAt ki_By_numberAt ini_By ⟨rfl, rfl⟩ hd_By_numberAt ⟨Nat.le_of_ble_eq_true rfl, Nat.le_of_ble_eq_true rfl⟩ rfl (Nat.le_of_ble_eq_true rfl) d_So_judgeHead_23 ⟨Nat.le_of_ble_eq_true rfl, Nat.le_of_ble_eq_true rfl⟩) X Y hA (fun v105 H locs Y p105 => ?_)
    refine lv_ldc2 (v := (5)) X.1 X.2.1 X.2.2.2.1 (X.2.2.1 _ cl_So_112) d_So_judgeHead_26 ?_
    refine W.lcmp X.1 X.2.1 d_So_judgeHead_29 ?_
    refine t_u (fun z106 l106 u106 => ?_)
    refine z_if_eq (tgt := 36) X.1 X.2.1 d_So_judgeHead_30 (by decide) ⟨by omega, by omega⟩ (fun h107 => ?_) (fun h107 => ?_)
    · refine lv_aload_n X.1 X.2.1 d_So_judgeHead_36 rfl (lv_at hl 0 rfl) ?_
      refine lv_aload_n X.1 X.2.1 d_So_judgeHead_37 rfl (lv_at hl 0 rfl) ?_
      refine lv_iconst (v := iI 0) X.1 X.2.1 d_So_judgeHead_38 (by decide) ?_
      refine lv_iconst (v := iI 1) X.1 X.2.1 d_So_judgeHead_39 (by decide) ?_
      refine t_ui (t_runV (As := [.int (iI 0), .int (iI 1)]) (rest := [.ref a1]) (n := 2) X Y S k1 hml hl.1 (c_By_field l D E T κ L f H.size a1 n1 k1 (by omega) 0 (by omega) (by omega) 1 (by omega) (by omega) S.1) (ok_k X Y hA KS KR) rfl kl_So_By_field ks_By_field kx_By_field ki_By_field ini_By ⟨rfl, rfl⟩ hd_By_field ⟨Nat.le_of_ble_eq_true rfl, Nat.le_of_ble_eq_true rfl⟩ rfl (Nat.le_of_ble_eq_true rfl) d_So_judgeHead_40 ⟨Nat.le_of_ble_eq_true rfl, Nat.le_of_ble_eq_true rfl⟩) X Y hA (fun z108 H locs Y p108 => ?_)
      obtain ⟨l108, u108⟩ := p108
      refine t_ul (t_runV (As := [.int (iI z108)]) (rest := []) (n := 1) X Y S k1 hml hl.1 (c_By_numberAt l D E T κ L f H.size a1 n1 k1 (by omega) z108 (by omega) (by omega) S.1) (ok_k X Y hA KS KR) rfl kl_So_By_numberAt ks_By_numberAt kx_By_numberAt ki_By_numberAt ini_By ⟨rfl, rfl⟩ hd_By_numberAt ⟨Nat.le_of_ble_eq_true rfl, Nat.le_of_ble_eq_true rfl⟩ rfl (Nat.le_of_ble_eq_true rfl) d_So_judgeHead_43 ⟨Nat.le_of_ble_eq_true rfl, Nat.le_of_ble_eq_true rfl⟩) X Y hA (fun v109 H locs Y p109 => ?_)
      refine lv_iload_n X.1 X.2.1 d_So_judgeHead_46 rfl (lv_at hl 2 rfl) ?_
      refine lv_i2l X.1 X.2.1 d_So_judgeHead_47 rfl ?_
      refine t_anyl (fun v110 => ?_)
      refine W.lcmp X.1 X.2.1 d_So_judgeHead_48 ?_
      refine t_u (fun z111 l111 u111 => ?_)
      refine z_if_eq (tgt := 57) X.1 X.2.1 d_So_judgeHead_49 (by decide) ⟨by omega, by omega⟩ (fun h112 => ?_) (fun h112 => ?_)
      · refine lv_iconst (v := iI 0) X.1 X.2.1 d_So_judgeHead_57 (by decide) ?_
        exact c_reti hQQ X Y hr hlk ⟨rfl, rfl, 0, rfl, ⟨by omega, by omega⟩⟩ d_So_judgeHead_58
      · refine lv_bipush (v := iI (-40)) X.1 X.2.1 d_So_judgeHead_52 (by decide) ?_
        refine lv_goto (tgt := 58) X.1 X.2.1 d_So_judgeHead_54 (by decide) ?_
        exact c_reti hQQ X Y hr hlk ⟨rfl, rfl, (-40), rfl, ⟨by omega, by omega⟩⟩ d_So_judgeHead_58
    · refine lv_bipush (v := iI (-3)) X.1 X.2.1 d_So_judgeHead_33 (by decide) ?_
      exact c_reti hQQ X Y hr hlk ⟨rfl, rfl, (-3), rfl, ⟨by omega, by omega⟩⟩ d_So_judgeHead_35
  · refine lv_bipush (v := iI (-60)) X.1 X.2.1 d_So_judgeHead_13 (by decide) ?_
    exact c_reti hQQ X Y hr hlk ⟨rfl, rfl, (-60), rfl, ⟨by omega, by omega⟩⟩ d_So_judgeHead_15
set_option maxHeartbeats 4000000 in
set_option maxRecDepth 100000 in
theorem c_So_isAddress (l : Launch) (D : va_G) (E : cE) (T : cT) (κ : tK) (L : List Nat) (f : pF) (sz : Nat) (a1 n1 : Nat) (k1 : κ a1 = (13, n1)) (x1 : n1 ≤ 12288) (a2 : Int) (l_a2 : (-1) ≤ a2) (u_a2 : a2 ≤ 20200) (a3 : Int) (l_a3 : (-2147483648) ≤ a3) (u_a3 : a3 ≤ 2147483647) (hw : tW E T κ L f) : Met l y_So_isAddress (k_So_isAddress :: lw_tg) (kRm 3 112 0 0) (va_Pc [.ref a1, .int (iI a2), .int (iI a3)] (kPre D E T L f sz)) (va_Qi (uPi L f (fun (z : Int) => 0 ≤ z ∧ z ≤ 1)) (cPost D E (pA L sz)) (pA L sz)) 0 0 (pA L sz) := by
  refine k_enter (own := R_So) (by decide) rfl (Nat.le_of_ble_eq_true rfl) (fun p e s m below meth c ls AV QQ H locs hQQ X Y hA hin hr hlk hml hl KS KR => ?_)
  have hl : lv_has ls 5 [(0, .ref a1), (1, .int (iI a2)), (2, .int (iI a3))] := hl
  have S : tS E T (tFr κ L [] []) κ L f κ L f := tS_rf hw
  refine lv_aload_n X.1 X.2.1 d_So_isAddress_0 rfl (lv_at hl 0 rfl) ?_
  refine lv_iload_n X.1 X.2.1 d_So_isAddress_1 rfl (lv_at hl 1 rfl) ?_
  refine lv_iconst (v := iI 1) X.1 X.2.1 d_So_isAddress_2 (by decide) ?_
  refine t_ui (t_runV (As := [.int (iI a2), .int (iI 1)]) (rest := []) (n := 2) X Y S k1 hml hl.1 (c_By_field l D E T κ L f H.size a1 n1 k1 (by omega) a2 (by omega) (by omega) 1 (by omega) (by omega) S.1) (ok_k X Y hA KS KR) rfl kl_So_By_field ks_By_field kx_By_field ki_By_field ini_By ⟨rfl, rfl⟩ hd_By_field ⟨Nat.le_of_ble_eq_true rfl, Nat.le_of_ble_eq_true rfl⟩ rfl (Nat.le_of_ble_eq_true rfl) d_So_isAddress_3 ⟨Nat.le_of_ble_eq_true rfl, Nat.le_of_ble_eq_true rfl⟩) X Y hA (fun z101 H locs Y p101 => ?_)
  obtain ⟨l101, u101⟩ := p101
  refine lv_istore_n (lv' := [(3, .int (iI z101)), (0, .ref a1), (1, .int (iI a2)), (2, .int (iI a3))]) X.1 X.2.1 d_So_isAddress_6 rfl hl (by decide) rfl (fun ls hl => ?_)
  refine lv_aload_n X.1 X.2.1 d_So_isAddress_7 rfl (lv_at hl 1 rfl) ?_
  refine lv_iload_n X.1 X.2.1 d_So_isAddress_8 rfl (lv_at hl 0 rfl) ?_
  obtain ⟨z102, e102, l102, u102⟩ := t_size S k1
  refine t_ui (t_runV (As := [.int (iI z101)]) (rest := []) (n := 1) X Y S k1 hml hl.1 (c_By_body l D E T κ L f H.size a1 n1 k1 (by omega) z101 (by omega) (by omega) S.1 z102 e102 (by omega) (by omega)) (ok_k X Y hA KS KR) rfl kl_So_By_body ks_By_body kx_By_body ki_By_body ini_By ⟨rfl, rfl⟩ hd_By_body ⟨Nat.le_of_ble_eq_true rfl, Nat.le_of_ble_eq_true rfl⟩ rfl (Nat.le_of_ble_eq_true rfl) d_So_isAddress_9 ⟨Nat.le_of_ble_eq_true rfl, Nat.le_of_ble_eq_true rfl⟩) X Y hA (fun z103 H locs Y p103 => ?_)
  obtain ⟨l103, u103, x103⟩ := p103
  refine lv_istore (lv' := [(4, .int (iI z103)), (3, .int (iI z101)), (0, .ref a1), (1, .int (iI a2)), (2, .int (iI a3))]) X.1 X.2.1 d_So_isAddress_12 hl (by decide) rfl (fun ls hl => ?_)
  refine lv_aload_n X.1 X.2.1 d_So_isAddress_14 rfl (lv_at hl 2 rfl) ?_
  refine lv_aload_n X.1 X.2.1 d_So_isAddress_15 rfl (lv_at hl 2 rfl) ?_
  refine lv_iload_n X.1 X.2.1 d_So_isAddress_16 rfl (lv_at hl 3 rfl) ?_
  refine lv_iconst (v := iI 0) X.1 X.2.1 d_So_isAddress_17 (by decide) ?_
  refine t_ui (t_runV (As := [.int (iI a2), .int (iI 0)]) (rest := [.ref a1]) (n := 2) X Y S k1 hml hl.1 (c_By_field l D E T κ L f H.size a1 n1 k1 (by omega) a2 (by omega) (by omega) 0 (by omega) (by omega) S.1) (ok_k X Y hA KS KR) rfl kl_So_By_field ks_By_field kx_By_field ki_By_field ini_By ⟨rfl, rfl⟩ hd_By_field ⟨Nat.le_of_ble_eq_true rfl, Nat.le_of_ble_eq_true rfl⟩ rfl (Nat.le_of_ble_eq_true rfl) d_So_isAddress_18 ⟨Nat.le_of_ble_eq_true rfl, Nat.le_of_ble_eq_true rfl⟩) X Y hA (fun z104 H locs Y p104 => ?_)
  obtain ⟨l104, u104⟩ := p104
  refine t_ul (t_runV (As := [.int (iI z104)]) (rest := []) (n := 1) X Y S k1 hml hl.1 (c_By_numberAt l D E T κ L f H.size a1 n1 k1 (by omega) z104 (by omega) (by omega) S.1) (ok_k X Y hA KS KR) rfl kl_So_By_numberAt ks_By_numberAt kx_By_numberAt ki_By_numberAt ini_By ⟨rfl, rfl⟩ hd_By_numberAt ⟨Nat.le_of_ble_eq_true rfl, Nat.le_of_ble_eq_true rfl⟩ rfl (Nat.le_of_ble_eq_true rfl) d_So_isAddress_21 ⟨Nat.le_of_ble_eq_true rfl, Nat.le_of_ble_eq_true rfl⟩) X Y hA (fun v105 H locs Y p105 => ?_)
  refine lv_ldc2 (v := (2)) X.1 X.2.1 X.2.2.2.1 (X.2.2.1 _ cl_So_217) d_So_isAddress_24 ?_
  refine W.lcmp X.1 X.2.1 d_So_isAddress_27 ?_
  refine t_u (fun z106 l106 u106 => ?_)
  refine z_if_ne (tgt := 96) X.1 X.2.1 d_So_isAddress_28 (by decide) ⟨by omega, by omega⟩ (fun h107 => ?_) (fun h107 => ?_)
  · refine lv_iconst (v := iI 0) X.1 X.2.1 d_So_isAddress_96 (by decide) ?_
    exact c_retz hQQ X Y hr hlk (iI_bool (by omega) (by omega)).1 ⟨rfl, rfl, 0, rfl, ⟨by omega, by omega⟩⟩ d_So_isAddress_97
  · refine lv_aload_n X.1 X.2.1 d_So_isAddress_31 rfl (lv_at hl 2 rfl) ?_
    refine lv_iload_n X.1 X.2.1 d_So_isAddress_32 rfl (lv_at hl 1 rfl) ?_
    refine lv_aload_n X.1 X.2.1 d_So_isAddress_33 rfl (lv_at hl 2 rfl) ?_
    refine t_get0 (ci := 3) X Y S k1 rfl i_By 1 (by decide) rfl lk_So_141 (fun _ h9 => h9) d_So_isAddress_34 e102 ?_
    refine t_ui (t_runV (As := [.int (iI z101), .int (iI z102)]) (rest := []) (n := 2) X Y S k1 hml hl.1 (c_By_stop l D E T κ L f H.size a1 n1 k1 (by omega) z101 (by omega) (by omega) z102 (by omega) (by omega) S.1 z102 e102 (by omega) (by omega)) (ok_k X Y hA KS KR) rfl kl_So_By_stop ks_By_stop kx_By_stop ki_By_stop ini_By ⟨rfl, rfl⟩ hd_By_stop ⟨Nat.le_of_ble_eq_true rfl, Nat.le_of_ble_eq_true rfl⟩ rfl (Nat.le_of_ble_eq_true rfl) d_So_isAddress_37 ⟨Nat.le_of_ble_eq_true rfl, Nat.le_of_ble_eq_true rfl⟩) X Y hA (fun z108 H locs Y p108 => ?_)
    obtain ⟨l108, u108, x108⟩ := p108
    refine lv_iload X.1 X.2.1 d_So_isAddress_40 (lv_at hl 0 rfl) ?_
    refine z_isub X.1 X.2.1 d_So_isAddress_42 ?_
    refine lv_iconst (v := iI 4) X.1 X.2.1 d_So_isAddress_43 (by decide) ?_
    refine z_icmp_ne (tgt := 96) X.1 X.2.1 d_So_isAddress_44 (by decide) ⟨by omega, by omega⟩ ⟨by omega, by omega⟩ (fun h109 => ?_) (fun h109 => ?_)
    · refine lv_iconst (v := iI 0) X.1 X.2.1 d_So_isAddress_96 (by decide) ?_
      exact c_retz hQQ X Y hr hlk (iI_bool (by omega) (by omega)).1 ⟨rfl, rfl, 0, rfl, ⟨by omega, by omega⟩⟩ d_So_isAddress_97
    · refine lv_aload_n X.1 X.2.1 d_So_isAddress_47 rfl (lv_at hl 2 rfl) ?_
      refine lv_iload X.1 X.2.1 d_So_isAddress_48 (lv_at hl 0 rfl) ?_
      refine t_ui (t_runV (As := [.int (iI z103)]) (rest := []) (n := 1) X Y S k1 hml hl.1 (c_By_at l D E T κ L f H.size a1 n1 k1 (by omega) z103 (by omega) (by omega) S.1) (ok_k X Y hA KS KR) rfl kl_So_By_at ks_By_at kx_By_at ki_By_at ini_By ⟨rfl, rfl⟩ hd_By_at ⟨Nat.le_of_ble_eq_true rfl, Nat.le_of_ble_eq_true rfl⟩ rfl (Nat.le_of_ble_eq_true rfl) d_So_isAddress_50 ⟨Nat.le_of_ble_eq_true rfl, Nat.le_of_ble_eq_true rfl⟩) X Y hA (fun z110 H locs Y p110 => ?_)
      obtain ⟨l110, u110⟩ := p110
      refine lv_bipush (v := iI 10) X.1 X.2.1 d_So_isAddress_53 (by decide) ?_
      refine z_icmp_ne (tgt := 96) X.1 X.2.1 d_So_isAddress_55 (by decide) ⟨by omega, by omega⟩ ⟨by omega, by omega⟩ (fun h111 => ?_) (fun h111 => ?_)
      · refine lv_iconst (v := iI 0) X.1 X.2.1 d_So_isAddress_96 (by decide) ?_
        exact c_retz hQQ X Y hr hlk (iI_bool (by omega) (by omega)).1 ⟨rfl, rfl, 0, rfl, ⟨by omega, by omega⟩⟩ d_So_isAddress_97
      · refine lv_aload_n X.1 X.2.1 d_So_isAddress_58 rfl (lv_at hl 2 rfl) ?_
        refine lv_iload X.1 X.2.1 d_So_isAddress_59 (lv_at hl 0 rfl) ?_
        refine lv_iconst (v := iI 1) X.1 X.2.1 d_So_isAddress_61 (by decide) ?_
        refine z_iadd X.1 X.2.1 d_So_isAddress_62 ?_
        refine t_ui (t_runV (As := [.int (iI (z103 + 1))]) (rest := []) (n := 1) X Y S k1 hml hl.1 (c_By_at l D E T κ L f H.size a1 n1 k1 (by omega) (z103 + 1) (by omega) (by omega) S.1) (ok_k X Y hA KS KR) rfl kl_So_By_at ks_By_at kx_By_at ki_By_at ini_By ⟨rfl, rfl⟩ hd_By_at ⟨Nat.le_of_ble_eq_true rfl, Nat.le_of_ble_eq_true rfl⟩ rfl (Nat.le_of_ble_eq_true rfl) d_So_isAddress_63 ⟨Nat.le_of_ble_eq_true rfl, Nat.le_of_ble_eq_true rfl⟩) X Y hA (fun z112 H locs Y p112 => ?_)
        obtain ⟨l112, u112⟩ := p112
        refine z_if_ne (tgt := 96) X.1 X.2.1 d_So_isAddress_66 (by decide) ⟨by omega, by omega⟩ (fun h113 => ?_) (fun h113 => ?_)
        · refine lv_iconst (v := iI 0) X.1 X.2.1 d_So_isAddress_96 (by decide) ?_
          exact c_retz hQQ X Y hr hlk (iI_bool (by omega) (by omega)).1 ⟨rfl, rfl, 0, rfl, ⟨by omega, by omega⟩⟩ d_So_isAddress_97
        · refine lv_aload_n X.1 X.2.1 d_So_isAddress_69 rfl (lv_at hl 2 rfl) ?_
          refine lv_iload X.1 X.2.1 d_So_isAddress_70 (lv_at hl 0 rfl) ?_
          refine lv_iconst (v := iI 2) X.1 X.2.1 d_So_isAddress_72 (by decide) ?_
          refine z_iadd X.1 X.2.1 d_So_isAddress_73 ?_
          refine t_ui (t_runV (As := [.int (iI (z103 + 2))]) (rest := []) (n := 1) X Y S k1 hml hl.1 (c_By_at l D E T κ L f H.size a1 n1 k1 (by omega) (z103 + 2) (by omega) (by omega) S.1) (ok_k X Y hA KS KR) rfl kl_So_By_at ks_By_at kx_By_at ki_By_at ini_By ⟨rfl, rfl⟩ hd_By_at ⟨Nat.le_of_ble_eq_true rfl, Nat.le_of_ble_eq_true rfl⟩ rfl (Nat.le_of_ble_eq_true rfl) d_So_isAddress_74 ⟨Nat.le_of_ble_eq_true rfl, Nat.le_of_ble_eq_true rfl⟩) X Y hA (fun z114 H locs Y p114 => ?_)
          obtain ⟨l114, u114⟩ := p114
          refine z_if_ne (tgt := 96) X.1 X.2.1 d_So_isAddress_77 (by decide) ⟨by omega, by omega⟩ (fun h115 => ?_) (fun h115 => ?_)
          · refine lv_iconst (v := iI 0) X.1 X.2.1 d_So_isAddress_96 (by decide) ?_
            exact c_retz hQQ X Y hr hlk (iI_bool (by omega) (by omega)).1 ⟨rfl, rfl, 0, rfl, ⟨by omega, by omega⟩⟩ d_So_isAddress_97
          · refine lv_aload_n X.1 X.2.1 d_So_isAddress_80 rfl (lv_at hl 2 rfl) ?_
            refine lv_iload X.1 X.2.1 d_So_isAddress_81 (lv_at hl 0 rfl) ?_
            refine lv_iconst (v := iI 3) X.1 X.2.1 d_So_isAddress_83 (by decide) ?_
            refine z_iadd X.1 X.2.1 d_So_isAddress_84 ?_
            refine t_ui (t_runV (As := [.int (iI (z103 + 3))]) (rest := []) (n := 1) X Y S k1 hml hl.1 (c_By_at l D E T κ L f H.size a1 n1 k1 (by omega) (z103 + 3) (by omega) (by omega) S.1) (ok_k X Y hA KS KR) rfl kl_So_By_at ks_By_at kx_By_at ki_By_at ini_By ⟨rfl, rfl⟩ hd_By_at ⟨Nat.le_of_ble_eq_true rfl, Nat.le_of_ble_eq_true rfl⟩ rfl (Nat.le_of_ble_eq_true rfl) d_So_isAddress_85 ⟨Nat.le_of_ble_eq_true rfl, Nat.le_of_ble_eq_true rfl⟩) X Y hA (fun z116 H locs Y p116 => ?_)
            obtain ⟨l116, u116⟩ := p116
            refine lv_iload_n X.1 X.2.1 d_So_isAddress_88 rfl (lv_at hl 4 rfl) ?_
            refine z_icmp_ne (tgt := 96) X.1 X.2.1 d_So_isAddress_89 (by decide) ⟨by omega, by omega⟩ ⟨by omega, by omega⟩ (fun h117 => ?_) (fun h117 => ?_)
            · refine lv_iconst (v := iI 0) X.1 X.2.1 d_So_isAddress_96 (by decide) ?_
              exact c_retz hQQ X Y hr hlk (iI_bool (by omega) (by omega)).1 ⟨rfl, rfl, 0, rfl, ⟨by omega, by omega⟩⟩ d_So_isAddress_97
            · refine lv_iconst (v := iI 1) X.1 X.2.1 d_So_isAddress_92 (by decide) ?_
              refine lv_goto (tgt := 97) X.1 X.2.1 d_So_isAddress_93 (by decide) ?_
              exact c_retz hQQ X Y hr hlk (iI_bool (by omega) (by omega)).1 ⟨rfl, rfl, 1, rfl, ⟨by omega, by omega⟩⟩ d_So_isAddress_97
set_option maxHeartbeats 4000000 in
set_option maxRecDepth 100000 in
theorem c_So_hearData (l : Launch) (D : va_G) (E : cE) (T : cT) (κ : tK) (L : List Nat) (f : pF) (sz : Nat) (h : Nat) (k0 : κ h = (19, 0)) (a1 : Int) (l_a1 : 0 ≤ a1) (u_a1 : a1 ≤ 1) (a2 : Int) (l_a2 : (-2147483648) ≤ a2) (u_a2 : a2 ≤ 2147483647) (a3 n3 : Nat) (k3 : κ a3 = (13, n3)) (x3 : n3 ≤ 12288) (a4 : Int) (l_a4 : (-1) ≤ a4) (u_a4 : a4 ≤ 20200) (a5 n5 : Nat) (k5 : κ a5 = (13, n5)) (x5 : n5 ≤ 12288) (hw : tW E T κ L f) : Met l y_So_hearData (k_So_hearData :: lw_tg) (kRm 4 136 0 0) (va_Pc [.ref h, .int (iI a1), .int (iI a2), .ref a3, .int (iI a4), .ref a5] (kPre D E T L f sz)) (va_Qi (nPi E T [1, 2, 3, 4, 13] κ L f (fun (z : Int) (g : pF) => (-2147483648) ≤ z ∧ z ≤ 2147483647)) (cPost D E (pA L sz)) (pA L sz)) 0 0 (pA L sz) := by
  refine k_enter (own := R_So) (by decide) rfl (Nat.le_of_ble_eq_true rfl) (fun p e s m below meth c ls AV QQ H locs hQQ X Y hA hin hr hlk hml hl KS KR => ?_)
  have hl : lv_has ls 10 [(0, .ref h), (1, .int (iI a1)), (2, .int (iI a2)), (3, .ref a3), (4, .int (iI a4)), (5, .ref a5)] := hl
  have S : tS E T (tFr κ L [1, 2, 3, 4, 13] []) κ L f κ L f := tS_rf hw
  refine lv_aload_n X.1 X.2.1 d_So_hearData_0 rfl (lv_at hl 3 rfl) ?_
  refine lv_aload_n X.1 X.2.1 d_So_hearData_1 rfl (lv_at hl 3 rfl) ?_
  refine lv_iload X.1 X.2.1 d_So_hearData_2 (lv_at hl 4 rfl) ?_
  refine lv_iconst (v := iI 1) X.1 X.2.1 d_So_hearData_4 (by decide) ?_
  refine t_ui (t_runV (As := [.int (iI a4), .int (iI 1)]) (rest := [.ref a3]) (n := 2) X Y S k3 hml hl.1 (c_By_field l D E T κ L f H.size a3 n3 k3 (by omega) a4 (by omega) (by omega) 1 (by omega) (by omega) S.1) (ok_k X Y hA KS KR) rfl kl_So_By_field ks_By_field kx_By_field ki_By_field ini_By ⟨rfl, rfl⟩ hd_By_field ⟨Nat.le_of_ble_eq_true rfl, Nat.le_of_ble_eq_true rfl⟩ rfl (Nat.le_of_ble_eq_true rfl) d_So_hearData_5 ⟨Nat.le_of_ble_eq_true rfl, Nat.le_of_ble_eq_true rfl⟩) X Y hA (fun z101 H locs Y p101 => ?_)
  obtain ⟨l101, u101⟩ := p101
  refine t_ui (t_runV (As := [.int (iI z101)]) (rest := []) (n := 1) X Y S k3 hml hl.1 (c_By_timeAt l D E T κ L f H.size a3 n3 k3 (by omega) z101 (by omega) (by omega) S.1) (ok_k X Y hA KS KR) rfl kl_So_By_timeAt ks_By_timeAt kx_By_timeAt ki_By_timeAt ini_By ⟨rfl, rfl⟩ hd_By_timeAt ⟨Nat.le_of_ble_eq_true rfl, Nat.le_of_ble_eq_true rfl⟩ rfl (Nat.le_of_ble_eq_true rfl) d_So_hearData_8 ⟨Nat.le_of_ble_eq_true rfl, Nat.le_of_ble_eq_true rfl⟩) X Y hA (fun z102 H locs Y p102 => ?_)
  obtain ⟨l102, u102⟩ := p102
  refine lv_istore (lv' := [(6, .int (iI z102)), (0, .ref h), (1, .int (iI a1)), (2, .int (iI a2)), (3, .ref a3), (4, .int (iI a4)), (5, .ref a5)]) X.1 X.2.1 d_So_hearData_11 hl (by decide) rfl (fun ls hl => ?_)
  refine lv_iload X.1 X.2.1 d_So_hearData_13 (lv_at hl 0 rfl) ?_
  refine z_if_lt (tgt := 31) X.1 X.2.1 d_So_hearData_15 (by decide) ⟨by omega, by omega⟩ (fun h103 => ?_) (fun h103 => ?_)
  · refine lv_bipush (v := iI (-37)) X.1 X.2.1 d_So_hearData_31 (by decide) ?_
    exact c_reti hQQ X Y hr hlk ⟨rfl, S, (-37), rfl, ⟨by omega, by omega⟩⟩ d_So_hearData_33
  · refine lv_iload X.1 X.2.1 d_So_hearData_18 (lv_at hl 0 rfl) ?_
    refine lv_iload_n X.1 X.2.1 d_So_hearData_20 rfl (lv_at hl 3 rfl) ?_
    refine lv_isub X.1 X.2.1 d_So_hearData_21 ?_
    refine t_u (fun z104 l104 u104 => ?_)
    refine va_mabs X.1 X.2.1 (hml.trans hl.1.symm) X.2.2.2.1 (X.2.2.1 _ kl_So_mabs) (X.2.2.1 _ ks_mabs) (X.2.2.1 _ ini_Math) (X.2.2.1 _ ki_mabs) (Nat.le_of_ble_eq_true rfl) (Nat.le_of_ble_eq_true rfl) (Nat.le_of_ble_eq_true rfl) (Nat.le_of_ble_eq_true rfl) d_So_hearData_22 ?_
    refine t_u (fun z105 l105 u105 => ?_)
    refine lv_sipush (v := iI 300) X.1 X.2.1 d_So_hearData_25 (by decide) ?_
    refine z_icmp_le (tgt := 34) X.1 X.2.1 d_So_hearData_28 (by decide) ⟨by omega, by omega⟩ ⟨by omega, by omega⟩ (fun h106 => ?_) (fun h106 => ?_)
    · refine lv_aload_n X.1 X.2.1 d_So_hearData_34 rfl (lv_at hl 4 rfl) ?_
      refine lv_aload_n X.1 X.2.1 d_So_hearData_35 rfl (lv_at hl 4 rfl) ?_
      refine lv_iload X.1 X.2.1 d_So_hearData_36 (lv_at hl 5 rfl) ?_
      refine lv_iconst (v := iI 4) X.1 X.2.1 d_So_hearData_38 (by decide) ?_
      refine t_ui (t_runV (As := [.int (iI a4), .int (iI 4)]) (rest := [.ref a3]) (n := 2) X Y S k3 hml hl.1 (c_By_field l D E T κ L f H.size a3 n3 k3 (by omega) a4 (by omega) (by omega) 4 (by omega) (by omega) S.1) (ok_k X Y hA KS KR) rfl kl_So_By_field ks_By_field kx_By_field ki_By_field ini_By ⟨rfl, rfl⟩ hd_By_field ⟨Nat.le_of_ble_eq_true rfl, Nat.le_of_ble_eq_true rfl⟩ rfl (Nat.le_of_ble_eq_true rfl) d_So_hearData_39 ⟨Nat.le_of_ble_eq_true rfl, Nat.le_of_ble_eq_true rfl⟩) X Y hA (fun z107 H locs Y p107 => ?_)
      obtain ⟨l107, u107⟩ := p107
      refine lv_iconst (v := iI 1) X.1 X.2.1 d_So_hearData_42 (by decide) ?_
      refine lv_iload_n X.1 X.2.1 d_So_hearData_43 rfl (lv_at hl 2 rfl) ?_
      refine z_isub X.1 X.2.1 d_So_hearData_44 ?_
      refine t_ui (x_runS (As := [.ref a3, .int (iI z107), .int (iI (1 - a1))]) (rest := []) (n := 3) X hml hl.1 (c_So_isAddress l D E T κ L f H.size a3 n3 k3 (by omega) z107 (by omega) (by omega) (1 - a1) (by omega) (by omega) S.1) (ok_k X Y hA KS KR) kl_So_So_isAddress ks_So_isAddress ki_So_isAddress ini_So ⟨rfl, rfl⟩ hd_So_isAddress.2 ⟨Nat.le_of_ble_eq_true rfl, Nat.le_of_ble_eq_true rfl⟩ rfl (Nat.le_of_ble_eq_true rfl) d_So_hearData_45 ⟨Nat.le_of_ble_eq_true rfl, Nat.le_of_ble_eq_true rfl⟩) X Y hA (fun z108 H locs Y p108 => ?_)
      obtain ⟨l108, u108⟩ := p108
      refine z_if_ne (tgt := 54) X.1 X.2.1 d_So_hearData_48 (by decide) ⟨by omega, by omega⟩ (fun h109 => ?_) (fun h109 => ?_)
      · refine lv_aload_n X.1 X.2.1 d_So_hearData_54 rfl (lv_at hl 4 rfl) ?_
        refine lv_iload X.1 X.2.1 d_So_hearData_55 (lv_at hl 5 rfl) ?_
        refine lv_iconst (v := iI 3) X.1 X.2.1 d_So_hearData_57 (by decide) ?_
        refine t_ui (t_runV (As := [.int (iI a4), .int (iI 3)]) (rest := []) (n := 2) X Y S k3 hml hl.1 (c_By_field l D E T κ L f H.size a3 n3 k3 (by omega) a4 (by omega) (by omega) 3 (by omega) (by omega) S.1) (ok_k X Y hA KS KR) rfl kl_So_By_field ks_By_field kx_By_field ki_By_field ini_By ⟨rfl, rfl⟩ hd_By_field ⟨Nat.le_of_ble_eq_true rfl, Nat.le_of_ble_eq_true rfl⟩ rfl (Nat.le_of_ble_eq_true rfl) d_So_hearData_58 ⟨Nat.le_of_ble_eq_true rfl, Nat.le_of_ble_eq_true rfl⟩) X Y hA (fun z110 H locs Y p110 => ?_)
        obtain ⟨l110, u110⟩ := p110
        refine lv_istore (lv' := [(7, .int (iI z110)), (6, .int (iI z102)), (0, .ref h), (1, .int (iI a1)), (2, .int (iI a2)), (3, .ref a3), (4, .int (iI a4)), (5, .ref a5)]) X.1 X.2.1 d_So_hearData_61 hl (by decide) rfl (fun ls hl => ?_)
        refine lv_iload X.1 X.2.1 d_So_hearData_63 (lv_at hl 0 rfl) ?_
        refine z_if_lt (tgt := 89) X.1 X.2.1 d_So_hearData_65 (by decide) ⟨by omega, by omega⟩ (fun h111 => ?_) (fun h111 => ?_)
        · refine lv_bipush (v := iI (-42)) X.1 X.2.1 d_So_hearData_89 (by decide) ?_
          exact c_reti hQQ X Y hr hlk ⟨rfl, S, (-42), rfl, ⟨by omega, by omega⟩⟩ d_So_hearData_91
        · refine lv_aload_n X.1 X.2.1 d_So_hearData_68 rfl (lv_at hl 5 rfl) ?_
          refine lv_iload X.1 X.2.1 d_So_hearData_69 (lv_at hl 0 rfl) ?_
          refine t_ul (t_runV (As := [.int (iI z110)]) (rest := []) (n := 1) X Y S k3 hml hl.1 (c_By_numberAt l D E T κ L f H.size a3 n3 k3 (by omega) z110 (by omega) (by omega) S.1) (ok_k X Y hA KS KR) rfl kl_So_By_numberAt ks_By_numberAt kx_By_numberAt ki_By_numberAt ini_By ⟨rfl, rfl⟩ hd_By_numberAt ⟨Nat.le_of_ble_eq_true rfl, Nat.le_of_ble_eq_true rfl⟩ rfl (Nat.le_of_ble_eq_true rfl) d_So_hearData_71 ⟨Nat.le_of_ble_eq_true rfl, Nat.le_of_ble_eq_true rfl⟩) X Y hA (fun v112 H locs Y p112 => ?_)
          refine lv_aload_n X.1 X.2.1 d_So_hearData_74 rfl (lv_at hl 2 rfl) ?_
          refine t_getr (ci := 9) X Y S k0 rfl i_So 9 (by decide) rfl (k1 := 2) (k2 := 2) rfl rfl lk_So_29 (fun _ h9 => h9) d_So_hearData_75 (fun b113 e113 k113 => ?_)
          refine lv_iload_n X.1 X.2.1 d_So_hearData_78 rfl (lv_at hl 3 rfl) ?_
          refine t_iald2 X Y S k113 (by omega) (by omega) (by omega) d_So_hearData_79 (fun z114 l114 u114 => ?_)
          refine lv_i2l X.1 X.2.1 d_So_hearData_80 rfl ?_
          refine t_anyl (fun v115 => ?_)
          refine lv_ldc2 (v := (4294967295)) X.1 X.2.1 X.2.2.2.1 (X.2.2.1 _ cl_So_148) d_So_hearData_81 ?_
          refine lv_land X.1 X.2.1 d_So_hearData_84 ?_
          refine t_anyl (fun v116 => ?_)
          refine W.lcmp X.1 X.2.1 d_So_hearData_85 ?_
          refine t_u (fun z117 l117 u117 => ?_)
          refine z_if_eq (tgt := 92) X.1 X.2.1 d_So_hearData_86 (by decide) ⟨by omega, by omega⟩ (fun h118 => ?_) (fun h118 => ?_)
          · refine lv_aload_n X.1 X.2.1 d_So_hearData_92 rfl (lv_at hl 2 rfl) ?_
            refine t_get0 (ci := 9) X Y S k0 rfl i_So 9 (by decide) rfl lk_So_29 (fun _ h9 => h9) d_So_hearData_93 e113 ?_
            refine lv_iload_n X.1 X.2.1 d_So_hearData_96 rfl (lv_at hl 3 rfl) ?_
            refine lv_dup2_11 X.1 X.2.1 d_So_hearData_97 rfl rfl ?_
            refine t_iald2 X Y S k113 (by omega) (by omega) (by omega) d_So_hearData_98 (fun z119 l119 u119 => ?_)
            refine lv_iconst (v := iI 1) X.1 X.2.1 d_So_hearData_99 (by decide) ?_
            refine lv_iadd X.1 X.2.1 d_So_hearData_100 ?_
            refine t_u (fun z120 l120 u120 => ?_)
            refine t_iast2 X Y S k113 (by omega) (by omega) (by omega) (nF_of S k113 (by decide)) d_So_hearData_101 (fun f121 H locs Y S w121 => ?_)
            refine lv_aload_n X.1 X.2.1 d_So_hearData_102 rfl (lv_at hl 5 rfl) ?_
            refine lv_iload X.1 X.2.1 d_So_hearData_103 (lv_at hl 6 rfl) ?_
            refine lv_iconst (v := iI 0) X.1 X.2.1 d_So_hearData_105 (by decide) ?_
            refine t_ui (t_runV (As := [.int (iI a4), .int (iI 0)]) (rest := []) (n := 2) X Y S k3 hml hl.1 (c_By_field l D E T κ L f121 H.size a3 n3 k3 (by omega) a4 (by omega) (by omega) 0 (by omega) (by omega) S.1) (ok_k X Y hA KS KR) rfl kl_So_By_field ks_By_field kx_By_field ki_By_field ini_By ⟨rfl, rfl⟩ hd_By_field ⟨Nat.le_of_ble_eq_true rfl, Nat.le_of_ble_eq_true rfl⟩ rfl (Nat.le_of_ble_eq_true rfl) d_So_hearData_106 ⟨Nat.le_of_ble_eq_true rfl, Nat.le_of_ble_eq_true rfl⟩) X Y hA (fun z122 H locs Y p122 => ?_)
            obtain ⟨l122, u122⟩ := p122
            refine lv_istore (lv' := [(8, .int (iI z122)), (7, .int (iI z110)), (6, .int (iI z102)), (0, .ref h), (1, .int (iI a1)), (2, .int (iI a2)), (3, .ref a3), (4, .int (iI a4)), (5, .ref a5)]) X.1 X.2.1 d_So_hearData_109 hl (by decide) rfl (fun ls hl => ?_)
            refine lv_aload_n X.1 X.2.1 d_So_hearData_111 rfl (lv_at hl 6 rfl) ?_
            refine lv_iload X.1 X.2.1 d_So_hearData_112 (lv_at hl 0 rfl) ?_
            obtain ⟨z123, e123, l123, u123⟩ := t_size S k3
            refine t_ui (t_runV (As := [.int (iI z122)]) (rest := []) (n := 1) X Y S k3 hml hl.1 (c_By_body l D E T κ L f121 H.size a3 n3 k3 (by omega) z122 (by omega) (by omega) S.1 z123 e123 (by omega) (by omega)) (ok_k X Y hA KS KR) rfl kl_So_By_body ks_By_body kx_By_body ki_By_body ini_By ⟨rfl, rfl⟩ hd_By_body ⟨Nat.le_of_ble_eq_true rfl, Nat.le_of_ble_eq_true rfl⟩ rfl (Nat.le_of_ble_eq_true rfl) d_So_hearData_114 ⟨Nat.le_of_ble_eq_true rfl, Nat.le_of_ble_eq_true rfl⟩) X Y hA (fun z124 H locs Y p124 => ?_)
            obtain ⟨l124, u124, x124⟩ := p124
            refine lv_istore (lv' := [(9, .int (iI z124)), (8, .int (iI z122)), (7, .int (iI z110)), (6, .int (iI z102)), (0, .ref h), (1, .int (iI a1)), (2, .int (iI a2)), (3, .ref a3), (4, .int (iI a4)), (5, .ref a5)]) X.1 X.2.1 d_So_hearData_117 hl (by decide) rfl (fun ls hl => ?_)
            refine lv_aload X.1 X.2.1 d_So_hearData_119 (lv_at hl 9 rfl) ?_
            refine t_nv (t_runV (As := []) (rest := []) (n := 0) X Y S k5 hml hl.1 (c_By_clear l D E T κ L f121 H.size a5 n5 k5 (by omega) S.1) (ok_k X Y hA KS KR) rfl kl_So_By_clear ks_By_clear kx_By_clear ki_By_clear ini_By ⟨rfl, rfl⟩ hd_By_clear ⟨Nat.le_of_ble_eq_true rfl, Nat.le_of_ble_eq_true rfl⟩ rfl (Nat.le_of_ble_eq_true rfl) d_So_hearData_121 ⟨Nat.le_of_ble_eq_true rfl, Nat.le_of_ble_eq_true rfl⟩) X Y hA S (by decide) (fun f125 H locs Y S s125 p125 => ?_)
            refine lv_aload X.1 X.2.1 d_So_hearData_124 (lv_at hl 9 rfl) ?_
            refine lv_aload_n X.1 X.2.1 d_So_hearData_126 rfl (lv_at hl 7 rfl) ?_
            refine t_getrow (ci := 3) X Y S k3 rfl i_By 0 (by decide) rfl lk_So_138 (fun _ h9 => h9) d_So_hearData_127 (fun b126 e126 k126 => ?_)
            refine lv_iload X.1 X.2.1 d_So_hearData_130 (lv_at hl 0 rfl) ?_
            refine lv_aload_n X.1 X.2.1 d_So_hearData_132 rfl (lv_at hl 7 rfl) ?_
            refine lv_iload X.1 X.2.1 d_So_hearData_133 (lv_at hl 1 rfl) ?_
            refine lv_aload_n X.1 X.2.1 d_So_hearData_135 rfl (lv_at hl 7 rfl) ?_
            refine t_gets (ci := 3) X Y S k3 rfl i_By 1 (by decide) rfl lk_So_141 (fun _ h9 => h9) d_So_hearData_136 (fun z127 e127 l127 u127 => ?_)
            refine t_ui (t_runV (As := [.int (iI z122), .int (iI z127)]) (rest := [.int (iI z124), .ref b126, .ref a5]) (n := 2) X Y S k3 hml hl.1 (c_By_stop l D E T κ L f125 H.size a3 n3 k3 (by omega) z122 (by omega) (by omega) z127 (by omega) (by omega) S.1 z127 e127 (by omega) (by omega)) (ok_k X Y hA KS KR) rfl kl_So_By_stop ks_By_stop kx_By_stop ki_By_stop ini_By ⟨rfl, rfl⟩ hd_By_stop ⟨Nat.le_of_ble_eq_true rfl, Nat.le_of_ble_eq_true rfl⟩ rfl (Nat.le_of_ble_eq_true rfl) d_So_hearData_139 ⟨Nat.le_of_ble_eq_true rfl, Nat.le_of_ble_eq_true rfl⟩) X Y hA (fun z128 H locs Y p128 => ?_)
            obtain ⟨l128, u128, x128⟩ := p128
            refine lv_iload X.1 X.2.1 d_So_hearData_142 (lv_at hl 0 rfl) ?_
            refine z_isub X.1 X.2.1 d_So_hearData_144 ?_
            refine t_nv (t_runV (As := [.ref b126, .int (iI z124), .int (iI (z128 - z124))]) (rest := []) (n := 3) X Y S k5 hml hl.1 (c_By_append l D E T κ L f125 H.size a5 n5 k5 (by omega) b126 n3 (Or.inl k126) (by omega) z124 (by omega) (by omega) (z128 - z124) (by omega) (by omega) S.1) (ok_k X Y hA KS KR) rfl kl_So_By_append ks_By_append kx_By_append ki_By_append ini_By ⟨rfl, rfl⟩ hd_By_append ⟨Nat.le_of_ble_eq_true rfl, Nat.le_of_ble_eq_true rfl⟩ rfl (Nat.le_of_ble_eq_true rfl) d_So_hearData_145 ⟨Nat.le_of_ble_eq_true rfl, Nat.le_of_ble_eq_true rfl⟩) X Y hA S (by decide) (fun f129 H locs Y S s129 p129 => ?_)
            refine lv_aload X.1 X.2.1 d_So_hearData_148 (lv_at hl 9 rfl) ?_
            refine t_gets (ci := 3) X Y S k5 rfl i_By 1 (by decide) rfl lk_So_141 (fun _ h9 => h9) d_So_hearData_150 (fun z130 e130 l130 u130 => ?_)
            exact c_reti hQQ X Y hr hlk ⟨rfl, S, z130, rfl, ⟨by omega, by omega⟩⟩ d_So_hearData_153
          · refine lv_bipush (v := iI (-42)) X.1 X.2.1 d_So_hearData_89 (by decide) ?_
            exact c_reti hQQ X Y hr hlk ⟨rfl, S, (-42), rfl, ⟨by omega, by omega⟩⟩ d_So_hearData_91
      · refine lv_bipush (v := iI (-38)) X.1 X.2.1 d_So_hearData_51 (by decide) ?_
        exact c_reti hQQ X Y hr hlk ⟨rfl, S, (-38), rfl, ⟨by omega, by omega⟩⟩ d_So_hearData_53
    · refine lv_bipush (v := iI (-37)) X.1 X.2.1 d_So_hearData_31 (by decide) ?_
      exact c_reti hQQ X Y hr hlk ⟨rfl, S, (-37), rfl, ⟨by omega, by omega⟩⟩ d_So_hearData_33
set_option maxHeartbeats 4000000 in
set_option maxRecDepth 100000 in
theorem c_So_hearPrivate (l : Launch) (D : va_G) (E : cE) (T : cT) (κ : tK) (L : List Nat) (f : pF) (sz : Nat) (h : Nat) (k0 : κ h = (19, 0)) (a1 : Int) (l_a1 : 0 ≤ a1) (u_a1 : a1 ≤ 1) (a2 : Int) (l_a2 : (-2147483648) ≤ a2) (u_a2 : a2 ≤ 2147483647) (a3 n3 : Nat) (k3 : κ a3 = (13, n3)) (x3 : n3 ≤ 12288) (a4 n4 : Nat) (k4 : κ a4 = (13, n4)) (x4 : n4 ≤ 12288) (hw : tW E T κ L f) : Met l y_So_hearPrivate (k_So_hearPrivate :: lw_tg) (kRm 72 2385 0 0) (va_Pc [.ref h, .int (iI a1), .int (iI a2), .ref a3, .ref a4] (kPre D E T L f sz)) (va_Qi (nPi E T [1, 2, 3, 4, 11, 13, 16] κ L f (fun (z : Int) (g : pF) => (-2147483648) ≤ z ∧ z ≤ 2147483647)) (cPost D E (pA L sz)) (pA L sz)) 0 0 (pA L sz) := by
  refine k_enter (own := R_So) (by decide) rfl (Nat.le_of_ble_eq_true rfl) (fun p e s m below meth c ls AV QQ H locs hQQ X Y hA hin hr hlk hml hl KS KR => ?_)
  have hl : lv_has ls 7 [(0, .ref h), (1, .int (iI a1)), (2, .int (iI a2)), (3, .ref a3), (4, .ref a4)] := hl
  have S : tS E T (tFr κ L [1, 2, 3, 4, 11, 13, 16] []) κ L f κ L f := tS_rf hw
  refine lv_aload_n X.1 X.2.1 d_So_hearPrivate_0 rfl (lv_at hl 3 rfl) ?_
  refine lv_sipush (v := iI 373) X.1 X.2.1 d_So_hearPrivate_1 (by decide) ?_
  refine lv_bipush (v := iI 21) X.1 X.2.1 d_So_hearPrivate_4 (by decide) ?_
  refine t_ui (x_runS (As := [.ref a3, .int (iI 373), .int (iI 21)]) (rest := []) (n := 3) X hml hl.1 (c_So_judgeHead l D E T κ L f H.size a3 n3 k3 (by omega) 373 (by omega) (by omega) 21 (by omega) (by omega) S.1) (ok_k X Y hA KS KR) kl_So_So_judgeHead ks_So_judgeHead ki_So_judgeHead ini_So ⟨rfl, rfl⟩ hd_So_judgeHead.2 ⟨Nat.le_of_ble_eq_true rfl, Nat.le_of_ble_eq_true rfl⟩ rfl (Nat.le_of_ble_eq_true rfl) d_So_hearPrivate_6 ⟨Nat.le_of_ble_eq_true rfl, Nat.le_of_ble_eq_true rfl⟩) X Y hA (fun z101 H locs Y p101 => ?_)
  obtain ⟨l101, u101⟩ := p101
  refine lv_istore (lv' := [(5, .int (iI z101)), (0, .ref h), (1, .int (iI a1)), (2, .int (iI a2)), (3, .ref a3), (4, .ref a4)]) X.1 X.2.1 d_So_hearPrivate_9 hl (by decide) rfl (fun ls hl => ?_)
  refine lv_iload X.1 X.2.1 d_So_hearPrivate_11 (lv_at hl 0 rfl) ?_
  refine z_if_ge (tgt := 19) X.1 X.2.1 d_So_hearPrivate_13 (by decide) ⟨by omega, by omega⟩ (fun h102 => ?_) (fun h102 => ?_)
  · refine lv_aload_n X.1 X.2.1 d_So_hearPrivate_19 rfl (lv_at hl 1 rfl) ?_
    refine t_getr (ci := 9) X Y S k0 rfl i_So 0 (by decide) rfl (k1 := 21) (k2 := 0) rfl rfl lk_So_35 (fun _ h9 => h9) d_So_hearPrivate_20 (fun b103 e103 k103 => ?_)
    refine t_getr (ci := 11) X Y S k103 rfl i_Va 1 (by decide) rfl (k1 := 13) (k2 := 6144) rfl rfl lk_So_91 (fun _ h9 => h9) d_So_hearPrivate_23 (fun b104 e104 k104 => ?_)
    refine lv_astore (lv' := [(6, .ref b104), (5, .int (iI z101)), (0, .ref h), (1, .int (iI a1)), (2, .int (iI a2)), (3, .ref a3), (4, .ref a4)]) X.1 X.2.1 d_So_hearPrivate_26 hl (by decide) rfl (fun ls hl => ?_)
    refine lv_aload_n X.1 X.2.1 d_So_hearPrivate_28 rfl (lv_at hl 2 rfl) ?_
    refine t_get0 (ci := 9) X Y S k0 rfl i_So 0 (by decide) rfl lk_So_35 (fun _ h9 => h9) d_So_hearPrivate_29 e103 ?_
    refine lv_aload_n X.1 X.2.1 d_So_hearPrivate_32 rfl (lv_at hl 5 rfl) ?_
    refine lv_aload_n X.1 X.2.1 d_So_hearPrivate_33 rfl (lv_at hl 5 rfl) ?_
    refine lv_iconst (v := iI 0) X.1 X.2.1 d_So_hearPrivate_34 (by decide) ?_
    refine lv_iconst (v := iI 3) X.1 X.2.1 d_So_hearPrivate_35 (by decide) ?_
    refine t_ui (t_runV (As := [.int (iI 0), .int (iI 3)]) (rest := [.ref a3, .ref b103]) (n := 2) X Y S k3 hml hl.1 (c_By_field l D E T κ L f H.size a3 n3 k3 (by omega) 0 (by omega) (by omega) 3 (by omega) (by omega) S.1) (ok_k X Y hA KS KR) rfl kl_So_By_field ks_By_field kx_By_field ki_By_field ini_By ⟨rfl, rfl⟩ hd_By_field ⟨Nat.le_of_ble_eq_true rfl, Nat.le_of_ble_eq_true rfl⟩ rfl (Nat.le_of_ble_eq_true rfl) d_So_hearPrivate_36 ⟨Nat.le_of_ble_eq_true rfl, Nat.le_of_ble_eq_true rfl⟩) X Y hA (fun z105 H locs Y p105 => ?_)
    obtain ⟨l105, u105⟩ := p105
    refine lv_aload_n X.1 X.2.1 d_So_hearPrivate_39 rfl (lv_at hl 2 rfl) ?_
    refine t_getk (ci := 9) X Y S k0 rfl i_So 3 (by decide) rfl lk_So_19 (fun _ h9 => h9) d_So_hearPrivate_40 (fun b106 n106 e106 k106 x106 => ?_)
    refine lv_bipush (v := iI 13) X.1 X.2.1 d_So_hearPrivate_43 (by decide) ?_
    refine lv_aload X.1 X.2.1 d_So_hearPrivate_45 (lv_at hl 0 rfl) ?_
    refine t_ni (t_runV (As := [.ref a3, .int (iI z105), .ref b106, .int (iI 13), .ref b104]) (rest := []) (n := 5) X Y S k103 hml hl.1 (c_Va_opens l D E T κ L f H.size b103 k103 a3 n3 k3 (by omega) z105 (by omega) (by omega) b106 n106 k106 (by omega) 13 (by omega) (by omega) b104 6144 k104 (by omega) S.1) (ok_k X Y hA KS KR) rfl kl_So_Va_opens ks_Va_opens kx_Va_opens ki_Va_opens ini_Va ⟨rfl, rfl⟩ hd_Va_opens ⟨Nat.le_of_ble_eq_true rfl, Nat.le_of_ble_eq_true rfl⟩ rfl (Nat.le_of_ble_eq_true rfl) d_So_hearPrivate_47 ⟨Nat.le_of_ble_eq_true rfl, Nat.le_of_ble_eq_true rfl⟩) X Y hA S (by decide) (fun z107 f107 H locs Y S s107 p107 => ?_)
    obtain ⟨l107, u107⟩ := p107
    refine z_if_ne (tgt := 56) X.1 X.2.1 d_So_hearPrivate_50 (by decide) ⟨by omega, by omega⟩ (fun h108 => ?_) (fun h108 => ?_)
    · refine lv_aload X.1 X.2.1 d_So_hearPrivate_56 (lv_at hl 0 rfl) ?_
      refine lv_sipush (v := iI 380) X.1 X.2.1 d_So_hearPrivate_58 (by decide) ?_
      refine lv_iconst (v := iI 0) X.1 X.2.1 d_So_hearPrivate_61 (by decide) ?_
      refine lv_aload X.1 X.2.1 d_So_hearPrivate_62 (lv_at hl 0 rfl) ?_
      refine t_gets (ci := 3) X Y S k104 rfl i_By 1 (by decide) rfl lk_So_141 (fun _ h9 => h9) d_So_hearPrivate_64 (fun z109 e109 l109 u109 => ?_)
      refine t_ui (t_runV (As := [.int (iI 380), .int (iI 0), .int (iI z109)]) (rest := []) (n := 3) X Y S k104 hml hl.1 (c_By_isA l D E T κ L f107 H.size b104 6144 k104 (by omega) 380 (by omega) (by omega) 0 (by omega) (by omega) z109 (by omega) (by omega) S.1) (ok_k X Y hA KS KR) rfl kl_So_By_isA ks_By_isA kx_By_isA ki_By_isA ini_By ⟨rfl, rfl⟩ hd_By_isA ⟨Nat.le_of_ble_eq_true rfl, Nat.le_of_ble_eq_true rfl⟩ rfl (Nat.le_of_ble_eq_true rfl) d_So_hearPrivate_67 ⟨Nat.le_of_ble_eq_true rfl, Nat.le_of_ble_eq_true rfl⟩) X Y hA (fun z110 H locs Y p110 => ?_)
      obtain ⟨l110, u110⟩ := p110
      refine z_if_ne (tgt := 76) X.1 X.2.1 d_So_hearPrivate_70 (by decide) ⟨by omega, by omega⟩ (fun h111 => ?_) (fun h111 => ?_)
      · refine lv_aload_n X.1 X.2.1 d_So_hearPrivate_76 rfl (lv_at hl 2 rfl) ?_
        refine lv_iload_n X.1 X.2.1 d_So_hearPrivate_77 rfl (lv_at hl 3 rfl) ?_
        refine lv_iload_n X.1 X.2.1 d_So_hearPrivate_78 rfl (lv_at hl 4 rfl) ?_
        refine lv_aload X.1 X.2.1 d_So_hearPrivate_79 (lv_at hl 0 rfl) ?_
        refine lv_aload X.1 X.2.1 d_So_hearPrivate_81 (lv_at hl 0 rfl) ?_
        refine lv_iconst (v := iI 0) X.1 X.2.1 d_So_hearPrivate_83 (by decide) ?_
        refine t_ui (t_runV (As := [.int (iI 0)]) (rest := [.ref b104, .int (iI a2), .int (iI a1), .ref h]) (n := 1) X Y S k104 hml hl.1 (c_By_body l D E T κ L f107 H.size b104 6144 k104 (by omega) 0 (by omega) (by omega) S.1 z109 e109 (by omega) (by omega)) (ok_k X Y hA KS KR) rfl kl_So_By_body ks_By_body kx_By_body ki_By_body ini_By ⟨rfl, rfl⟩ hd_By_body ⟨Nat.le_of_ble_eq_true rfl, Nat.le_of_ble_eq_true rfl⟩ rfl (Nat.le_of_ble_eq_true rfl) d_So_hearPrivate_84 ⟨Nat.le_of_ble_eq_true rfl, Nat.le_of_ble_eq_true rfl⟩) X Y hA (fun z112 H locs Y p112 => ?_)
        obtain ⟨l112, u112, x112⟩ := p112
        refine lv_aload X.1 X.2.1 d_So_hearPrivate_87 (lv_at hl 6 rfl) ?_
        refine t_ni (t_runV (As := [.int (iI a1), .int (iI a2), .ref b104, .int (iI z112), .ref a4]) (rest := []) (n := 5) X Y S k0 hml hl.1 (c_So_hearData l D E T κ L f107 H.size h k0 a1 (by omega) (by omega) a2 (by omega) (by omega) b104 6144 k104 (by omega) z112 (by omega) (by omega) a4 n4 k4 (by omega) S.1) (ok_k X Y hA KS KR) rfl kl_So_So_hearData ks_So_hearData kx_So_hearData ki_So_hearData ini_So ⟨rfl, rfl⟩ hd_So_hearData ⟨Nat.le_of_ble_eq_true rfl, Nat.le_of_ble_eq_true rfl⟩ rfl (Nat.le_of_ble_eq_true rfl) d_So_hearPrivate_89 ⟨Nat.le_of_ble_eq_true rfl, Nat.le_of_ble_eq_true rfl⟩) X Y hA S (by decide) (fun z113 f113 H locs Y S s113 p113 => ?_)
        obtain ⟨l113, u113⟩ := p113
        exact c_reti hQQ X Y hr hlk ⟨rfl, S, z113, rfl, ⟨by omega, by omega⟩⟩ d_So_hearPrivate_92
      · refine lv_bipush (v := iI (-60)) X.1 X.2.1 d_So_hearPrivate_73 (by decide) ?_
        exact c_reti hQQ X Y hr hlk ⟨rfl, S, (-60), rfl, ⟨by omega, by omega⟩⟩ d_So_hearPrivate_75
    · refine lv_bipush (v := iI (-31)) X.1 X.2.1 d_So_hearPrivate_53 (by decide) ?_
      exact c_reti hQQ X Y hr hlk ⟨rfl, S, (-31), rfl, ⟨by omega, by omega⟩⟩ d_So_hearPrivate_55
  · refine lv_iload X.1 X.2.1 d_So_hearPrivate_16 (lv_at hl 0 rfl) ?_
    exact c_reti hQQ X Y hr hlk ⟨rfl, S, z101, rfl, ⟨by omega, by omega⟩⟩ d_So_hearPrivate_18
set_option maxHeartbeats 4000000 in
set_option maxRecDepth 100000 in
theorem c_So_hearSafe (l : Launch) (D : va_G) (E : cE) (T : cT) (κ : tK) (L : List Nat) (f : pF) (sz : Nat) (h : Nat) (k0 : κ h = (19, 0)) (a1 : Int) (l_a1 : 0 ≤ a1) (u_a1 : a1 ≤ 1) (a2 : Int) (l_a2 : (-2147483648) ≤ a2) (u_a2 : a2 ≤ 2147483647) (a3 n3 : Nat) (k3 : κ a3 = (13, n3)) (x3 : n3 ≤ 12288) (a4 n4 : Nat) (k4 : κ a4 = (13, n4)) (x4 : n4 ≤ 12288) (hw : tW E T κ L f) : Met l y_So_hearSafe (k_So_hearSafe :: lw_tg) (kRm 72 2385 0 0) (va_Pc [.ref h, .int (iI a1), .int (iI a2), .ref a3, .ref a4] (kPre D E T L f sz)) (va_Qi (nPi E T [1, 2, 3, 4, 11, 13, 16] κ L f (fun (z : Int) (g : pF) => (-2147483648) ≤ z ∧ z ≤ 2147483647)) (cPost D E (pA L sz)) (pA L sz)) 0 0 (pA L sz) := by
  refine k_enter (own := R_So) (by decide) rfl (Nat.le_of_ble_eq_true rfl) (fun p e s m below meth c ls AV QQ H locs hQQ X Y hA hin hr hlk hml hl KS KR => ?_)
  have hl : lv_has ls 8 [(0, .ref h), (1, .int (iI a1)), (2, .int (iI a2)), (3, .ref a3), (4, .ref a4)] := hl
  have S : tS E T (tFr κ L [1, 2, 3, 4, 11, 13, 16] []) κ L f κ L f := tS_rf hw
  refine lv_aload_n X.1 X.2.1 d_So_hearSafe_0 rfl (lv_at hl 3 rfl) ?_
  refine lv_sipush (v := iI 372) X.1 X.2.1 d_So_hearSafe_1 (by decide) ?_
  refine lv_bipush (v := iI 20) X.1 X.2.1 d_So_hearSafe_4 (by decide) ?_
  refine t_ui (x_runS (As := [.ref a3, .int (iI 372), .int (iI 20)]) (rest := []) (n := 3) X hml hl.1 (c_So_judgeHead l D E T κ L f H.size a3 n3 k3 (by omega) 372 (by omega) (by omega) 20 (by omega) (by omega) S.1) (ok_k X Y hA KS KR) kl_So_So_judgeHead ks_So_judgeHead ki_So_judgeHead ini_So ⟨rfl, rfl⟩ hd_So_judgeHead.2 ⟨Nat.le_of_ble_eq_true rfl, Nat.le_of_ble_eq_true rfl⟩ rfl (Nat.le_of_ble_eq_true rfl) d_So_hearSafe_6 ⟨Nat.le_of_ble_eq_true rfl, Nat.le_of_ble_eq_true rfl⟩) X Y hA (fun z101 H locs Y p101 => ?_)
  obtain ⟨l101, u101⟩ := p101
  refine lv_istore (lv' := [(5, .int (iI z101)), (0, .ref h), (1, .int (iI a1)), (2, .int (iI a2)), (3, .ref a3), (4, .ref a4)]) X.1 X.2.1 d_So_hearSafe_9 hl (by decide) rfl (fun ls hl => ?_)
  refine lv_iload X.1 X.2.1 d_So_hearSafe_11 (lv_at hl 0 rfl) ?_
  refine z_if_ge (tgt := 19) X.1 X.2.1 d_So_hearSafe_13 (by decide) ⟨by omega, by omega⟩ (fun h102 => ?_) (fun h102 => ?_)
  · refine lv_aload_n X.1 X.2.1 d_So_hearSafe_19 rfl (lv_at hl 4 rfl) ?_
    refine lv_iconst (v := iI 0) X.1 X.2.1 d_So_hearSafe_20 (by decide) ?_
    refine lv_iconst (v := iI 2) X.1 X.2.1 d_So_hearSafe_21 (by decide) ?_
    refine t_ui (t_runV (As := [.int (iI 0), .int (iI 2)]) (rest := []) (n := 2) X Y S k3 hml hl.1 (c_By_field l D E T κ L f H.size a3 n3 k3 (by omega) 0 (by omega) (by omega) 2 (by omega) (by omega) S.1) (ok_k X Y hA KS KR) rfl kl_So_By_field ks_By_field kx_By_field ki_By_field ini_By ⟨rfl, rfl⟩ hd_By_field ⟨Nat.le_of_ble_eq_true rfl, Nat.le_of_ble_eq_true rfl⟩ rfl (Nat.le_of_ble_eq_true rfl) d_So_hearSafe_22 ⟨Nat.le_of_ble_eq_true rfl, Nat.le_of_ble_eq_true rfl⟩) X Y hA (fun z103 H locs Y p103 => ?_)
    obtain ⟨l103, u103⟩ := p103
    refine lv_istore (lv' := [(6, .int (iI z103)), (5, .int (iI z101)), (0, .ref h), (1, .int (iI a1)), (2, .int (iI a2)), (3, .ref a3), (4, .ref a4)]) X.1 X.2.1 d_So_hearSafe_25 hl (by decide) rfl (fun ls hl => ?_)
    refine lv_aload_n X.1 X.2.1 d_So_hearSafe_27 rfl (lv_at hl 5 rfl) ?_
    refine lv_iconst (v := iI 0) X.1 X.2.1 d_So_hearSafe_28 (by decide) ?_
    refine lv_iconst (v := iI 3) X.1 X.2.1 d_So_hearSafe_29 (by decide) ?_
    refine t_ui (t_runV (As := [.int (iI 0), .int (iI 3)]) (rest := []) (n := 2) X Y S k3 hml hl.1 (c_By_field l D E T κ L f H.size a3 n3 k3 (by omega) 0 (by omega) (by omega) 3 (by omega) (by omega) S.1) (ok_k X Y hA KS KR) rfl kl_So_By_field ks_By_field kx_By_field ki_By_field ini_By ⟨rfl, rfl⟩ hd_By_field ⟨Nat.le_of_ble_eq_true rfl, Nat.le_of_ble_eq_true rfl⟩ rfl (Nat.le_of_ble_eq_true rfl) d_So_hearSafe_30 ⟨Nat.le_of_ble_eq_true rfl, Nat.le_of_ble_eq_true rfl⟩) X Y hA (fun z104 H locs Y p104 => ?_)
    obtain ⟨l104, u104⟩ := p104
    refine lv_istore (lv' := [(7, .int (iI z104)), (6, .int (iI z103)), (5, .int (iI z101)), (0, .ref h), (1, .int (iI a1)), (2, .int (iI a2)), (3, .ref a3), (4, .ref a4)]) X.1 X.2.1 d_So_hearSafe_33 hl (by decide) rfl (fun ls hl => ?_)
    refine lv_aload_n X.1 X.2.1 d_So_hearSafe_35 rfl (lv_at hl 3 rfl) ?_
    refine t_getk (ci := 9) X Y S k0 rfl i_So 3 (by decide) rfl lk_So_19 (fun _ h9 => h9) d_So_hearSafe_36 (fun b105 n105 e105 k105 x105 => ?_)
    refine lv_aload_n X.1 X.2.1 d_So_hearSafe_39 rfl (lv_at hl 6 rfl) ?_
    refine lv_iload X.1 X.2.1 d_So_hearSafe_40 (lv_at hl 0 rfl) ?_
    refine t_ui (x_runS (As := [.ref b105, .ref a3, .int (iI z104)]) (rest := []) (n := 3) X hml hl.1 (c_Va_isSumFor l D E T κ L f H.size b105 n105 k105 (by omega) a3 n3 k3 (by omega) z104 (by omega) (by omega) S.1) (ok_k X Y hA KS KR) kl_So_Va_isSumFor ks_Va_isSumFor ki_Va_isSumFor ini_Va ⟨rfl, rfl⟩ hd_Va_isSumFor.2 ⟨Nat.le_of_ble_eq_true rfl, Nat.le_of_ble_eq_true rfl⟩ rfl (Nat.le_of_ble_eq_true rfl) d_So_hearSafe_42 ⟨Nat.le_of_ble_eq_true rfl, Nat.le_of_ble_eq_true rfl⟩) X Y hA (fun z106 H locs Y p106 => ?_)
    obtain ⟨l106, u106⟩ := p106
    refine z_if_ne (tgt := 51) X.1 X.2.1 d_So_hearSafe_45 (by decide) ⟨by omega, by omega⟩ (fun h107 => ?_) (fun h107 => ?_)
    · refine lv_aload_n X.1 X.2.1 d_So_hearSafe_51 rfl (lv_at hl 3 rfl) ?_
      refine t_getr (ci := 9) X Y S k0 rfl i_So 0 (by decide) rfl (k1 := 21) (k2 := 0) rfl rfl lk_So_35 (fun _ h9 => h9) d_So_hearSafe_52 (fun b108 e108 k108 => ?_)
      refine lv_aload_n X.1 X.2.1 d_So_hearSafe_55 rfl (lv_at hl 3 rfl) ?_
      refine t_get0 (ci := 9) X Y S k0 rfl i_So 3 (by decide) rfl lk_So_19 (fun _ h9 => h9) d_So_hearSafe_56 e105 ?_
      refine lv_bipush (v := iI 15) X.1 X.2.1 d_So_hearSafe_59 (by decide) ?_
      refine lv_aload_n X.1 X.2.1 d_So_hearSafe_61 rfl (lv_at hl 6 rfl) ?_
      refine lv_iload X.1 X.2.1 d_So_hearSafe_62 (lv_at hl 1 rfl) ?_
      refine lv_aload_n X.1 X.2.1 d_So_hearSafe_64 rfl (lv_at hl 6 rfl) ?_
      refine lv_iload X.1 X.2.1 d_So_hearSafe_65 (lv_at hl 1 rfl) ?_
      refine lv_aload_n X.1 X.2.1 d_So_hearSafe_67 rfl (lv_at hl 6 rfl) ?_
      refine t_gets (ci := 3) X Y S k3 rfl i_By 1 (by decide) rfl lk_So_141 (fun _ h9 => h9) d_So_hearSafe_68 (fun z109 e109 l109 u109 => ?_)
      refine t_ui (t_runV (As := [.int (iI z103), .int (iI z109)]) (rest := [.int (iI z103), .ref a3, .int (iI 15), .ref b105, .ref b108]) (n := 2) X Y S k3 hml hl.1 (c_By_stop l D E T κ L f H.size a3 n3 k3 (by omega) z103 (by omega) (by omega) z109 (by omega) (by omega) S.1 z109 e109 (by omega) (by omega)) (ok_k X Y hA KS KR) rfl kl_So_By_stop ks_By_stop kx_By_stop ki_By_stop ini_By ⟨rfl, rfl⟩ hd_By_stop ⟨Nat.le_of_ble_eq_true rfl, Nat.le_of_ble_eq_true rfl⟩ rfl (Nat.le_of_ble_eq_true rfl) d_So_hearSafe_71 ⟨Nat.le_of_ble_eq_true rfl, Nat.le_of_ble_eq_true rfl⟩) X Y hA (fun z110 H locs Y p110 => ?_)
      obtain ⟨l110, u110, x110⟩ := p110
      refine t_nv (t_runV (As := [.ref b105, .int (iI 15), .ref a3, .int (iI z103), .int (iI z110)]) (rest := []) (n := 5) X Y S k108 hml hl.1 (c_Va_sum l D E T κ L f H.size b108 k108 b105 n105 k105 (by omega) 15 (by omega) (by omega) a3 n3 k3 (by omega) z103 (by omega) (by omega) z110 (by omega) (by omega) S.1) (ok_k X Y hA KS KR) rfl kl_So_Va_sum ks_Va_sum kx_Va_sum ki_Va_sum ini_Va ⟨rfl, rfl⟩ hd_Va_sum ⟨Nat.le_of_ble_eq_true rfl, Nat.le_of_ble_eq_true rfl⟩ rfl (Nat.le_of_ble_eq_true rfl) d_So_hearSafe_74 ⟨Nat.le_of_ble_eq_true rfl, Nat.le_of_ble_eq_true rfl⟩) X Y hA S (by decide) (fun f111 H locs Y S s111 p111 => ?_)
      refine lv_aload_n X.1 X.2.1 d_So_hearSafe_77 rfl (lv_at hl 3 rfl) ?_
      refine t_get0 (ci := 9) X Y S k0 rfl i_So 0 (by decide) rfl lk_So_35 (fun _ h9 => h9) d_So_hearSafe_78 ((gF_same (s111.2.2.2 _ ⟨(t_obj S.1 k0).1, nM_of k0 (by decide), by simp⟩).1 0).trans e108) ?_
      refine lv_aload_n X.1 X.2.1 d_So_hearSafe_81 rfl (lv_at hl 6 rfl) ?_
      refine lv_iload X.1 X.2.1 d_So_hearSafe_82 (lv_at hl 0 rfl) ?_
      refine t_ui (t_runV (As := [.ref a3, .int (iI z104)]) (rest := []) (n := 2) X Y S k108 hml hl.1 (c_Va_isSum l D E T κ L f111 H.size b108 k108 a3 n3 k3 (by omega) z104 (by omega) (by omega) S.1) (ok_k X Y hA KS KR) rfl kl_So_Va_isSum ks_Va_isSum kx_Va_isSum ki_Va_isSum ini_Va ⟨rfl, rfl⟩ hd_Va_isSum ⟨Nat.le_of_ble_eq_true rfl, Nat.le_of_ble_eq_true rfl⟩ rfl (Nat.le_of_ble_eq_true rfl) d_So_hearSafe_84 ⟨Nat.le_of_ble_eq_true rfl, Nat.le_of_ble_eq_true rfl⟩) X Y hA (fun z112 H locs Y p112 => ?_)
      obtain ⟨l112, u112⟩ := p112
      refine z_if_ne (tgt := 93) X.1 X.2.1 d_So_hearSafe_87 (by decide) ⟨by omega, by omega⟩ (fun h113 => ?_) (fun h113 => ?_)
      · refine lv_aload_n X.1 X.2.1 d_So_hearSafe_93 rfl (lv_at hl 3 rfl) ?_
        refine lv_iload_n X.1 X.2.1 d_So_hearSafe_94 rfl (lv_at hl 4 rfl) ?_
        refine lv_iload_n X.1 X.2.1 d_So_hearSafe_95 rfl (lv_at hl 5 rfl) ?_
        refine lv_aload_n X.1 X.2.1 d_So_hearSafe_96 rfl (lv_at hl 6 rfl) ?_
        refine lv_iload X.1 X.2.1 d_So_hearSafe_97 (lv_at hl 1 rfl) ?_
        refine lv_aload X.1 X.2.1 d_So_hearSafe_99 (lv_at hl 7 rfl) ?_
        refine t_ni (t_runV (As := [.int (iI a1), .int (iI a2), .ref a3, .int (iI z103), .ref a4]) (rest := []) (n := 5) X Y S k0 hml hl.1 (c_So_hearData l D E T κ L f111 H.size h k0 a1 (by omega) (by omega) a2 (by omega) (by omega) a3 n3 k3 (by omega) z103 (by omega) (by omega) a4 n4 k4 (by omega) S.1) (ok_k X Y hA KS KR) rfl kl_So_So_hearData ks_So_hearData kx_So_hearData ki_So_hearData ini_So ⟨rfl, rfl⟩ hd_So_hearData ⟨Nat.le_of_ble_eq_true rfl, Nat.le_of_ble_eq_true rfl⟩ rfl (Nat.le_of_ble_eq_true rfl) d_So_hearSafe_101 ⟨Nat.le_of_ble_eq_true rfl, Nat.le_of_ble_eq_true rfl⟩) X Y hA S (by decide) (fun z114 f114 H locs Y S s114 p114 => ?_)
        obtain ⟨l114, u114⟩ := p114
        exact c_reti hQQ X Y hr hlk ⟨rfl, S, z114, rfl, ⟨by omega, by omega⟩⟩ d_So_hearSafe_104
      · refine lv_bipush (v := iI (-41)) X.1 X.2.1 d_So_hearSafe_90 (by decide) ?_
        exact c_reti hQQ X Y hr hlk ⟨rfl, S, (-41), rfl, ⟨by omega, by omega⟩⟩ d_So_hearSafe_92
    · refine lv_bipush (v := iI (-50)) X.1 X.2.1 d_So_hearSafe_48 (by decide) ?_
      exact c_reti hQQ X Y hr hlk ⟨rfl, S, (-50), rfl, ⟨by omega, by omega⟩⟩ d_So_hearSafe_50
  · refine lv_iload X.1 X.2.1 d_So_hearSafe_16 (lv_at hl 0 rfl) ?_
    exact c_reti hQQ X Y hr hlk ⟨rfl, S, z101, rfl, ⟨by omega, by omega⟩⟩ d_So_hearSafe_18
set_option maxHeartbeats 4000000 in
set_option maxRecDepth 100000 in
theorem c_So_putCred (l : Launch) (D : va_G) (E : cE) (T : cT) (κ : tK) (L : List Nat) (f : pF) (sz : Nat) (h : Nat) (k0 : κ h = (19, 0)) (a1 : Nat) (k1 : κ a1 = (20, 0)) (a2 : Int) (l_a2 : (-2147483648) ≤ a2) (u_a2 : a2 ≤ 2147483647) (a3 n3 : Nat) (k3 : κ a3 = (13, n3)) (x3 : n3 ≤ 12288) (hw : tW E T κ L f) : Met l y_So_putCred (k_So_putCred :: lw_tg) (kRm 8 203 0 0) (va_Pc [.ref h, .ref a1, .int (iI a2), .ref a3] (kPre D E T L f sz)) (va_Qv (nPv E T [1, 2, 3, 4, 11, 13, 16, 21] κ L f (fun (g : pF) => True)) (cPost D E (pA L sz)) (pA L sz)) 0 0 (pA L sz) := by
  refine k_enter (own := R_So) (by decide) rfl (Nat.le_of_ble_eq_true rfl) (fun p e s m below meth c ls AV QQ H locs hQQ X Y hA hin hr hlk hml hl KS KR => ?_)
  have hl : lv_has ls 13 [(0, .ref h), (1, .ref a1), (2, .int (iI a2)), (3, .ref a3)] := hl
  have S : tS E T (tFr κ L [1, 2, 3, 4, 11, 13, 16, 21] []) κ L f κ L f := tS_rf hw
  refine lv_aload_n X.1 X.2.1 d_So_putCred_0 rfl (lv_at hl 0 rfl) ?_
  refine t_getr (ci := 9) X Y S k0 rfl i_So 0 (by decide) rfl (k1 := 21) (k2 := 0) rfl rfl lk_So_35 (fun _ h9 => h9) d_So_putCred_1 (fun b101 e101 k101 => ?_)
  refine t_getr (ci := 11) X Y S k101 rfl i_Va 1 (by decide) rfl (k1 := 13) (k2 := 6144) rfl rfl lk_So_91 (fun _ h9 => h9) d_So_putCred_4 (fun b102 e102 k102 => ?_)
  refine lv_astore (lv' := [(4, .ref b102), (0, .ref h), (1, .ref a1), (2, .int (iI a2)), (3, .ref a3)]) X.1 X.2.1 d_So_putCred_7 hl (by decide) rfl (fun ls hl => ?_)
  refine lv_aload X.1 X.2.1 d_So_putCred_9 (lv_at hl 0 rfl) ?_
  refine t_nv (t_runV (As := []) (rest := []) (n := 0) X Y S k102 hml hl.1 (c_By_clear l D E T κ L f H.size b102 6144 k102 (by omega) S.1) (ok_k X Y hA KS KR) rfl kl_So_By_clear ks_By_clear kx_By_clear ki_By_clear ini_By ⟨rfl, rfl⟩ hd_By_clear ⟨Nat.le_of_ble_eq_true rfl, Nat.le_of_ble_eq_true rfl⟩ rfl (Nat.le_of_ble_eq_true rfl) d_So_putCred_11 ⟨Nat.le_of_ble_eq_true rfl, Nat.le_of_ble_eq_true rfl⟩) X Y hA S (by decide) (fun f103 H locs Y S s103 p103 => ?_)
  refine lv_aload X.1 X.2.1 d_So_putCred_14 (lv_at hl 0 rfl) ?_
  refine lv_bipush (v := iI 125) X.1 X.2.1 d_So_putCred_16 (by decide) ?_
  refine t_ni (t_runV (As := [.int (iI 125)]) (rest := []) (n := 1) X Y S k102 hml hl.1 (c_By_open l D E T κ L f103 H.size b102 6144 k102 (by omega) 125 (by omega) (by omega) S.1) (ok_k X Y hA KS KR) rfl kl_So_By_open ks_By_open kx_By_open ki_By_open ini_By ⟨rfl, rfl⟩ hd_By_open ⟨Nat.le_of_ble_eq_true rfl, Nat.le_of_ble_eq_true rfl⟩ rfl (Nat.le_of_ble_eq_true rfl) d_So_putCred_18 ⟨Nat.le_of_ble_eq_true rfl, Nat.le_of_ble_eq_true rfl⟩) X Y hA S (by decide) (fun z104 f104 H locs Y S s104 p104 => ?_)
  obtain ⟨l104, u104⟩ := p104
  refine lv_istore (lv' := [(5, .int (iI z104)), (4, .ref b102), (0, .ref h), (1, .ref a1), (2, .int (iI a2)), (3, .ref a3)]) X.1 X.2.1 d_So_putCred_21 hl (by decide) rfl (fun ls hl => ?_)
  refine lv_aload X.1 X.2.1 d_So_putCred_23 (lv_at hl 1 rfl) ?_
  refine lv_bipush (v := iI 48) X.1 X.2.1 d_So_putCred_25 (by decide) ?_
  refine t_ni (t_runV (As := [.int (iI 48)]) (rest := []) (n := 1) X Y S k102 hml hl.1 (c_By_open l D E T κ L f104 H.size b102 6144 k102 (by omega) 48 (by omega) (by omega) S.1) (ok_k X Y hA KS KR) rfl kl_So_By_open ks_By_open kx_By_open ki_By_open ini_By ⟨rfl, rfl⟩ hd_By_open ⟨Nat.le_of_ble_eq_true rfl, Nat.le_of_ble_eq_true rfl⟩ rfl (Nat.le_of_ble_eq_true rfl) d_So_putCred_27 ⟨Nat.le_of_ble_eq_true rfl, Nat.le_of_ble_eq_true rfl⟩) X Y hA S (by decide) (fun z105 f105 H locs Y S s105 p105 => ?_)
  obtain ⟨l105, u105⟩ := p105
  refine lv_istore (lv' := [(6, .int (iI z105)), (5, .int (iI z104)), (4, .ref b102), (0, .ref h), (1, .ref a1), (2, .int (iI a2)), (3, .ref a3)]) X.1 X.2.1 d_So_putCred_30 hl (by decide) rfl (fun ls hl => ?_)
  refine lv_aload X.1 X.2.1 d_So_putCred_32 (lv_at hl 2 rfl) ?_
  refine lv_iconst (v := iI 0) X.1 X.2.1 d_So_putCred_34 (by decide) ?_
  refine t_ni (t_runV (As := [.int (iI 0)]) (rest := []) (n := 1) X Y S k102 hml hl.1 (c_By_openField l D E T κ L f105 H.size b102 6144 k102 (by omega) 0 (by omega) (by omega) S.1) (ok_k X Y hA KS KR) rfl kl_So_By_openField ks_By_openField kx_By_openField ki_By_openField ini_By ⟨rfl, rfl⟩ hd_By_openField ⟨Nat.le_of_ble_eq_true rfl, Nat.le_of_ble_eq_true rfl⟩ rfl (Nat.le_of_ble_eq_true rfl) d_So_putCred_35 ⟨Nat.le_of_ble_eq_true rfl, Nat.le_of_ble_eq_true rfl⟩) X Y hA S (by decide) (fun z106 f106 H locs Y S s106 p106 => ?_)
  obtain ⟨l106, u106⟩ := p106
  refine lv_istore (lv' := [(7, .int (iI z106)), (6, .int (iI z105)), (5, .int (iI z104)), (4, .ref b102), (0, .ref h), (1, .ref a1), (2, .int (iI a2)), (3, .ref a3)]) X.1 X.2.1 d_So_putCred_38 hl (by decide) rfl (fun ls hl => ?_)
  refine lv_aload X.1 X.2.1 d_So_putCred_40 (lv_at hl 3 rfl) ?_
  refine lv_bipush (v := iI 48) X.1 X.2.1 d_So_putCred_42 (by decide) ?_
  refine t_ni (t_runV (As := [.int (iI 48)]) (rest := []) (n := 1) X Y S k102 hml hl.1 (c_By_open l D E T κ L f106 H.size b102 6144 k102 (by omega) 48 (by omega) (by omega) S.1) (ok_k X Y hA KS KR) rfl kl_So_By_open ks_By_open kx_By_open ki_By_open ini_By ⟨rfl, rfl⟩ hd_By_open ⟨Nat.le_of_ble_eq_true rfl, Nat.le_of_ble_eq_true rfl⟩ rfl (Nat.le_of_ble_eq_true rfl) d_So_putCred_44 ⟨Nat.le_of_ble_eq_true rfl, Nat.le_of_ble_eq_true rfl⟩) X Y hA S (by decide) (fun z107 f107 H locs Y S s107 p107 => ?_)
  obtain ⟨l107, u107⟩ := p107
  refine lv_istore (lv' := [(8, .int (iI z107)), (7, .int (iI z106)), (6, .int (iI z105)), (5, .int (iI z104)), (4, .ref b102), (0, .ref h), (1, .ref a1), (2, .int (iI a2)), (3, .ref a3)]) X.1 X.2.1 d_So_putCred_47 hl (by decide) rfl (fun ls hl => ?_)
  refine lv_aload_n X.1 X.2.1 d_So_putCred_49 rfl (lv_at hl 6 rfl) ?_
  refine lv_aload X.1 X.2.1 d_So_putCred_50 (lv_at hl 4 rfl) ?_
  refine t_nv (t_runV (As := [.ref b102]) (rest := []) (n := 1) X Y S k1 hml hl.1 (c_Ti_putInfo l D E T κ L f107 H.size a1 k1 b102 6144 k102 (by omega) S.1) (ok_k X Y hA KS KR) rfl kl_So_Ti_putInfo ks_Ti_putInfo kx_Ti_putInfo ki_Ti_putInfo ini_Ti ⟨rfl, rfl⟩ hd_Ti_putInfo ⟨Nat.le_of_ble_eq_true rfl, Nat.le_of_ble_eq_true rfl⟩ rfl (Nat.le_of_ble_eq_true rfl) d_So_putCred_52 ⟨Nat.le_of_ble_eq_true rfl, Nat.le_of_ble_eq_true rfl⟩) X Y hA S (by decide) (fun f108 H locs Y S s108 p108 => ?_)
  refine lv_aload X.1 X.2.1 d_So_putCred_55 (lv_at hl 4 rfl) ?_
  refine lv_iload X.1 X.2.1 d_So_putCred_57 (lv_at hl 0 rfl) ?_
  refine t_nv (t_runV (As := [.int (iI z107)]) (rest := []) (n := 1) X Y S k102 hml hl.1 (c_By_close l D E T κ L f108 H.size b102 6144 k102 (by omega) z107 (by omega) (by omega) S.1) (ok_k X Y hA KS KR) rfl kl_So_By_close ks_By_close kx_By_close ki_By_close ini_By ⟨rfl, rfl⟩ hd_By_close ⟨Nat.le_of_ble_eq_true rfl, Nat.le_of_ble_eq_true rfl⟩ rfl (Nat.le_of_ble_eq_true rfl) d_So_putCred_59 ⟨Nat.le_of_ble_eq_true rfl, Nat.le_of_ble_eq_true rfl⟩) X Y hA S (by decide) (fun f109 H locs Y S s109 p109 => ?_)
  refine lv_aload X.1 X.2.1 d_So_putCred_62 (lv_at hl 4 rfl) ?_
  refine lv_iload X.1 X.2.1 d_So_putCred_64 (lv_at hl 1 rfl) ?_
  refine t_nv (t_runV (As := [.int (iI z106)]) (rest := []) (n := 1) X Y S k102 hml hl.1 (c_By_close l D E T κ L f109 H.size b102 6144 k102 (by omega) z106 (by omega) (by omega) S.1) (ok_k X Y hA KS KR) rfl kl_So_By_close ks_By_close kx_By_close ki_By_close ini_By ⟨rfl, rfl⟩ hd_By_close ⟨Nat.le_of_ble_eq_true rfl, Nat.le_of_ble_eq_true rfl⟩ rfl (Nat.le_of_ble_eq_true rfl) d_So_putCred_66 ⟨Nat.le_of_ble_eq_true rfl, Nat.le_of_ble_eq_true rfl⟩) X Y hA S (by decide) (fun f110 H locs Y S s110 p110 => ?_)
  refine lv_aload X.1 X.2.1 d_So_putCred_69 (lv_at hl 4 rfl) ?_
  refine lv_iconst (v := iI 2) X.1 X.2.1 d_So_putCred_71 (by decide) ?_
  refine lv_iload_n X.1 X.2.1 d_So_putCred_72 rfl (lv_at hl 7 rfl) ?_
  refine t_nv (t_runV (As := [.int (iI 2), .int (iI a2)]) (rest := []) (n := 2) X Y S k102 hml hl.1 (c_By_putTime l D E T κ L f110 H.size b102 6144 k102 (by omega) 2 (by omega) (by omega) a2 (by omega) (by omega) S.1) (ok_k X Y hA KS KR) rfl kl_So_By_putTime ks_By_putTime kx_By_putTime ki_By_putTime ini_By ⟨rfl, rfl⟩ hd_By_putTime ⟨Nat.le_of_ble_eq_true rfl, Nat.le_of_ble_eq_true rfl⟩ rfl (Nat.le_of_ble_eq_true rfl) d_So_putCred_73 ⟨Nat.le_of_ble_eq_true rfl, Nat.le_of_ble_eq_true rfl⟩) X Y hA S (by decide) (fun f111 H locs Y S s111 p111 => ?_)
  refine lv_aload X.1 X.2.1 d_So_putCred_76 (lv_at hl 4 rfl) ?_
  refine lv_iconst (v := iI 3) X.1 X.2.1 d_So_putCred_78 (by decide) ?_
  refine lv_lconst (v := 0) X.1 X.2.1 d_So_putCred_79 rfl ?_
  refine t_nv (t_runV (As := [.int (iI 3), .long 0]) (rest := []) (n := 2) X Y S k102 hml hl.1 (c_By_putNumber l D E T κ L f111 H.size b102 6144 k102 (by omega) 3 (by omega) (by omega) 0 S.1) (ok_k X Y hA KS KR) rfl kl_So_By_putNumber ks_By_putNumber kx_By_putNumber ki_By_putNumber ini_By ⟨rfl, rfl⟩ hd_By_putNumber ⟨Nat.le_of_ble_eq_true rfl, Nat.le_of_ble_eq_true rfl⟩ rfl (Nat.le_of_ble_eq_true rfl) d_So_putCred_80 ⟨Nat.le_of_ble_eq_true rfl, Nat.le_of_ble_eq_true rfl⟩) X Y hA S (by decide) (fun f112 H locs Y S s112 p112 => ?_)
  refine lv_aload X.1 X.2.1 d_So_putCred_83 (lv_at hl 4 rfl) ?_
  refine lv_iload X.1 X.2.1 d_So_putCred_85 (lv_at hl 2 rfl) ?_
  refine t_nv (t_runV (As := [.int (iI z105)]) (rest := []) (n := 1) X Y S k102 hml hl.1 (c_By_close l D E T κ L f112 H.size b102 6144 k102 (by omega) z105 (by omega) (by omega) S.1) (ok_k X Y hA KS KR) rfl kl_So_By_close ks_By_close kx_By_close ki_By_close ini_By ⟨rfl, rfl⟩ hd_By_close ⟨Nat.le_of_ble_eq_true rfl, Nat.le_of_ble_eq_true rfl⟩ rfl (Nat.le_of_ble_eq_true rfl) d_So_putCred_87 ⟨Nat.le_of_ble_eq_true rfl, Nat.le_of_ble_eq_true rfl⟩) X Y hA S (by decide) (fun f113 H locs Y S s113 p113 => ?_)
  refine lv_aload X.1 X.2.1 d_So_putCred_90 (lv_at hl 4 rfl) ?_
  refine lv_iload X.1 X.2.1 d_So_putCred_92 (lv_at hl 3 rfl) ?_
  refine t_nv (t_runV (As := [.int (iI z104)]) (rest := []) (n := 1) X Y S k102 hml hl.1 (c_By_close l D E T κ L f113 H.size b102 6144 k102 (by omega) z104 (by omega) (by omega) S.1) (ok_k X Y hA KS KR) rfl kl_So_By_close ks_By_close kx_By_close ki_By_close ini_By ⟨rfl, rfl⟩ hd_By_close ⟨Nat.le_of_ble_eq_true rfl, Nat.le_of_ble_eq_true rfl⟩ rfl (Nat.le_of_ble_eq_true rfl) d_So_putCred_94 ⟨Nat.le_of_ble_eq_true rfl, Nat.le_of_ble_eq_true rfl⟩) X Y hA S (by decide) (fun f114 H locs Y S s114 p114 => ?_)
  refine lv_aload_n X.1 X.2.1 d_So_putCred_97 rfl (lv_at hl 8 rfl) ?_
  refine t_nv (t_runV (As := []) (rest := []) (n := 0) X Y S k3 hml hl.1 (c_By_clear l D E T κ L f114 H.size a3 n3 k3 (by omega) S.1) (ok_k X Y hA KS KR) rfl kl_So_By_clear ks_By_clear kx_By_clear ki_By_clear ini_By ⟨rfl, rfl⟩ hd_By_clear ⟨Nat.le_of_ble_eq_true rfl, Nat.le_of_ble_eq_true rfl⟩ rfl (Nat.le_of_ble_eq_true rfl) d_So_putCred_98 ⟨Nat.le_of_ble_eq_true rfl, Nat.le_of_ble_eq_true rfl⟩) X Y hA S (by decide) (fun f115 H locs Y S s115 p115 => ?_)
  refine lv_aload_n X.1 X.2.1 d_So_putCred_101 rfl (lv_at hl 8 rfl) ?_
  refine lv_bipush (v := iI 118) X.1 X.2.1 d_So_putCred_102 (by decide) ?_
  refine t_ni (t_runV (As := [.int (iI 118)]) (rest := []) (n := 1) X Y S k3 hml hl.1 (c_By_open l D E T κ L f115 H.size a3 n3 k3 (by omega) 118 (by omega) (by omega) S.1) (ok_k X Y hA KS KR) rfl kl_So_By_open ks_By_open kx_By_open ki_By_open ini_By ⟨rfl, rfl⟩ hd_By_open ⟨Nat.le_of_ble_eq_true rfl, Nat.le_of_ble_eq_true rfl⟩ rfl (Nat.le_of_ble_eq_true rfl) d_So_putCred_104 ⟨Nat.le_of_ble_eq_true rfl, Nat.le_of_ble_eq_true rfl⟩) X Y hA S (by decide) (fun z116 f116 H locs Y S s116 p116 => ?_)
  obtain ⟨l116, u116⟩ := p116
  refine lv_istore (lv' := [(9, .int (iI z116)), (8, .int (iI z107)), (7, .int (iI z106)), (6, .int (iI z105)), (5, .int (iI z104)), (4, .ref b102), (0, .ref h), (1, .ref a1), (2, .int (iI a2)), (3, .ref a3)]) X.1 X.2.1 d_So_putCred_107 hl (by decide) rfl (fun ls hl => ?_)
  refine lv_aload_n X.1 X.2.1 d_So_putCred_109 rfl (lv_at hl 9 rfl) ?_
  refine lv_bipush (v := iI 48) X.1 X.2.1 d_So_putCred_110 (by decide) ?_
  refine t_ni (t_runV (As := [.int (iI 48)]) (rest := []) (n := 1) X Y S k3 hml hl.1 (c_By_open l D E T κ L f116 H.size a3 n3 k3 (by omega) 48 (by omega) (by omega) S.1) (ok_k X Y hA KS KR) rfl kl_So_By_open ks_By_open kx_By_open ki_By_open ini_By ⟨rfl, rfl⟩ hd_By_open ⟨Nat.le_of_ble_eq_true rfl, Nat.le_of_ble_eq_true rfl⟩ rfl (Nat.le_of_ble_eq_true rfl) d_So_putCred_112 ⟨Nat.le_of_ble_eq_true rfl, Nat.le_of_ble_eq_true rfl⟩) X Y hA S (by decide) (fun z117 f117 H locs Y S s117 p117 => ?_)
  obtain ⟨l117, u117⟩ := p117
  refine lv_istore (lv' := [(10, .int (iI z117)), (9, .int (iI z116)), (8, .int (iI z107)), (7, .int (iI z106)), (6, .int (iI z105)), (5, .int (iI z104)), (4, .ref b102), (0, .ref h), (1, .ref a1), (2, .int (iI a2)), (3, .ref a3)]) X.1 X.2.1 d_So_putCred_115 hl (by decide) rfl (fun ls hl => ?_)
  refine lv_aload_n X.1 X.2.1 d_So_putCred_117 rfl (lv_at hl 10 rfl) ?_
  refine lv_iconst (v := iI 0) X.1 X.2.1 d_So_putCred_118 (by decide) ?_
  refine lv_ldc2 (v := (5)) X.1 X.2.1 X.2.2.2.1 (X.2.2.1 _ cl_So_112) d_So_putCred_119 ?_
  refine t_nv (t_runV (As := [.int (iI 0), .long ((5))]) (rest := []) (n := 2) X Y S k3 hml hl.1 (c_By_putNumber l D E T κ L f117 H.size a3 n3 k3 (by omega) 0 (by omega) (by omega) ((5)) S.1) (ok_k X Y hA KS KR) rfl kl_So_By_putNumber ks_By_putNumber kx_By_putNumber ki_By_putNumber ini_By ⟨rfl, rfl⟩ hd_By_putNumber ⟨Nat.le_of_ble_eq_true rfl, Nat.le_of_ble_eq_true rfl⟩ rfl (Nat.le_of_ble_eq_true rfl) d_So_putCred_122 ⟨Nat.le_of_ble_eq_true rfl, Nat.le_of_ble_eq_true rfl⟩) X Y hA S (by decide) (fun f118 H locs Y S s118 p118 => ?_)
  refine lv_aload_n X.1 X.2.1 d_So_putCred_125 rfl (lv_at hl 10 rfl) ?_
  refine lv_iconst (v := iI 1) X.1 X.2.1 d_So_putCred_126 (by decide) ?_
  refine lv_ldc2 (v := (22)) X.1 X.2.1 X.2.2.2.1 (X.2.2.1 _ cl_So_227) d_So_putCred_127 ?_
  refine t_nv (t_runV (As := [.int (iI 1), .long ((22))]) (rest := []) (n := 2) X Y S k3 hml hl.1 (c_By_putNumber l D E T κ L f118 H.size a3 n3 k3 (by omega) 1 (by omega) (by omega) ((22)) S.1) (ok_k X Y hA KS KR) rfl kl_So_By_putNumber ks_By_putNumber kx_By_putNumber ki_By_putNumber ini_By ⟨rfl, rfl⟩ hd_By_putNumber ⟨Nat.le_of_ble_eq_true rfl, Nat.le_of_ble_eq_true rfl⟩ rfl (Nat.le_of_ble_eq_true rfl) d_So_putCred_130 ⟨Nat.le_of_ble_eq_true rfl, Nat.le_of_ble_eq_true rfl⟩) X Y hA S (by decide) (fun f119 H locs Y S s119 p119 => ?_)
  refine lv_aload_n X.1 X.2.1 d_So_putCred_133 rfl (lv_at hl 10 rfl) ?_
  refine lv_iconst (v := iI 2) X.1 X.2.1 d_So_putCred_134 (by decide) ?_
  refine t_ni (t_runV (As := [.int (iI 2)]) (rest := []) (n := 1) X Y S k3 hml hl.1 (c_By_openField l D E T κ L f119 H.size a3 n3 k3 (by omega) 2 (by omega) (by omega) S.1) (ok_k X Y hA KS KR) rfl kl_So_By_openField ks_By_openField kx_By_openField ki_By_openField ini_By ⟨rfl, rfl⟩ hd_By_openField ⟨Nat.le_of_ble_eq_true rfl, Nat.le_of_ble_eq_true rfl⟩ rfl (Nat.le_of_ble_eq_true rfl) d_So_putCred_135 ⟨Nat.le_of_ble_eq_true rfl, Nat.le_of_ble_eq_true rfl⟩) X Y hA S (by decide) (fun z120 f120 H locs Y S s120 p120 => ?_)
  obtain ⟨l120, u120⟩ := p120
  refine lv_istore (lv' := [(11, .int (iI z120)), (10, .int (iI z117)), (9, .int (iI z116)), (8, .int (iI z107)), (7, .int (iI z106)), (6, .int (iI z105)), (5, .int (iI z104)), (4, .ref b102), (0, .ref h), (1, .ref a1), (2, .int (iI a2)), (3, .ref a3)]) X.1 X.2.1 d_So_putCred_138 hl (by decide) rfl (fun ls hl => ?_)
  refine lv_aload_n X.1 X.2.1 d_So_putCred_140 rfl (lv_at hl 11 rfl) ?_
  refine lv_bipush (v := iI 48) X.1 X.2.1 d_So_putCred_141 (by decide) ?_
  refine lv_aload_n X.1 X.2.1 d_So_putCred_143 rfl (lv_at hl 9 rfl) ?_
  refine t_getm (ci := 10) X Y S k1 rfl i_Ti 0 (by decide) rfl (k1 := 13) (k2 := 4000) rfl rfl lk_So_229 (fun _ h9 => h9) d_So_putCred_144 (fun b121 n121 e121 k121 x121 => ?_)
  refine t_getrow (ci := 3) X Y S k121 rfl i_By 0 (by decide) rfl lk_So_138 (fun _ h9 => h9) d_So_putCred_147 (fun b122 e122 k122 => ?_)
  refine lv_iconst (v := iI 0) X.1 X.2.1 d_So_putCred_150 (by decide) ?_
  refine lv_aload_n X.1 X.2.1 d_So_putCred_151 rfl (lv_at hl 9 rfl) ?_
  refine t_get0 (ci := 10) X Y S k1 rfl i_Ti 0 (by decide) rfl lk_So_229 (fun _ h9 => h9) d_So_putCred_152 e121 ?_
  refine t_gets (ci := 3) X Y S k121 rfl i_By 1 (by decide) rfl lk_So_141 (fun _ h9 => h9) d_So_putCred_155 (fun z123 e123 l123 u123 => ?_)
  refine t_nv (t_runV (As := [.int (iI 48), .ref b122, .int (iI 0), .int (iI z123)]) (rest := []) (n := 4) X Y S k3 hml hl.1 (c_By_putValue l D E T κ L f120 H.size a3 n3 k3 (by omega) 48 (by omega) (by omega) b122 n121 (Or.inl k122) (by omega) 0 (by omega) (by omega) z123 (by omega) (by omega) S.1) (ok_k X Y hA KS KR) rfl kl_So_By_putValue ks_By_putValue kx_By_putValue ki_By_putValue ini_By ⟨rfl, rfl⟩ hd_By_putValue ⟨Nat.le_of_ble_eq_true rfl, Nat.le_of_ble_eq_true rfl⟩ rfl (Nat.le_of_ble_eq_true rfl) d_So_putCred_158 ⟨Nat.le_of_ble_eq_true rfl, Nat.le_of_ble_eq_true rfl⟩) X Y hA S (by decide) (fun f124 H locs Y S s124 p124 => ?_)
  refine lv_aload_n X.1 X.2.1 d_So_putCred_161 rfl (lv_at hl 11 rfl) ?_
  refine lv_iload X.1 X.2.1 d_So_putCred_162 (lv_at hl 0 rfl) ?_
  refine t_nv (t_runV (As := [.int (iI z120)]) (rest := []) (n := 1) X Y S k3 hml hl.1 (c_By_close l D E T κ L f124 H.size a3 n3 k3 (by omega) z120 (by omega) (by omega) S.1) (ok_k X Y hA KS KR) rfl kl_So_By_close ks_By_close kx_By_close ki_By_close ini_By ⟨rfl, rfl⟩ hd_By_close ⟨Nat.le_of_ble_eq_true rfl, Nat.le_of_ble_eq_true rfl⟩ rfl (Nat.le_of_ble_eq_true rfl) d_So_putCred_164 ⟨Nat.le_of_ble_eq_true rfl, Nat.le_of_ble_eq_true rfl⟩) X Y hA S (by decide) (fun f125 H locs Y S s125 p125 => ?_)
  refine lv_aload_n X.1 X.2.1 d_So_putCred_167 rfl (lv_at hl 11 rfl) ?_
  refine lv_iconst (v := iI 3) X.1 X.2.1 d_So_putCred_168 (by decide) ?_
  refine t_ni (t_runV (As := [.int (iI 3)]) (rest := []) (n := 1) X Y S k3 hml hl.1 (c_By_openField l D E T κ L f125 H.size a3 n3 k3 (by omega) 3 (by omega) (by omega) S.1) (ok_k X Y hA KS KR) rfl kl_So_By_openField ks_By_openField kx_By_openField ki_By_openField ini_By ⟨rfl, rfl⟩ hd_By_openField ⟨Nat.le_of_ble_eq_true rfl, Nat.le_of_ble_eq_true rfl⟩ rfl (Nat.le_of_ble_eq_true rfl) d_So_putCred_169 ⟨Nat.le_of_ble_eq_true rfl, Nat.le_of_ble_eq_true rfl⟩) X Y hA S (by decide) (fun z126 f126 H locs Y S s126 p126 => ?_)
  obtain ⟨l126, u126⟩ := p126
  refine lv_istore (lv' := [(12, .int (iI z126)), (11, .int (iI z120)), (10, .int (iI z117)), (9, .int (iI z116)), (8, .int (iI z107)), (7, .int (iI z106)), (6, .int (iI z105)), (5, .int (iI z104)), (4, .ref b102), (0, .ref h), (1, .ref a1), (2, .int (iI a2)), (3, .ref a3)]) X.1 X.2.1 d_So_putCred_172 hl (by decide) rfl (fun ls hl => ?_)
  refine lv_aload_n X.1 X.2.1 d_So_putCred_174 rfl (lv_at hl 9 rfl) ?_
  refine t_get0 (ci := 9) X Y S k0 rfl i_So 0 (by decide) rfl lk_So_35 (fun _ h9 => h9) d_So_putCred_175 ((gF_same (s126.2.2.2 _ ⟨(t_obj S.1 k0).1, nM_of k0 (by decide), by simp⟩).1 0).trans ((gF_same (s125.2.2.2 _ ⟨(t_obj S.1 k0).1, nM_of k0 (by decide), by simp⟩).1 0).trans ((gF_same (s124.2.2.2 _ ⟨(t_obj S.1 k0).1, nM_of k0 (by decide), by simp⟩).1 0).trans ((gF_same (s120.2.2.2 _ ⟨(t_obj S.1 k0).1, nM_of k0 (by decide), by simp⟩).1 0).trans ((gF_same (s119.2.2.2 _ ⟨(t_obj S.1 k0).1, nM_of k0 (by decide), by simp⟩).1 0).trans ((gF_same (s118.2.2.2 _ ⟨(t_obj S.1 k0).1, nM_of k0 (by decide), by simp⟩).1 0).trans ((gF_same (s117.2.2.2 _ ⟨(t_obj S.1 k0).1, nM_of k0 (by decide), by simp⟩).1 0).trans ((gF_same (s116.2.2.2 _ ⟨(t_obj S.1 k0).1, nM_of k0 (by decide), by simp⟩).1 0).trans ((gF_same (s115.2.2.2 _ ⟨(t_obj S.1 k0).1, nM_of k0 (by decide), by simp⟩).1 0).trans ((gF_same (s114.2.2.2 _ ⟨(t_obj S.1 k0).1, nM_of k0 (by decide), by simp⟩).1 0).trans ((gF_same (s113.2.2.2 _ ⟨(t_obj S.1 k0).1, nM_of k0 (by decide), by simp⟩).1 0).trans ((gF_same (s112.2.2.2 _ ⟨(t_obj S.1 k0).1, nM_of k0 (by decide), by simp⟩).1 0).trans ((gF_same (s111.2.2.2 _ ⟨(t_obj S.1 k0).1, nM_of k0 (by decide), by simp⟩).1 0).trans ((gF_same (s110.2.2.2 _ ⟨(t_obj S.1 k0).1, nM_of k0 (by decide), by simp⟩).1 0).trans ((gF_same (s109.2.2.2 _ ⟨(t_obj S.1 k0).1, nM_of k0 (by decide), by simp⟩).1 0).trans ((gF_same (s108.2.2.2 _ ⟨(t_obj S.1 k0).1, nM_of k0 (by decide), by simp⟩).1 0).trans ((gF_same (s107.2.2.2 _ ⟨(t_obj S.1 k0).1, nM_of k0 (by decide), by simp⟩).1 0).trans ((gF_same (s106.2.2.2 _ ⟨(t_obj S.1 k0).1, nM_of k0 (by decide), by simp⟩).1 0).trans ((gF_same (s105.2.2.2 _ ⟨(t_obj S.1 k0).1, nM_of k0 (by decide), by simp⟩).1 0).trans ((gF_same (s104.2.2.2 _ ⟨(t_obj S.1 k0).1, nM_of k0 (by decide), by simp⟩).1 0).trans ((gF_same (s103.2.2.2 _ ⟨(t_obj S.1 k0).1, nM_of k0 (by decide), by simp⟩).1 0).trans e101))))))))))))))))))))) ?_
  refine lv_aload_n X.1 X.2.1 d_So_putCred_178 rfl (lv_at hl 12 rfl) ?_
  refine lv_aload_n X.1 X.2.1 d_So_putCred_179 rfl (lv_at hl 9 rfl) ?_
  refine t_getk (ci := 9) X Y S k0 rfl i_So 3 (by decide) rfl lk_So_19 (fun _ h9 => h9) d_So_putCred_180 (fun b127 n127 e127 k127 x127 => ?_)
  refine lv_bipush (v := iI 14) X.1 X.2.1 d_So_putCred_183 (by decide) ?_
  refine lv_iconst (v := iI 0) X.1 X.2.1 d_So_putCred_185 (by decide) ?_
  refine t_nv (t_runV (As := [.ref a3, .ref b127, .int (iI 14), .int (iI 0)]) (rest := []) (n := 4) X Y S k101 hml hl.1 (c_Va_putSealed l D E T κ L f126 H.size b101 k101 a3 n3 k3 (by omega) b127 n127 k127 (by omega) 14 (by omega) (by omega) 0 (by omega) (by omega) S.1) (ok_k X Y hA KS KR) rfl kl_So_Va_putSealed ks_Va_putSealed kx_Va_putSealed ki_Va_putSealed ini_Va ⟨rfl, rfl⟩ hd_Va_putSealed ⟨Nat.le_of_ble_eq_true rfl, Nat.le_of_ble_eq_true rfl⟩ rfl (Nat.le_of_ble_eq_true rfl) d_So_putCred_186 ⟨Nat.le_of_ble_eq_true rfl, Nat.le_of_ble_eq_true rfl⟩) X Y hA S (by decide) (fun f128 H locs Y S s128 p128 => ?_)
  refine lv_aload_n X.1 X.2.1 d_So_putCred_189 rfl (lv_at hl 12 rfl) ?_
  refine lv_iload X.1 X.2.1 d_So_putCred_190 (lv_at hl 0 rfl) ?_
  refine t_nv (t_runV (As := [.int (iI z126)]) (rest := []) (n := 1) X Y S k3 hml hl.1 (c_By_close l D E T κ L f128 H.size a3 n3 k3 (by omega) z126 (by omega) (by omega) S.1) (ok_k X Y hA KS KR) rfl kl_So_By_close ks_By_close kx_By_close ki_By_close ini_By ⟨rfl, rfl⟩ hd_By_close ⟨Nat.le_of_ble_eq_true rfl, Nat.le_of_ble_eq_true rfl⟩ rfl (Nat.le_of_ble_eq_true rfl) d_So_putCred_192 ⟨Nat.le_of_ble_eq_true rfl, Nat.le_of_ble_eq_true rfl⟩) X Y hA S (by decide) (fun f129 H locs Y S s129 p129 => ?_)
  refine lv_aload_n X.1 X.2.1 d_So_putCred_195 rfl (lv_at hl 12 rfl) ?_
  refine lv_iload X.1 X.2.1 d_So_putCred_196 (lv_at hl 2 rfl) ?_
  refine t_nv (t_runV (As := [.int (iI z117)]) (rest := []) (n := 1) X Y S k3 hml hl.1 (c_By_close l D E T κ L f129 H.size a3 n3 k3 (by omega) z117 (by omega) (by omega) S.1) (ok_k X Y hA KS KR) rfl kl_So_By_close ks_By_close kx_By_close ki_By_close ini_By ⟨rfl, rfl⟩ hd_By_close ⟨Nat.le_of_ble_eq_true rfl, Nat.le_of_ble_eq_true rfl⟩ rfl (Nat.le_of_ble_eq_true rfl) d_So_putCred_198 ⟨Nat.le_of_ble_eq_true rfl, Nat.le_of_ble_eq_true rfl⟩) X Y hA S (by decide) (fun f130 H locs Y S s130 p130 => ?_)
  refine lv_aload_n X.1 X.2.1 d_So_putCred_201 rfl (lv_at hl 12 rfl) ?_
  refine lv_iload X.1 X.2.1 d_So_putCred_202 (lv_at hl 3 rfl) ?_
  refine t_nv (t_runV (As := [.int (iI z116)]) (rest := []) (n := 1) X Y S k3 hml hl.1 (c_By_close l D E T κ L f130 H.size a3 n3 k3 (by omega) z116 (by omega) (by omega) S.1) (ok_k X Y hA KS KR) rfl kl_So_By_close ks_By_close kx_By_close ki_By_close ini_By ⟨rfl, rfl⟩ hd_By_close ⟨Nat.le_of_ble_eq_true rfl, Nat.le_of_ble_eq_true rfl⟩ rfl (Nat.le_of_ble_eq_true rfl) d_So_putCred_204 ⟨Nat.le_of_ble_eq_true rfl, Nat.le_of_ble_eq_true rfl⟩) X Y hA S (by decide) (fun f131 H locs Y S s131 p131 => ?_)
  exact c_retv hQQ X Y hr hlk ⟨rfl, S, trivial⟩ d_So_putCred_207
set_option maxHeartbeats 4000000 in
set_option maxRecDepth 100000 in
theorem c_So_isWholeInfo (l : Launch) (D : va_G) (E : cE) (T : cT) (κ : tK) (L : List Nat) (f : pF) (sz : Nat) (a1 n1 : Nat) (k1 : κ a1 = (13, n1)) (x1 : n1 ≤ 12288) (a2 : Int) (l_a2 : (-1) ≤ a2) (u_a2 : a2 ≤ 20200) (hw : tW E T κ L f) : Met l y_So_isWholeInfo (k_So_isWholeInfo :: lw_tg) (kRm 3 112 0 0) (va_Pc [.ref a1, .int (iI a2)] (kPre D E T L f sz)) (va_Qi (uPi L f (fun (z : Int) => 0 ≤ z ∧ z ≤ 1)) (cPost D E (pA L sz)) (pA L sz)) 0 0 (pA L sz) := by
  refine k_enter (own := R_So) (by decide) rfl (Nat.le_of_ble_eq_true rfl) (fun p e s m below meth c ls AV QQ H locs hQQ X Y hA hin hr hlk hml hl KS KR => ?_)
  have hl : lv_has ls 3 [(0, .ref a1), (1, .int (iI a2))] := hl
  have S : tS E T (tFr κ L [] []) κ L f κ L f := tS_rf hw
  refine lv_aload_n X.1 X.2.1 d_So_isWholeInfo_0 rfl (lv_at hl 0 rfl) ?_
  refine lv_iload_n X.1 X.2.1 d_So_isWholeInfo_1 rfl (lv_at hl 1 rfl) ?_
  refine lv_iconst (v := iI 0) X.1 X.2.1 d_So_isWholeInfo_2 (by decide) ?_
  refine t_ui (t_runV (As := [.int (iI a2), .int (iI 0)]) (rest := []) (n := 2) X Y S k1 hml hl.1 (c_By_element l D E T κ L f H.size a1 n1 k1 (by omega) a2 (by omega) (by omega) 0 (by omega) (by omega) S.1) (ok_k X Y hA KS KR) rfl kl_So_By_element ks_By_element kx_By_element ki_By_element ini_By ⟨rfl, rfl⟩ hd_By_element ⟨Nat.le_of_ble_eq_true rfl, Nat.le_of_ble_eq_true rfl⟩ rfl (Nat.le_of_ble_eq_true rfl) d_So_isWholeInfo_3 ⟨Nat.le_of_ble_eq_true rfl, Nat.le_of_ble_eq_true rfl⟩) X Y hA (fun z101 H locs Y p101 => ?_)
  obtain ⟨l101, u101⟩ := p101
  refine lv_istore_n (lv' := [(2, .int (iI z101)), (0, .ref a1), (1, .int (iI a2))]) X.1 X.2.1 d_So_isWholeInfo_6 rfl hl (by decide) rfl (fun ls hl => ?_)
  refine lv_iload_n X.1 X.2.1 d_So_isWholeInfo_7 rfl (lv_at hl 0 rfl) ?_
  refine z_if_lt (tgt := 61) X.1 X.2.1 d_So_isWholeInfo_8 (by decide) ⟨by omega, by omega⟩ (fun h102 => ?_) (fun h102 => ?_)
  · refine lv_iconst (v := iI 0) X.1 X.2.1 d_So_isWholeInfo_61 (by decide) ?_
    exact c_retz hQQ X Y hr hlk (iI_bool (by omega) (by omega)).1 ⟨rfl, rfl, 0, rfl, ⟨by omega, by omega⟩⟩ d_So_isWholeInfo_62
  · refine lv_aload_n X.1 X.2.1 d_So_isWholeInfo_11 rfl (lv_at hl 1 rfl) ?_
    refine lv_iload_n X.1 X.2.1 d_So_isWholeInfo_12 rfl (lv_at hl 2 rfl) ?_
    refine lv_iconst (v := iI 1) X.1 X.2.1 d_So_isWholeInfo_13 (by decide) ?_
    refine t_ui (t_runV (As := [.int (iI a2), .int (iI 1)]) (rest := []) (n := 2) X Y S k1 hml hl.1 (c_By_element l D E T κ L f H.size a1 n1 k1 (by omega) a2 (by omega) (by omega) 1 (by omega) (by omega) S.1) (ok_k X Y hA KS KR) rfl kl_So_By_element ks_By_element kx_By_element ki_By_element ini_By ⟨rfl, rfl⟩ hd_By_element ⟨Nat.le_of_ble_eq_true rfl, Nat.le_of_ble_eq_true rfl⟩ rfl (Nat.le_of_ble_eq_true rfl) d_So_isWholeInfo_14 ⟨Nat.le_of_ble_eq_true rfl, Nat.le_of_ble_eq_true rfl⟩) X Y hA (fun z103 H locs Y p103 => ?_)
    obtain ⟨l103, u103⟩ := p103
    refine z_if_ge (tgt := 61) X.1 X.2.1 d_So_isWholeInfo_17 (by decide) ⟨by omega, by omega⟩ (fun h104 => ?_) (fun h104 => ?_)
    · refine lv_iconst (v := iI 0) X.1 X.2.1 d_So_isWholeInfo_61 (by decide) ?_
      exact c_retz hQQ X Y hr hlk (iI_bool (by omega) (by omega)).1 ⟨rfl, rfl, 0, rfl, ⟨by omega, by omega⟩⟩ d_So_isWholeInfo_62
    · refine lv_aload_n X.1 X.2.1 d_So_isWholeInfo_20 rfl (lv_at hl 1 rfl) ?_
      refine lv_iload_n X.1 X.2.1 d_So_isWholeInfo_21 rfl (lv_at hl 0 rfl) ?_
      refine lv_iconst (v := iI 2) X.1 X.2.1 d_So_isWholeInfo_22 (by decide) ?_
      refine t_ui (t_runV (As := [.int (iI z101), .int (iI 2)]) (rest := []) (n := 2) X Y S k1 hml hl.1 (c_By_field l D E T κ L f H.size a1 n1 k1 (by omega) z101 (by omega) (by omega) 2 (by omega) (by omega) S.1) (ok_k X Y hA KS KR) rfl kl_So_By_field ks_By_field kx_By_field ki_By_field ini_By ⟨rfl, rfl⟩ hd_By_field ⟨Nat.le_of_ble_eq_true rfl, Nat.le_of_ble_eq_true rfl⟩ rfl (Nat.le_of_ble_eq_true rfl) d_So_isWholeInfo_23 ⟨Nat.le_of_ble_eq_true rfl, Nat.le_of_ble_eq_true rfl⟩) X Y hA (fun z105 H locs Y p105 => ?_)
      obtain ⟨l105, u105⟩ := p105
      refine z_if_lt (tgt := 61) X.1 X.2.1 d_So_isWholeInfo_26 (by decide) ⟨by omega, by omega⟩ (fun h106 => ?_) (fun h106 => ?_)
      · refine lv_iconst (v := iI 0) X.1 X.2.1 d_So_isWholeInfo_61 (by decide) ?_
        exact c_retz hQQ X Y hr hlk (iI_bool (by omega) (by omega)).1 ⟨rfl, rfl, 0, rfl, ⟨by omega, by omega⟩⟩ d_So_isWholeInfo_62
      · refine lv_aload_n X.1 X.2.1 d_So_isWholeInfo_29 rfl (lv_at hl 1 rfl) ?_
        refine lv_iload_n X.1 X.2.1 d_So_isWholeInfo_30 rfl (lv_at hl 0 rfl) ?_
        refine lv_iconst (v := iI 3) X.1 X.2.1 d_So_isWholeInfo_31 (by decide) ?_
        refine t_ui (t_runV (As := [.int (iI z101), .int (iI 3)]) (rest := []) (n := 2) X Y S k1 hml hl.1 (c_By_field l D E T κ L f H.size a1 n1 k1 (by omega) z101 (by omega) (by omega) 3 (by omega) (by omega) S.1) (ok_k X Y hA KS KR) rfl kl_So_By_field ks_By_field kx_By_field ki_By_field ini_By ⟨rfl, rfl⟩ hd_By_field ⟨Nat.le_of_ble_eq_true rfl, Nat.le_of_ble_eq_true rfl⟩ rfl (Nat.le_of_ble_eq_true rfl) d_So_isWholeInfo_32 ⟨Nat.le_of_ble_eq_true rfl, Nat.le_of_ble_eq_true rfl⟩) X Y hA (fun z107 H locs Y p107 => ?_)
        obtain ⟨l107, u107⟩ := p107
        refine z_if_lt (tgt := 61) X.1 X.2.1 d_So_isWholeInfo_35 (by decide) ⟨by omega, by omega⟩ (fun h108 => ?_) (fun h108 => ?_)
        · refine lv_iconst (v := iI 0) X.1 X.2.1 d_So_isWholeInfo_61 (by decide) ?_
          exact c_retz hQQ X Y hr hlk (iI_bool (by omega) (by omega)).1 ⟨rfl, rfl, 0, rfl, ⟨by omega, by omega⟩⟩ d_So_isWholeInfo_62
        · refine lv_aload_n X.1 X.2.1 d_So_isWholeInfo_38 rfl (lv_at hl 1 rfl) ?_
          refine lv_iload_n X.1 X.2.1 d_So_isWholeInfo_39 rfl (lv_at hl 0 rfl) ?_
          refine lv_iconst (v := iI 4) X.1 X.2.1 d_So_isWholeInfo_40 (by decide) ?_
          refine t_ui (t_runV (As := [.int (iI z101), .int (iI 4)]) (rest := []) (n := 2) X Y S k1 hml hl.1 (c_By_field l D E T κ L f H.size a1 n1 k1 (by omega) z101 (by omega) (by omega) 4 (by omega) (by omega) S.1) (ok_k X Y hA KS KR) rfl kl_So_By_field ks_By_field kx_By_field ki_By_field ini_By ⟨rfl, rfl⟩ hd_By_field ⟨Nat.le_of_ble_eq_true rfl, Nat.le_of_ble_eq_true rfl⟩ rfl (Nat.le_of_ble_eq_true rfl) d_So_isWholeInfo_41 ⟨Nat.le_of_ble_eq_true rfl, Nat.le_of_ble_eq_true rfl⟩) X Y hA (fun z109 H locs Y p109 => ?_)
          obtain ⟨l109, u109⟩ := p109
          refine z_if_lt (tgt := 61) X.1 X.2.1 d_So_isWholeInfo_44 (by decide) ⟨by omega, by omega⟩ (fun h110 => ?_) (fun h110 => ?_)
          · refine lv_iconst (v := iI 0) X.1 X.2.1 d_So_isWholeInfo_61 (by decide) ?_
            exact c_retz hQQ X Y hr hlk (iI_bool (by omega) (by omega)).1 ⟨rfl, rfl, 0, rfl, ⟨by omega, by omega⟩⟩ d_So_isWholeInfo_62
          · refine lv_aload_n X.1 X.2.1 d_So_isWholeInfo_47 rfl (lv_at hl 1 rfl) ?_
            refine lv_iload_n X.1 X.2.1 d_So_isWholeInfo_48 rfl (lv_at hl 0 rfl) ?_
            refine lv_bipush (v := iI 6) X.1 X.2.1 d_So_isWholeInfo_49 (by decide) ?_
            refine t_ui (t_runV (As := [.int (iI z101), .int (iI 6)]) (rest := []) (n := 2) X Y S k1 hml hl.1 (c_By_field l D E T κ L f H.size a1 n1 k1 (by omega) z101 (by omega) (by omega) 6 (by omega) (by omega) S.1) (ok_k X Y hA KS KR) rfl kl_So_By_field ks_By_field kx_By_field ki_By_field ini_By ⟨rfl, rfl⟩ hd_By_field ⟨Nat.le_of_ble_eq_true rfl, Nat.le_of_ble_eq_true rfl⟩ rfl (Nat.le_of_ble_eq_true rfl) d_So_isWholeInfo_51 ⟨Nat.le_of_ble_eq_true rfl, Nat.le_of_ble_eq_true rfl⟩) X Y hA (fun z111 H locs Y p111 => ?_)
            obtain ⟨l111, u111⟩ := p111
            refine z_if_lt (tgt := 61) X.1 X.2.1 d_So_isWholeInfo_54 (by decide) ⟨by omega, by omega⟩ (fun h112 => ?_) (fun h112 => ?_)
            · refine lv_iconst (v := iI 0) X.1 X.2.1 d_So_isWholeInfo_61 (by decide) ?_
              exact c_retz hQQ X Y hr hlk (iI_bool (by omega) (by omega)).1 ⟨rfl, rfl, 0, rfl, ⟨by omega, by omega⟩⟩ d_So_isWholeInfo_62
            · refine lv_iconst (v := iI 1) X.1 X.2.1 d_So_isWholeInfo_57 (by decide) ?_
              refine lv_goto (tgt := 62) X.1 X.2.1 d_So_isWholeInfo_58 (by decide) ?_
              exact c_retz hQQ X Y hr hlk (iI_bool (by omega) (by omega)).1 ⟨rfl, rfl, 1, rfl, ⟨by omega, by omega⟩⟩ d_So_isWholeInfo_62
set_option maxHeartbeats 4000000 in
set_option maxRecDepth 100000 in
theorem c_So_judgeCred (l : Launch) (D : va_G) (E : cE) (T : cT) (κ : tK) (L : List Nat) (f : pF) (sz : Nat) (h : Nat) (k0 : κ h = (19, 0)) (a1 n1 : Nat) (k1 : κ a1 = (13, n1)) (x1 : n1 ≤ 12288) (hw : tW E T κ L f) : Met l y_So_judgeCred (k_So_judgeCred :: lw_tg) (kRm 72 2385 0 0) (va_Pc [.ref h, .ref a1] (kPre D E T L f sz)) (va_Qi (nPi E T [1, 2, 3, 4, 11, 13, 16] κ L f (fun (z : Int) (g : pF) => (-2147483648) ≤ z ∧ z ≤ 2147483647)) (cPost D E (pA L sz)) (pA L sz)) 0 0 (pA L sz) := by
  refine k_enter (own := R_So) (by decide) rfl (Nat.le_of_ble_eq_true rfl) (fun p e s m below meth c ls AV QQ H locs hQQ X Y hA hin hr hlk hml hl KS KR => ?_)
  have hl : lv_has ls 7 [(0, .ref h), (1, .ref a1)] := hl
  have S : tS E T (tFr κ L [1, 2, 3, 4, 11, 13, 16] []) κ L f κ L f := tS_rf hw
  refine lv_aload_n X.1 X.2.1 d_So_judgeCred_0 rfl (lv_at hl 1 rfl) ?_
  refine lv_sipush (v := iI 374) X.1 X.2.1 d_So_judgeCred_1 (by decide) ?_
  refine lv_iconst (v := iI 0) X.1 X.2.1 d_So_judgeCred_4 (by decide) ?_
  refine lv_aload_n X.1 X.2.1 d_So_judgeCred_5 rfl (lv_at hl 1 rfl) ?_
  refine t_gets (ci := 3) X Y S k1 rfl i_By 1 (by decide) rfl lk_So_141 (fun _ h9 => h9) d_So_judgeCred_6 (fun z101 e101 l101 u101 => ?_)
  refine t_ui (t_runV (As := [.int (iI 374), .int (iI 0), .int (iI z101)]) (rest := []) (n := 3) X Y S k1 hml hl.1 (c_By_isA l D E T κ L f H.size a1 n1 k1 (by omega) 374 (by omega) (by omega) 0 (by omega) (by omega) z101 (by omega) (by omega) S.1) (ok_k X Y hA KS KR) rfl kl_So_By_isA ks_By_isA kx_By_isA ki_By_isA ini_By ⟨rfl, rfl⟩ hd_By_isA ⟨Nat.le_of_ble_eq_true rfl, Nat.le_of_ble_eq_true rfl⟩ rfl (Nat.le_of_ble_eq_true rfl) d_So_judgeCred_9 ⟨Nat.le_of_ble_eq_true rfl, Nat.le_of_ble_eq_true rfl⟩) X Y hA (fun z102 H locs Y p102 => ?_)
  obtain ⟨l102, u102⟩ := p102
  refine lv_istore_n (lv' := [(2, .int (iI z102)), (0, .ref h), (1, .ref a1)]) X.1 X.2.1 d_So_judgeCred_12 rfl hl (by decide) rfl (fun ls hl => ?_)
  refine lv_aload_n X.1 X.2.1 d_So_judgeCred_13 rfl (lv_at hl 2 rfl) ?_
  refine lv_iconst (v := iI 0) X.1 X.2.1 d_So_judgeCred_14 (by decide) ?_
  refine lv_iconst (v := iI 2) X.1 X.2.1 d_So_judgeCred_15 (by decide) ?_
  refine t_ui (t_runV (As := [.int (iI 0), .int (iI 2)]) (rest := []) (n := 2) X Y S k1 hml hl.1 (c_By_field l D E T κ L f H.size a1 n1 k1 (by omega) 0 (by omega) (by omega) 2 (by omega) (by omega) S.1) (ok_k X Y hA KS KR) rfl kl_So_By_field ks_By_field kx_By_field ki_By_field ini_By ⟨rfl, rfl⟩ hd_By_field ⟨Nat.le_of_ble_eq_true rfl, Nat.le_of_ble_eq_true rfl⟩ rfl (Nat.le_of_ble_eq_true rfl) d_So_judgeCred_16 ⟨Nat.le_of_ble_eq_true rfl, Nat.le_of_ble_eq_true rfl⟩) X Y hA (fun z103 H locs Y p103 => ?_)
  obtain ⟨l103, u103⟩ := p103
  refine lv_istore_n (lv' := [(3, .int (iI z103)), (2, .int (iI z102)), (0, .ref h), (1, .ref a1)]) X.1 X.2.1 d_So_judgeCred_19 rfl hl (by decide) rfl (fun ls hl => ?_)
  refine lv_iload_n X.1 X.2.1 d_So_judgeCred_20 rfl (lv_at hl 1 rfl) ?_
  refine z_if_eq (tgt := 42) X.1 X.2.1 d_So_judgeCred_21 (by decide) ⟨by omega, by omega⟩ (fun h104 => ?_) (fun h104 => ?_)
  · refine lv_bipush (v := iI (-60)) X.1 X.2.1 d_So_judgeCred_42 (by decide) ?_
    exact c_reti hQQ X Y hr hlk ⟨rfl, S, (-60), rfl, ⟨by omega, by omega⟩⟩ d_So_judgeCred_44
  · refine lv_aload_n X.1 X.2.1 d_So_judgeCred_24 rfl (lv_at hl 3 rfl) ?_
    refine lv_iload_n X.1 X.2.1 d_So_judgeCred_25 rfl (lv_at hl 0 rfl) ?_
    refine lv_iconst (v := iI 0) X.1 X.2.1 d_So_judgeCred_26 (by decide) ?_
    refine t_ui (t_runV (As := [.int (iI z103), .int (iI 0)]) (rest := []) (n := 2) X Y S k1 hml hl.1 (c_By_element l D E T κ L f H.size a1 n1 k1 (by omega) z103 (by omega) (by omega) 0 (by omega) (by omega) S.1) (ok_k X Y hA KS KR) rfl kl_So_By_element ks_By_element kx_By_element ki_By_element ini_By ⟨rfl, rfl⟩ hd_By_element ⟨Nat.le_of_ble_eq_true rfl, Nat.le_of_ble_eq_true rfl⟩ rfl (Nat.le_of_ble_eq_true rfl) d_So_judgeCred_27 ⟨Nat.le_of_ble_eq_true rfl, Nat.le_of_ble_eq_true rfl⟩) X Y hA (fun z105 H locs Y p105 => ?_)
    obtain ⟨l105, u105⟩ := p105
    refine z_if_lt (tgt := 42) X.1 X.2.1 d_So_judgeCred_30 (by decide) ⟨by omega, by omega⟩ (fun h106 => ?_) (fun h106 => ?_)
    · refine lv_bipush (v := iI (-60)) X.1 X.2.1 d_So_judgeCred_42 (by decide) ?_
      exact c_reti hQQ X Y hr hlk ⟨rfl, S, (-60), rfl, ⟨by omega, by omega⟩⟩ d_So_judgeCred_44
    · refine lv_aload_n X.1 X.2.1 d_So_judgeCred_33 rfl (lv_at hl 3 rfl) ?_
      refine lv_iload_n X.1 X.2.1 d_So_judgeCred_34 rfl (lv_at hl 0 rfl) ?_
      refine lv_iconst (v := iI 1) X.1 X.2.1 d_So_judgeCred_35 (by decide) ?_
      refine t_ui (t_runV (As := [.int (iI z103), .int (iI 1)]) (rest := []) (n := 2) X Y S k1 hml hl.1 (c_By_element l D E T κ L f H.size a1 n1 k1 (by omega) z103 (by omega) (by omega) 1 (by omega) (by omega) S.1) (ok_k X Y hA KS KR) rfl kl_So_By_element ks_By_element kx_By_element ki_By_element ini_By ⟨rfl, rfl⟩ hd_By_element ⟨Nat.le_of_ble_eq_true rfl, Nat.le_of_ble_eq_true rfl⟩ rfl (Nat.le_of_ble_eq_true rfl) d_So_judgeCred_36 ⟨Nat.le_of_ble_eq_true rfl, Nat.le_of_ble_eq_true rfl⟩) X Y hA (fun z107 H locs Y p107 => ?_)
      obtain ⟨l107, u107⟩ := p107
      refine z_if_lt (tgt := 45) X.1 X.2.1 d_So_judgeCred_39 (by decide) ⟨by omega, by omega⟩ (fun h108 => ?_) (fun h108 => ?_)
      · refine lv_aload_n X.1 X.2.1 d_So_judgeCred_45 rfl (lv_at hl 3 rfl) ?_
        refine lv_sipush (v := iI 374) X.1 X.2.1 d_So_judgeCred_46 (by decide) ?_
        refine lv_bipush (v := iI 22) X.1 X.2.1 d_So_judgeCred_49 (by decide) ?_
        refine t_ui (x_runS (As := [.ref a1, .int (iI 374), .int (iI 22)]) (rest := []) (n := 3) X hml hl.1 (c_So_judgeHead l D E T κ L f H.size a1 n1 k1 (by omega) 374 (by omega) (by omega) 22 (by omega) (by omega) S.1) (ok_k X Y hA KS KR) kl_So_So_judgeHead ks_So_judgeHead ki_So_judgeHead ini_So ⟨rfl, rfl⟩ hd_So_judgeHead.2 ⟨Nat.le_of_ble_eq_true rfl, Nat.le_of_ble_eq_true rfl⟩ rfl (Nat.le_of_ble_eq_true rfl) d_So_judgeCred_51 ⟨Nat.le_of_ble_eq_true rfl, Nat.le_of_ble_eq_true rfl⟩) X Y hA (fun z109 H locs Y p109 => ?_)
        obtain ⟨l109, u109⟩ := p109
        refine lv_istore (lv' := [(4, .int (iI z109)), (3, .int (iI z103)), (2, .int (iI z102)), (0, .ref h), (1, .ref a1)]) X.1 X.2.1 d_So_judgeCred_54 hl (by decide) rfl (fun ls hl => ?_)
        refine lv_iload X.1 X.2.1 d_So_judgeCred_56 (lv_at hl 0 rfl) ?_
        refine z_if_ge (tgt := 64) X.1 X.2.1 d_So_judgeCred_58 (by decide) ⟨by omega, by omega⟩ (fun h110 => ?_) (fun h110 => ?_)
        · refine lv_aload_n X.1 X.2.1 d_So_judgeCred_64 rfl (lv_at hl 3 rfl) ?_
          refine t_getr (ci := 9) X Y S k0 rfl i_So 0 (by decide) rfl (k1 := 21) (k2 := 0) rfl rfl lk_So_35 (fun _ h9 => h9) d_So_judgeCred_65 (fun b111 e111 k111 => ?_)
          refine t_getr (ci := 11) X Y S k111 rfl i_Va 1 (by decide) rfl (k1 := 13) (k2 := 6144) rfl rfl lk_So_91 (fun _ h9 => h9) d_So_judgeCred_68 (fun b112 e112 k112 => ?_)
          refine lv_astore (lv' := [(5, .ref b112), (4, .int (iI z109)), (3, .int (iI z103)), (2, .int (iI z102)), (0, .ref h), (1, .ref a1)]) X.1 X.2.1 d_So_judgeCred_71 hl (by decide) rfl (fun ls hl => ?_)
          refine lv_aload_n X.1 X.2.1 d_So_judgeCred_73 rfl (lv_at hl 4 rfl) ?_
          refine t_get0 (ci := 9) X Y S k0 rfl i_So 0 (by decide) rfl lk_So_35 (fun _ h9 => h9) d_So_judgeCred_74 e111 ?_
          refine lv_aload_n X.1 X.2.1 d_So_judgeCred_77 rfl (lv_at hl 5 rfl) ?_
          refine lv_aload_n X.1 X.2.1 d_So_judgeCred_78 rfl (lv_at hl 5 rfl) ?_
          refine lv_iconst (v := iI 0) X.1 X.2.1 d_So_judgeCred_79 (by decide) ?_
          refine lv_iconst (v := iI 3) X.1 X.2.1 d_So_judgeCred_80 (by decide) ?_
          refine t_ui (t_runV (As := [.int (iI 0), .int (iI 3)]) (rest := [.ref a1, .ref b111]) (n := 2) X Y S k1 hml hl.1 (c_By_field l D E T κ L f H.size a1 n1 k1 (by omega) 0 (by omega) (by omega) 3 (by omega) (by omega) S.1) (ok_k X Y hA KS KR) rfl kl_So_By_field ks_By_field kx_By_field ki_By_field ini_By ⟨rfl, rfl⟩ hd_By_field ⟨Nat.le_of_ble_eq_true rfl, Nat.le_of_ble_eq_true rfl⟩ rfl (Nat.le_of_ble_eq_true rfl) d_So_judgeCred_81 ⟨Nat.le_of_ble_eq_true rfl, Nat.le_of_ble_eq_true rfl⟩) X Y hA (fun z113 H locs Y p113 => ?_)
          obtain ⟨l113, u113⟩ := p113
          refine lv_aload_n X.1 X.2.1 d_So_judgeCred_84 rfl (lv_at hl 4 rfl) ?_
          refine t_getk (ci := 9) X Y S k0 rfl i_So 3 (by decide) rfl lk_So_19 (fun _ h9 => h9) d_So_judgeCred_85 (fun b114 n114 e114 k114 x114 => ?_)
          refine lv_bipush (v := iI 14) X.1 X.2.1 d_So_judgeCred_88 (by decide) ?_
          refine lv_aload X.1 X.2.1 d_So_judgeCred_90 (lv_at hl 0 rfl) ?_
          refine t_ni (t_runV (As := [.ref a1, .int (iI z113), .ref b114, .int (iI 14), .ref b112]) (rest := []) (n := 5) X Y S k111 hml hl.1 (c_Va_opens l D E T κ L f H.size b111 k111 a1 n1 k1 (by omega) z113 (by omega) (by omega) b114 n114 k114 (by omega) 14 (by omega) (by omega) b112 6144 k112 (by omega) S.1) (ok_k X Y hA KS KR) rfl kl_So_Va_opens ks_Va_opens kx_Va_opens ki_Va_opens ini_Va ⟨rfl, rfl⟩ hd_Va_opens ⟨Nat.le_of_ble_eq_true rfl, Nat.le_of_ble_eq_true rfl⟩ rfl (Nat.le_of_ble_eq_true rfl) d_So_judgeCred_92 ⟨Nat.le_of_ble_eq_true rfl, Nat.le_of_ble_eq_true rfl⟩) X Y hA S (by decide) (fun z115 f115 H locs Y S s115 p115 => ?_)
          obtain ⟨l115, u115⟩ := p115
          refine z_if_ne (tgt := 101) X.1 X.2.1 d_So_judgeCred_95 (by decide) ⟨by omega, by omega⟩ (fun h116 => ?_) (fun h116 => ?_)
          · refine lv_aload X.1 X.2.1 d_So_judgeCred_101 (lv_at hl 0 rfl) ?_
            refine lv_sipush (v := iI 381) X.1 X.2.1 d_So_judgeCred_103 (by decide) ?_
            refine lv_iconst (v := iI 0) X.1 X.2.1 d_So_judgeCred_106 (by decide) ?_
            refine lv_aload X.1 X.2.1 d_So_judgeCred_107 (lv_at hl 0 rfl) ?_
            refine t_gets (ci := 3) X Y S k112 rfl i_By 1 (by decide) rfl lk_So_141 (fun _ h9 => h9) d_So_judgeCred_109 (fun z117 e117 l117 u117 => ?_)
            refine t_ui (t_runV (As := [.int (iI 381), .int (iI 0), .int (iI z117)]) (rest := []) (n := 3) X Y S k112 hml hl.1 (c_By_isA l D E T κ L f115 H.size b112 6144 k112 (by omega) 381 (by omega) (by omega) 0 (by omega) (by omega) z117 (by omega) (by omega) S.1) (ok_k X Y hA KS KR) rfl kl_So_By_isA ks_By_isA kx_By_isA ki_By_isA ini_By ⟨rfl, rfl⟩ hd_By_isA ⟨Nat.le_of_ble_eq_true rfl, Nat.le_of_ble_eq_true rfl⟩ rfl (Nat.le_of_ble_eq_true rfl) d_So_judgeCred_112 ⟨Nat.le_of_ble_eq_true rfl, Nat.le_of_ble_eq_true rfl⟩) X Y hA (fun z118 H locs Y p118 => ?_)
            obtain ⟨l118, u118⟩ := p118
            refine z_if_eq (tgt := 133) X.1 X.2.1 d_So_judgeCred_115 (by decide) ⟨by omega, by omega⟩ (fun h119 => ?_) (fun h119 => ?_)
            · refine lv_bipush (v := iI (-60)) X.1 X.2.1 d_So_judgeCred_133 (by decide) ?_
              exact c_reti hQQ X Y hr hlk ⟨rfl, S, (-60), rfl, ⟨by omega, by omega⟩⟩ d_So_judgeCred_135
            · refine lv_aload X.1 X.2.1 d_So_judgeCred_118 (lv_at hl 0 rfl) ?_
              refine lv_aload X.1 X.2.1 d_So_judgeCred_120 (lv_at hl 0 rfl) ?_
              refine lv_iconst (v := iI 0) X.1 X.2.1 d_So_judgeCred_122 (by decide) ?_
              refine lv_iconst (v := iI 0) X.1 X.2.1 d_So_judgeCred_123 (by decide) ?_
              refine t_ui (t_runV (As := [.int (iI 0), .int (iI 0)]) (rest := [.ref b112]) (n := 2) X Y S k112 hml hl.1 (c_By_field l D E T κ L f115 H.size b112 6144 k112 (by omega) 0 (by omega) (by omega) 0 (by omega) (by omega) S.1) (ok_k X Y hA KS KR) rfl kl_So_By_field ks_By_field kx_By_field ki_By_field ini_By ⟨rfl, rfl⟩ hd_By_field ⟨Nat.le_of_ble_eq_true rfl, Nat.le_of_ble_eq_true rfl⟩ rfl (Nat.le_of_ble_eq_true rfl) d_So_judgeCred_124 ⟨Nat.le_of_ble_eq_true rfl, Nat.le_of_ble_eq_true rfl⟩) X Y hA (fun z120 H locs Y p120 => ?_)
              obtain ⟨l120, u120⟩ := p120
              refine t_ui (x_runS (As := [.ref b112, .int (iI z120)]) (rest := []) (n := 2) X hml hl.1 (c_So_isWholeInfo l D E T κ L f115 H.size b112 6144 k112 (by omega) z120 (by omega) (by omega) S.1) (ok_k X Y hA KS KR) kl_So_So_isWholeInfo ks_So_isWholeInfo ki_So_isWholeInfo ini_So ⟨rfl, rfl⟩ hd_So_isWholeInfo.2 ⟨Nat.le_of_ble_eq_true rfl, Nat.le_of_ble_eq_true rfl⟩ rfl (Nat.le_of_ble_eq_true rfl) d_So_judgeCred_127 ⟨Nat.le_of_ble_eq_true rfl, Nat.le_of_ble_eq_true rfl⟩) X Y hA (fun z121 H locs Y p121 => ?_)
              obtain ⟨l121, u121⟩ := p121
              refine z_if_ne (tgt := 136) X.1 X.2.1 d_So_judgeCred_130 (by decide) ⟨by omega, by omega⟩ (fun h122 => ?_) (fun h122 => ?_)
              · refine lv_aload X.1 X.2.1 d_So_judgeCred_136 (lv_at hl 0 rfl) ?_
                refine lv_aload X.1 X.2.1 d_So_judgeCred_138 (lv_at hl 0 rfl) ?_
                refine lv_iconst (v := iI 0) X.1 X.2.1 d_So_judgeCred_140 (by decide) ?_
                refine lv_iconst (v := iI 2) X.1 X.2.1 d_So_judgeCred_141 (by decide) ?_
                refine t_ui (t_runV (As := [.int (iI 0), .int (iI 2)]) (rest := [.ref b112]) (n := 2) X Y S k112 hml hl.1 (c_By_field l D E T κ L f115 H.size b112 6144 k112 (by omega) 0 (by omega) (by omega) 2 (by omega) (by omega) S.1) (ok_k X Y hA KS KR) rfl kl_So_By_field ks_By_field kx_By_field ki_By_field ini_By ⟨rfl, rfl⟩ hd_By_field ⟨Nat.le_of_ble_eq_true rfl, Nat.le_of_ble_eq_true rfl⟩ rfl (Nat.le_of_ble_eq_true rfl) d_So_judgeCred_142 ⟨Nat.le_of_ble_eq_true rfl, Nat.le_of_ble_eq_true rfl⟩) X Y hA (fun z123 H locs Y p123 => ?_)
                obtain ⟨l123, u123⟩ := p123
                refine t_ui (t_runV (As := [.int (iI z123)]) (rest := []) (n := 1) X Y S k112 hml hl.1 (c_By_timeAt l D E T κ L f115 H.size b112 6144 k112 (by omega) z123 (by omega) (by omega) S.1) (ok_k X Y hA KS KR) rfl kl_So_By_timeAt ks_By_timeAt kx_By_timeAt ki_By_timeAt ini_By ⟨rfl, rfl⟩ hd_By_timeAt ⟨Nat.le_of_ble_eq_true rfl, Nat.le_of_ble_eq_true rfl⟩ rfl (Nat.le_of_ble_eq_true rfl) d_So_judgeCred_145 ⟨Nat.le_of_ble_eq_true rfl, Nat.le_of_ble_eq_true rfl⟩) X Y hA (fun z124 H locs Y p124 => ?_)
                obtain ⟨l124, u124⟩ := p124
                refine lv_istore (lv' := [(6, .int (iI z124)), (5, .ref b112), (4, .int (iI z109)), (3, .int (iI z103)), (2, .int (iI z102)), (0, .ref h), (1, .ref a1)]) X.1 X.2.1 d_So_judgeCred_148 hl (by decide) rfl (fun ls hl => ?_)
                refine lv_iload X.1 X.2.1 d_So_judgeCred_150 (lv_at hl 0 rfl) ?_
                refine z_if_lt (tgt := 174) X.1 X.2.1 d_So_judgeCred_152 (by decide) ⟨by omega, by omega⟩ (fun h125 => ?_) (fun h125 => ?_)
                · refine lv_bipush (v := iI (-37)) X.1 X.2.1 d_So_judgeCred_174 (by decide) ?_
                  refine lv_goto (tgt := 180) X.1 X.2.1 d_So_judgeCred_176 (by decide) ?_
                  exact c_reti hQQ X Y hr hlk ⟨rfl, S, (-37), rfl, ⟨by omega, by omega⟩⟩ d_So_judgeCred_180
                · refine lv_iload X.1 X.2.1 d_So_judgeCred_155 (lv_at hl 0 rfl) ?_
                  refine lv_aload_n X.1 X.2.1 d_So_judgeCred_157 rfl (lv_at hl 5 rfl) ?_
                  refine t_get0 (ci := 9) X Y S k0 rfl i_So 0 (by decide) rfl lk_So_35 (fun _ h9 => h9) d_So_judgeCred_158 ((gF_same (s115.2.2.2 _ ⟨(t_obj S.1 k0).1, nM_of k0 (by decide), by simp⟩).1 0).trans e111) ?_
                  refine t_geti (ci := 11) X Y S k111 rfl i_Va 0 (by decide) rfl lk_So_241 (fun _ h9 => h9) d_So_judgeCred_161 (fun z126 e126 l126 u126 => ?_)
                  refine lv_isub X.1 X.2.1 d_So_judgeCred_164 ?_
                  refine t_u (fun z127 l127 u127 => ?_)
                  refine va_mabs X.1 X.2.1 (hml.trans hl.1.symm) X.2.2.2.1 (X.2.2.1 _ kl_So_mabs) (X.2.2.1 _ ks_mabs) (X.2.2.1 _ ini_Math) (X.2.2.1 _ ki_mabs) (Nat.le_of_ble_eq_true rfl) (Nat.le_of_ble_eq_true rfl) (Nat.le_of_ble_eq_true rfl) (Nat.le_of_ble_eq_true rfl) d_So_judgeCred_165 ?_
                  refine t_u (fun z128 l128 u128 => ?_)
                  refine lv_sipush (v := iI 300) X.1 X.2.1 d_So_judgeCred_168 (by decide) ?_
                  refine z_icmp_le (tgt := 179) X.1 X.2.1 d_So_judgeCred_171 (by decide) ⟨by omega, by omega⟩ ⟨by omega, by omega⟩ (fun h129 => ?_) (fun h129 => ?_)
                  · refine lv_iconst (v := iI 0) X.1 X.2.1 d_So_judgeCred_179 (by decide) ?_
                    exact c_reti hQQ X Y hr hlk ⟨rfl, S, 0, rfl, ⟨by omega, by omega⟩⟩ d_So_judgeCred_180
                  · refine lv_bipush (v := iI (-37)) X.1 X.2.1 d_So_judgeCred_174 (by decide) ?_
                    refine lv_goto (tgt := 180) X.1 X.2.1 d_So_judgeCred_176 (by decide) ?_
                    exact c_reti hQQ X Y hr hlk ⟨rfl, S, (-37), rfl, ⟨by omega, by omega⟩⟩ d_So_judgeCred_180
              · refine lv_bipush (v := iI (-60)) X.1 X.2.1 d_So_judgeCred_133 (by decide) ?_
                exact c_reti hQQ X Y hr hlk ⟨rfl, S, (-60), rfl, ⟨by omega, by omega⟩⟩ d_So_judgeCred_135
          · refine lv_bipush (v := iI (-31)) X.1 X.2.1 d_So_judgeCred_98 (by decide) ?_
            exact c_reti hQQ X Y hr hlk ⟨rfl, S, (-31), rfl, ⟨by omega, by omega⟩⟩ d_So_judgeCred_100
        · refine lv_iload X.1 X.2.1 d_So_judgeCred_61 (lv_at hl 0 rfl) ?_
          exact c_reti hQQ X Y hr hlk ⟨rfl, S, z109, rfl, ⟨by omega, by omega⟩⟩ d_So_judgeCred_63
      · refine lv_bipush (v := iI (-60)) X.1 X.2.1 d_So_judgeCred_42 (by decide) ?_
        exact c_reti hQQ X Y hr hlk ⟨rfl, S, (-60), rfl, ⟨by omega, by omega⟩⟩ d_So_judgeCred_44
