set_option maxHeartbeats 4000000 in
set_option maxRecDepth 100000 in
theorem r_M_forService (l : Launch) (D : mD) (E : mE) (h : Nat) (q : Nat → Nat) (sz : Nat) (I : Nat → Int32) (J : Nat → Int64) (B : Nat → Nat → Int32) (G : Nat → Nat → Int64) (hT : rT I B) (f_P1 : pG1 I) (f_P2 : pG2 (B 37) (B 38)) : Met l y_M_forService (k_M_forService :: lw_tg) (mR 45 2042) (va_Pc [.ref h] (mPre D E h q (I, J, B, G) sz)) (va_Qi (rPi [39, 40, 54, 76] [37, 38, 53] I B (fun (z : Int) (u : mS) => 0 ≤ z ∧ z ≤ 60 ∧ (∃ V2 : Int, u.1 76 = iI V2 ∧ (z ≠ 0 ∨ 0 ≤ V2) ∧ (-1) ≤ V2 ∧ V2 ≤ 11) ∧ pG1 u.1 ∧ pG2 (u.2.2.1 37) (u.2.2.1 38) ∧ thF [11] (B 37) (B 38) (u.2.2.1 37) (u.2.2.1 38))) (mPost D E h q (mA E h q sz)) (mA E h q sz)) 0 0 (mA E h q sz) := by
  refine m_enter (by decide) rfl (Nat.le_of_ble_eq_true rfl) (fun p e s m below meth c ls AV QQ H locs hQQ X Y hZ hA hr hlk hml hl => ?_)
  have Y : mH D E (mA E h q sz) s.heap h q I J B G H locs := Y
  have S : rS [39, 40, 54, 76] [37, 38, 53] I B I B := rS_rf hT
  have hl : lv_has ls 1 [(0, .ref h)] := hl
  refine lv_aload_n X.1 X.2.1 d_M_forService_0 rfl (lv_at hl 0 rfl) ?_
  refine lv_aload_n X.1 X.2.1 d_M_forService_1 rfl (lv_at hl 0 rfl) ?_
  refine lv_aload_n X.1 X.2.1 d_M_forService_2 rfl (lv_at hl 0 rfl) ?_
  refine lv_iconst (v := iI 1) X.1 X.2.1 d_M_forService_3 (by decide) ?_
  refine lv_iconst (v := iI 3) X.1 X.2.1 d_M_forService_4 (by decide) ?_
  refine r_ni (m_run (As := [.int (iI 1), .int (iI 3)]) (rest := [.ref h, .ref h]) (n := 2) X Y hZ hA hml hl.1 (r_M_a l D E h q H.size I J B G 1 (by omega) (by omega) 3 (by omega) (by omega) S.1) kl_M_a ks_M_a kx_M_a ki_M_a ini_M hd_M_a ⟨Nat.le_of_ble_eq_true rfl, Nat.le_of_ble_eq_true rfl⟩ rfl (Nat.le_of_ble_eq_true rfl) d_M_forService_5 ⟨Nat.le_refl _, Nat.le_refl _⟩) X Y hA S (by decide) (by decide) (fun z101 u H locs Y S s101 p101 => ?_)
  obtain ⟨I101, J101, B101, G101⟩ := u
  dsimp only at Y S s101 p101
  have i101 : I = I101 := (funext (fun j => s101.2.1 j (by simp))).symm
  subst i101
  have b101 : B = B101 := (funext (fun j => s101.2.2 j (by simp))).symm
  subst b101
  obtain ⟨l101, u101, x101⟩ := p101
  refine lv_aload_n X.1 X.2.1 d_M_forService_8 rfl (lv_at hl 0 rfl) ?_
  refine lv_iconst (v := iI 1) X.1 X.2.1 d_M_forService_9 (by decide) ?_
  refine lv_iconst (v := iI 3) X.1 X.2.1 d_M_forService_10 (by decide) ?_
  refine r_ni (m_run (As := [.int (iI 1), .int (iI 3)]) (rest := [.int (iI z101), .ref h, .ref h]) (n := 2) X Y hZ hA hml hl.1 (r_M_b l D E h q H.size I J101 B G101 1 (by omega) (by omega) 3 (by omega) (by omega) S.1) kl_M_b ks_M_b kx_M_b ki_M_b ini_M hd_M_b ⟨Nat.le_of_ble_eq_true rfl, Nat.le_of_ble_eq_true rfl⟩ rfl (Nat.le_of_ble_eq_true rfl) d_M_forService_11 ⟨Nat.le_refl _, Nat.le_refl _⟩) X Y hA S (by decide) (by decide) (fun z102 u H locs Y S s102 p102 => ?_)
  obtain ⟨I102, J102, B102, G102⟩ := u
  dsimp only at Y S s102 p102
  have i102 : I = I102 := (funext (fun j => s102.2.1 j (by simp))).symm
  subst i102
  have b102 : B = B102 := (funext (fun j => s102.2.2 j (by simp))).symm
  subst b102
  obtain ⟨l102, u102, x102⟩ := p102
  have p103 : pr z101 z102 := by rw [x101, x102]; exact (pG2_cg rfl rfl (pG2_cg rfl rfl f_P2)) (16 * 1 + 3 : Int).toNat (by omega)
  unfold pr at p103
  refine r_ni (m_run (As := [.int (iI z101), .int (iI z102)]) (rest := [.ref h]) (n := 2) X Y hZ hA hml hl.1 (r_M_principalAt l D E h q H.size I J102 B G102 z101 (by omega) (by omega) z102 (by omega) (by omega) S.1 (pG1_cg rfl rfl (pG1_cg rfl rfl f_P1)) (pG2_cg rfl rfl (pG2_cg rfl rfl f_P2)) (by omega) (by omega)) kl_M_principalAt ks_M_principalAt kx_M_principalAt ki_M_principalAt ini_M hd_M_principalAt ⟨Nat.le_of_ble_eq_true rfl, Nat.le_of_ble_eq_true rfl⟩ rfl (Nat.le_of_ble_eq_true rfl) d_M_forService_14 ⟨Nat.le_refl _, Nat.le_refl _⟩) X Y hA S (by decide) (by decide) (fun z104 u H locs Y S s104 p104 => ?_)
  obtain ⟨I104, J104, B104, G104⟩ := u
  dsimp only at Y S s104 p104
  obtain ⟨l104, u104, g104_P1, g104_P2, g104_TF⟩ := p104
  refine r_puti (k := 76) X Y S (by decide) lk_service rfl rfl (t_M_ok 76 (by decide)) rfl rfl (sf_service _ _ _ _) (Nat.le_of_ble_eq_true rfl) rfl (show ((-1) : Int) ≤ z104 by omega) (show z104 ≤ (11 : Int) by omega) ⟨by omega, by omega⟩ (by decide) d_M_forService_17 (fun I105 H locs Y S w105 => ?_)
  refine lv_aload_n X.1 X.2.1 d_M_forService_20 rfl (lv_at hl 0 rfl) ?_
  refine r_get0 X Y (by decide) lk_service (gf_service _ _ _) rfl w105.1 d_M_forService_21 ?_
  refine z_if_ge (tgt := 30) X.1 X.2.1 d_M_forService_24 (by decide) ⟨by omega, by omega⟩ (fun h106 => ?_) (fun h106 => ?_)
  · refine lv_aload_n X.1 X.2.1 d_M_forService_30 rfl (lv_at hl 0 rfl) ?_
    refine lv_aload_n X.1 X.2.1 d_M_forService_31 rfl (lv_at hl 0 rfl) ?_
    refine r_get0 X Y (by decide) lk_service (gf_service _ _ _) rfl w105.1 d_M_forService_32 ?_
    refine lv_bipush (v := iI 32) X.1 X.2.1 d_M_forService_35 (by decide) ?_
    refine r_ni (m_run (As := [.int (iI z104), .int (iI 32)]) (rest := []) (n := 2) X Y hZ hA hml hl.1 (r_M_says l D E h q H.size I105 J104 B104 G104 z104 (by omega) (by omega) 32 (by omega) (by omega) S.1) kl_M_says ks_M_says kx_M_says ki_M_says ini_M hd_M_says ⟨Nat.le_of_ble_eq_true rfl, Nat.le_of_ble_eq_true rfl⟩ rfl (Nat.le_of_ble_eq_true rfl) d_M_forService_37 ⟨Nat.le_refl _, Nat.le_refl _⟩) X Y hA S (by decide) (by decide) (fun z107 u H locs Y S s107 p107 => ?_)
    obtain ⟨I107, J107, B107, G107⟩ := u
    dsimp only at Y S s107 p107
    have i107 : I105 = I107 := (funext (fun j => s107.2.1 j (by simp))).symm
    subst i107
    have b107 : B104 = B107 := (funext (fun j => s107.2.2 j (by simp))).symm
    subst b107
    obtain ⟨l107, u107⟩ := p107
    refine z_if_ne (tgt := 56) X.1 X.2.1 d_M_forService_40 (by decide) ⟨by omega, by omega⟩ (fun h108 => ?_) (fun h108 => ?_)
    · refine lv_bipush (v := iI 12) X.1 X.2.1 d_M_forService_56 (by decide) ?_
      exact m_reti hQQ X Y hr hlk ⟨S, 12, rfl, ⟨by omega, by omega, ⟨z104, w105.1, by omega, by omega, by omega⟩, (pG1_cg rfl rfl (pG1_cg (w105.2 39 (by decide)) (w105.2 40 (by decide)) g104_P1)), (pG2_cg rfl rfl (pG2_cg rfl rfl g104_P2)), (thF_cg rfl rfl (thF_cg rfl rfl (thF_tr (thF_cg rfl rfl (thF_cg rfl rfl thF_rf)) g104_TF (by decide))))⟩⟩ d_M_forService_58
    · refine lv_aload_n X.1 X.2.1 d_M_forService_43 rfl (lv_at hl 0 rfl) ?_
      refine lv_aload_n X.1 X.2.1 d_M_forService_44 rfl (lv_at hl 0 rfl) ?_
      refine r_get0 X Y (by decide) lk_service (gf_service _ _ _) rfl w105.1 d_M_forService_45 ?_
      refine lv_bipush (v := iI 16) X.1 X.2.1 d_M_forService_48 (by decide) ?_
      refine r_ni (m_run (As := [.int (iI z104), .int (iI 16)]) (rest := []) (n := 2) X Y hZ hA hml hl.1 (r_M_says l D E h q H.size I105 J107 B104 G107 z104 (by omega) (by omega) 16 (by omega) (by omega) S.1) kl_M_says ks_M_says kx_M_says ki_M_says ini_M hd_M_says ⟨Nat.le_of_ble_eq_true rfl, Nat.le_of_ble_eq_true rfl⟩ rfl (Nat.le_of_ble_eq_true rfl) d_M_forService_50 ⟨Nat.le_refl _, Nat.le_refl _⟩) X Y hA S (by decide) (by decide) (fun z109 u H locs Y S s109 p109 => ?_)
      obtain ⟨I109, J109, B109, G109⟩ := u
      dsimp only at Y S s109 p109
      have i109 : I105 = I109 := (funext (fun j => s109.2.1 j (by simp))).symm
      subst i109
      have b109 : B104 = B109 := (funext (fun j => s109.2.2 j (by simp))).symm
      subst b109
      obtain ⟨l109, u109⟩ := p109
      refine z_if_eq (tgt := 59) X.1 X.2.1 d_M_forService_53 (by decide) ⟨by omega, by omega⟩ (fun h110 => ?_) (fun h110 => ?_)
      · refine lv_aload_n X.1 X.2.1 d_M_forService_59 rfl (lv_at hl 0 rfl) ?_
        refine lv_aload_n X.1 X.2.1 d_M_forService_60 rfl (lv_at hl 0 rfl) ?_
        refine r_get0 X Y (by decide) lk_service (gf_service _ _ _) rfl w105.1 d_M_forService_61 ?_
        refine r_ni (m_run (As := [.int (iI z104)]) (rest := []) (n := 1) X Y hZ hA hml hl.1 (r_M_isExpired l D E h q H.size I105 J109 B104 G109 z104 (by omega) (by omega) S.1) kl_M_isExpired ks_M_isExpired kx_M_isExpired ki_M_isExpired ini_M hd_M_isExpired ⟨Nat.le_of_ble_eq_true rfl, Nat.le_of_ble_eq_true rfl⟩ rfl (Nat.le_of_ble_eq_true rfl) d_M_forService_64 ⟨Nat.le_refl _, Nat.le_refl _⟩) X Y hA S (by decide) (by decide) (fun z111 u H locs Y S s111 p111 => ?_)
        obtain ⟨I111, J111, B111, G111⟩ := u
        dsimp only at Y S s111 p111
        have i111 : I105 = I111 := (funext (fun j => s111.2.1 j (by simp))).symm
        subst i111
        have b111 : B104 = B111 := (funext (fun j => s111.2.2 j (by simp))).symm
        subst b111
        obtain ⟨l111, u111⟩ := p111
        refine z_if_eq (tgt := 74) X.1 X.2.1 d_M_forService_67 (by decide) ⟨by omega, by omega⟩ (fun h112 => ?_) (fun h112 => ?_)
        · refine lv_iconst (v := iI 0) X.1 X.2.1 d_M_forService_74 (by decide) ?_
          exact m_reti hQQ X Y hr hlk ⟨S, 0, rfl, ⟨by omega, by omega, ⟨z104, w105.1, by omega, by omega, by omega⟩, (pG1_cg rfl rfl (pG1_cg rfl rfl (pG1_cg rfl rfl (pG1_cg (w105.2 39 (by decide)) (w105.2 40 (by decide)) g104_P1)))), (pG2_cg rfl rfl (pG2_cg rfl rfl (pG2_cg rfl rfl (pG2_cg rfl rfl g104_P2)))), (thF_cg rfl rfl (thF_cg rfl rfl (thF_cg rfl rfl (thF_cg rfl rfl (thF_tr (thF_cg rfl rfl (thF_cg rfl rfl thF_rf)) g104_TF (by decide))))))⟩⟩ d_M_forService_75
        · refine lv_iconst (v := iI 2) X.1 X.2.1 d_M_forService_70 (by decide) ?_
          refine lv_goto (tgt := 75) X.1 X.2.1 d_M_forService_71 (by decide) ?_
          exact m_reti hQQ X Y hr hlk ⟨S, 2, rfl, ⟨by omega, by omega, ⟨z104, w105.1, by omega, by omega, by omega⟩, (pG1_cg rfl rfl (pG1_cg rfl rfl (pG1_cg rfl rfl (pG1_cg (w105.2 39 (by decide)) (w105.2 40 (by decide)) g104_P1)))), (pG2_cg rfl rfl (pG2_cg rfl rfl (pG2_cg rfl rfl (pG2_cg rfl rfl g104_P2)))), (thF_cg rfl rfl (thF_cg rfl rfl (thF_cg rfl rfl (thF_cg rfl rfl (thF_tr (thF_cg rfl rfl (thF_cg rfl rfl thF_rf)) g104_TF (by decide))))))⟩⟩ d_M_forService_75
      · refine lv_bipush (v := iI 12) X.1 X.2.1 d_M_forService_56 (by decide) ?_
        exact m_reti hQQ X Y hr hlk ⟨S, 12, rfl, ⟨by omega, by omega, ⟨z104, w105.1, by omega, by omega, by omega⟩, (pG1_cg rfl rfl (pG1_cg rfl rfl (pG1_cg (w105.2 39 (by decide)) (w105.2 40 (by decide)) g104_P1))), (pG2_cg rfl rfl (pG2_cg rfl rfl (pG2_cg rfl rfl g104_P2))), (thF_cg rfl rfl (thF_cg rfl rfl (thF_cg rfl rfl (thF_tr (thF_cg rfl rfl (thF_cg rfl rfl thF_rf)) g104_TF (by decide)))))⟩⟩ d_M_forService_58
  · refine lv_bipush (v := iI 7) X.1 X.2.1 d_M_forService_27 (by decide) ?_
    exact m_reti hQQ X Y hr hlk ⟨S, 7, rfl, ⟨by omega, by omega, ⟨z104, w105.1, by omega, by omega, by omega⟩, (pG1_cg (w105.2 39 (by decide)) (w105.2 40 (by decide)) g104_P1), (pG2_cg rfl rfl g104_P2), (thF_cg rfl rfl (thF_tr (thF_cg rfl rfl (thF_cg rfl rfl thF_rf)) g104_TF (by decide)))⟩⟩ d_M_forService_29
set_option maxHeartbeats 4000000 in
set_option maxRecDepth 100000 in
theorem r_M_opensTicket (l : Launch) (D : mD) (E : mE) (h : Nat) (q : Nat → Nat) (sz : Nat) (I : Nat → Int32) (J : Nat → Int64) (B : Nat → Nat → Int32) (G : Nat → Nat → Int64) (a1 : Int) (l_a1 : 0 ≤ a1) (u_a1 : a1 ≤ 11) (a2 : Int) (l_a2 : 0 ≤ a2) (u_a2 : a2 ≤ 1) (hT : rT I B) (f_P1 : pG1 I) (f_P2 : pG2 (B 37) (B 38)) : Met l y_M_opensTicket (k_M_opensTicket :: lw_tg) (mR 45 2045) (va_Pc [.ref h, .int (iI a1), .int (iI a2)] (mPre D E h q (I, J, B, G) sz)) (va_Qi (rPi [8, 14, 18, 39, 40, 54] [0, 5, 6, 7, 9, 10, 11, 12, 13, 15, 16, 17, 19, 20, 21, 22, 23, 34, 37, 38, 53, 58] I B (fun (z : Int) (u : mS) => 0 ≤ z ∧ z ≤ 60 ∧ (z = 0 → tkA (u.2.2.1 37) (u.2.2.1 38) (u.2.2.1 0)) ∧ pG1 u.1 ∧ pG2 (u.2.2.1 37) (u.2.2.1 38) ∧ thF [4, 6, 11] (B 37) (B 38) (u.2.2.1 37) (u.2.2.1 38) ∧ mmF 4200 8400 (B 0) (u.2.2.1 0))) (mPost D E h q (mA E h q sz)) (mA E h q sz)) 0 0 (mA E h q sz) := by
  refine m_enter (by decide) rfl (Nat.le_of_ble_eq_true rfl) (fun p e s m below meth c ls AV QQ H locs hQQ X Y hZ hA hr hlk hml hl => ?_)
  have Y : mH D E (mA E h q sz) s.heap h q I J B G H locs := Y
  have S : rS [8, 14, 18, 39, 40, 54] [0, 5, 6, 7, 9, 10, 11, 12, 13, 15, 16, 17, 19, 20, 21, 22, 23, 34, 37, 38, 53, 58] I B I B := rS_rf hT
  have hl : lv_has ls 8 [(0, .ref h), (1, .int (iI a1)), (2, .int (iI a2))] := hl
  refine lv_aload_n X.1 X.2.1 d_M_opensTicket_0 rfl (lv_at hl 0 rfl) ?_
  refine lv_iconst (v := iI 3) X.1 X.2.1 d_M_opensTicket_1 (by decide) ?_
  refine lv_iconst (v := iI 0) X.1 X.2.1 d_M_opensTicket_2 (by decide) ?_
  refine r_nl (m_run (As := [.int (iI 3), .int (iI 0)]) (rest := []) (n := 2) X Y hZ hA hml hl.1 (r_M_numberAt l D E h q H.size I J B G 3 (by omega) (by omega) 0 (by omega) (by omega) S.1 f_P1 f_P2) kl_M_numberAt ks_M_numberAt kx_M_numberAt ki_M_numberAt ini_M hd_M_numberAt ⟨Nat.le_of_ble_eq_true rfl, Nat.le_of_ble_eq_true rfl⟩ rfl (Nat.le_of_ble_eq_true rfl) d_M_opensTicket_3 ⟨Nat.le_refl _, Nat.le_refl _⟩) X Y hA S (by decide) (by decide) (fun v101 u H locs Y S s101 p101 => ?_)
  obtain ⟨I101, J101, B101, G101⟩ := u
  dsimp only at Y S s101 p101
  have b101 : B = B101 := (funext (fun j => s101.2.2 j (by simp))).symm
  subst b101
  have g101_P1 := p101
  refine lv_ldc2 (v := (5)) X.1 X.2.1 X.2.2.2.1 (X.2.2.1 _ cl_M_669) d_M_opensTicket_6 ?_
  refine z_lcmp X.1 X.2.1 d_M_opensTicket_9 (fun z102 l102 u102 x102 y102 => ?_)
  have c102 : ((5) : Int64).toInt = (5) := by decide
  refine z_if_eq (tgt := 16) X.1 X.2.1 d_M_opensTicket_10 (by decide) ⟨by omega, by omega⟩ (fun h103 => ?_) (fun h103 => ?_)
  · refine lv_aload_n X.1 X.2.1 d_M_opensTicket_16 rfl (lv_at hl 0 rfl) ?_
    refine lv_aload_n X.1 X.2.1 d_M_opensTicket_17 rfl (lv_at hl 0 rfl) ?_
    refine lv_iconst (v := iI 3) X.1 X.2.1 d_M_opensTicket_18 (by decide) ?_
    refine lv_iconst (v := iI 1) X.1 X.2.1 d_M_opensTicket_19 (by decide) ?_
    refine r_ni (m_run (As := [.int (iI 3), .int (iI 1)]) (rest := [.ref h]) (n := 2) X Y hZ hA hml hl.1 (r_M_a l D E h q H.size I101 J101 B G101 3 (by omega) (by omega) 1 (by omega) (by omega) S.1) kl_M_a ks_M_a kx_M_a ki_M_a ini_M hd_M_a ⟨Nat.le_of_ble_eq_true rfl, Nat.le_of_ble_eq_true rfl⟩ rfl (Nat.le_of_ble_eq_true rfl) d_M_opensTicket_20 ⟨Nat.le_refl _, Nat.le_refl _⟩) X Y hA S (by decide) (by decide) (fun z104 u H locs Y S s104 p104 => ?_)
    obtain ⟨I104, J104, B104, G104⟩ := u
    dsimp only at Y S s104 p104
    have i104 : I101 = I104 := (funext (fun j => s104.2.1 j (by simp))).symm
    subst i104
    have b104 : B = B104 := (funext (fun j => s104.2.2 j (by simp))).symm
    subst b104
    obtain ⟨l104, u104, x104⟩ := p104
    refine lv_aload_n X.1 X.2.1 d_M_opensTicket_23 rfl (lv_at hl 0 rfl) ?_
    refine lv_iconst (v := iI 3) X.1 X.2.1 d_M_opensTicket_24 (by decide) ?_
    refine lv_iconst (v := iI 1) X.1 X.2.1 d_M_opensTicket_25 (by decide) ?_
    refine r_ni (m_run (As := [.int (iI 3), .int (iI 1)]) (rest := [.int (iI z104), .ref h]) (n := 2) X Y hZ hA hml hl.1 (r_M_b l D E h q H.size I101 J104 B G104 3 (by omega) (by omega) 1 (by omega) (by omega) S.1) kl_M_b ks_M_b kx_M_b ki_M_b ini_M hd_M_b ⟨Nat.le_of_ble_eq_true rfl, Nat.le_of_ble_eq_true rfl⟩ rfl (Nat.le_of_ble_eq_true rfl) d_M_opensTicket_26 ⟨Nat.le_refl _, Nat.le_refl _⟩) X Y hA S (by decide) (by decide) (fun z105 u H locs Y S s105 p105 => ?_)
    obtain ⟨I105, J105, B105, G105⟩ := u
    dsimp only at Y S s105 p105
    have i105 : I101 = I105 := (funext (fun j => s105.2.1 j (by simp))).symm
    subst i105
    have b105 : B = B105 := (funext (fun j => s105.2.2 j (by simp))).symm
    subst b105
    obtain ⟨l105, u105, x105⟩ := p105
    have p106 : pr z104 z105 := by rw [x104, x105]; exact (pG2_cg rfl rfl (pG2_cg rfl rfl (pG2_cg rfl rfl f_P2))) (16 * 3 + 1 : Int).toNat (by omega)
    unfold pr at p106
    refine m_ldcSW (i := 2) X (by decide) (by decide) d_M_opensTicket_29 ?_
    refine r_ni (m_run (As := [.int (iI z104), .int (iI z105), .ref ((D.2.1 2))]) (rest := []) (n := 3) X Y hZ hA hml hl.1 (r_M_isWord l D E h q H.size I101 J105 B G105 z104 (by omega) (by omega) z105 (by omega) (by omega) 2 (show 2 < nZ by decide) S.1 (pG1_cg rfl rfl (pG1_cg rfl rfl g101_P1)) (by omega) (by omega)) kl_M_isWord ks_M_isWord kx_M_isWord ki_M_isWord ini_M hd_M_isWord ⟨Nat.le_of_ble_eq_true rfl, Nat.le_of_ble_eq_true rfl⟩ rfl (Nat.le_of_ble_eq_true rfl) d_M_opensTicket_32 ⟨Nat.le_refl _, Nat.le_refl _⟩) X Y hA S (by decide) (by decide) (fun z107 u H locs Y S s107 p107 => ?_)
    obtain ⟨I107, J107, B107, G107⟩ := u
    dsimp only at Y S s107 p107
    have b107 : B = B107 := (funext (fun j => s107.2.2 j (by simp))).symm
    subst b107
    obtain ⟨l107, u107, x107, g107_P1⟩ := p107
    refine z_if_eq (tgt := 58) X.1 X.2.1 d_M_opensTicket_35 (by decide) ⟨by omega, by omega⟩ (fun h108 => ?_) (fun h108 => ?_)
    · refine lv_bipush (v := iI 35) X.1 X.2.1 d_M_opensTicket_58 (by decide) ?_
      exact m_reti hQQ X Y hr hlk ⟨S, 35, rfl, ⟨by omega, by omega, fun h9 => absurd h9 (by decide), g107_P1, (pG2_cg rfl rfl (pG2_cg rfl rfl (pG2_cg rfl rfl (pG2_cg rfl rfl f_P2)))), (thF_cg rfl rfl (thF_cg rfl rfl (thF_cg rfl rfl (thF_cg rfl rfl thF_rf)))), (mmF_cg rfl (mmF_cg rfl (mmF_cg rfl (mmF_cg rfl mmF_rf))))⟩⟩ d_M_opensTicket_60
    · refine lv_aload_n X.1 X.2.1 d_M_opensTicket_38 rfl (lv_at hl 0 rfl) ?_
      refine lv_aload_n X.1 X.2.1 d_M_opensTicket_39 rfl (lv_at hl 0 rfl) ?_
      refine lv_iconst (v := iI 3) X.1 X.2.1 d_M_opensTicket_40 (by decide) ?_
      refine lv_iconst (v := iI 2) X.1 X.2.1 d_M_opensTicket_41 (by decide) ?_
      refine r_ni (m_run (As := [.int (iI 3), .int (iI 2)]) (rest := [.ref h]) (n := 2) X Y hZ hA hml hl.1 (r_M_a l D E h q H.size I107 J107 B G107 3 (by omega) (by omega) 2 (by omega) (by omega) S.1) kl_M_a ks_M_a kx_M_a ki_M_a ini_M hd_M_a ⟨Nat.le_of_ble_eq_true rfl, Nat.le_of_ble_eq_true rfl⟩ rfl (Nat.le_of_ble_eq_true rfl) d_M_opensTicket_42 ⟨Nat.le_refl _, Nat.le_refl _⟩) X Y hA S (by decide) (by decide) (fun z109 u H locs Y S s109 p109 => ?_)
      obtain ⟨I109, J109, B109, G109⟩ := u
      dsimp only at Y S s109 p109
      have i109 : I107 = I109 := (funext (fun j => s109.2.1 j (by simp))).symm
      subst i109
      have b109 : B = B109 := (funext (fun j => s109.2.2 j (by simp))).symm
      subst b109
      obtain ⟨l109, u109, x109⟩ := p109
      refine lv_aload_n X.1 X.2.1 d_M_opensTicket_45 rfl (lv_at hl 0 rfl) ?_
      refine lv_iconst (v := iI 3) X.1 X.2.1 d_M_opensTicket_46 (by decide) ?_
      refine lv_iconst (v := iI 2) X.1 X.2.1 d_M_opensTicket_47 (by decide) ?_
      refine r_ni (m_run (As := [.int (iI 3), .int (iI 2)]) (rest := [.int (iI z109), .ref h]) (n := 2) X Y hZ hA hml hl.1 (r_M_b l D E h q H.size I107 J109 B G109 3 (by omega) (by omega) 2 (by omega) (by omega) S.1) kl_M_b ks_M_b kx_M_b ki_M_b ini_M hd_M_b ⟨Nat.le_of_ble_eq_true rfl, Nat.le_of_ble_eq_true rfl⟩ rfl (Nat.le_of_ble_eq_true rfl) d_M_opensTicket_48 ⟨Nat.le_refl _, Nat.le_refl _⟩) X Y hA S (by decide) (by decide) (fun z110 u H locs Y S s110 p110 => ?_)
      obtain ⟨I110, J110, B110, G110⟩ := u
      dsimp only at Y S s110 p110
      have i110 : I107 = I110 := (funext (fun j => s110.2.1 j (by simp))).symm
      subst i110
      have b110 : B = B110 := (funext (fun j => s110.2.2 j (by simp))).symm
      subst b110
      obtain ⟨l110, u110, x110⟩ := p110
      have p111 : pr z109 z110 := by rw [x109, x110]; exact (pG2_cg rfl rfl (pG2_cg rfl rfl (pG2_cg rfl rfl (pG2_cg rfl rfl (pG2_cg rfl rfl (pG2_cg rfl rfl f_P2)))))) (16 * 3 + 2 : Int).toNat (by omega)
      unfold pr at p111
      refine r_ni (m_run (As := [.int (iI z109), .int (iI z110)]) (rest := []) (n := 2) X Y hZ hA hml hl.1 (r_M_principalAt l D E h q H.size I107 J110 B G110 z109 (by omega) (by omega) z110 (by omega) (by omega) S.1 (pG1_cg rfl rfl (pG1_cg rfl rfl g107_P1)) (pG2_cg rfl rfl (pG2_cg rfl rfl (pG2_cg rfl rfl (pG2_cg rfl rfl (pG2_cg rfl rfl (pG2_cg rfl rfl f_P2)))))) (by omega) (by omega)) kl_M_principalAt ks_M_principalAt kx_M_principalAt ki_M_principalAt ini_M hd_M_principalAt ⟨Nat.le_of_ble_eq_true rfl, Nat.le_of_ble_eq_true rfl⟩ rfl (Nat.le_of_ble_eq_true rfl) d_M_opensTicket_51 ⟨Nat.le_refl _, Nat.le_refl _⟩) X Y hA S (by decide) (by decide) (fun z112 u H locs Y S s112 p112 => ?_)
      obtain ⟨I112, J112, B112, G112⟩ := u
      dsimp only at Y S s112 p112
      obtain ⟨l112, u112, g112_P1, g112_P2, g112_TF⟩ := p112
      refine lv_iload_n X.1 X.2.1 d_M_opensTicket_54 rfl (lv_at hl 1 rfl) ?_
      refine z_icmp_eq (tgt := 61) X.1 X.2.1 d_M_opensTicket_55 (by decide) ⟨by omega, by omega⟩ ⟨by omega, by omega⟩ (fun h113 => ?_) (fun h113 => ?_)
      · refine lv_aload_n X.1 X.2.1 d_M_opensTicket_61 rfl (lv_at hl 0 rfl) ?_
        refine m_ldcSW (i := 5) X (by decide) (by decide) d_M_opensTicket_62 ?_
        refine lv_aload_n X.1 X.2.1 d_M_opensTicket_65 rfl (lv_at hl 0 rfl) ?_
        refine lv_iconst (v := iI 3) X.1 X.2.1 d_M_opensTicket_66 (by decide) ?_
        refine lv_iconst (v := iI 3) X.1 X.2.1 d_M_opensTicket_67 (by decide) ?_
        refine r_ni (m_run (As := [.int (iI 3), .int (iI 3)]) (rest := [.ref ((D.2.1 5)), .ref h]) (n := 2) X Y hZ hA hml hl.1 (r_M_a l D E h q H.size I112 J112 B112 G112 3 (by omega) (by omega) 3 (by omega) (by omega) S.1) kl_M_a ks_M_a kx_M_a ki_M_a ini_M hd_M_a ⟨Nat.le_of_ble_eq_true rfl, Nat.le_of_ble_eq_true rfl⟩ rfl (Nat.le_of_ble_eq_true rfl) d_M_opensTicket_68 ⟨Nat.le_refl _, Nat.le_refl _⟩) X Y hA S (by decide) (by decide) (fun z114 u H locs Y S s114 p114 => ?_)
        obtain ⟨I114, J114, B114, G114⟩ := u
        dsimp only at Y S s114 p114
        have i114 : I112 = I114 := (funext (fun j => s114.2.1 j (by simp))).symm
        subst i114
        have b114 : B112 = B114 := (funext (fun j => s114.2.2 j (by simp))).symm
        subst b114
        obtain ⟨l114, u114, x114⟩ := p114
        refine lv_aload_n X.1 X.2.1 d_M_opensTicket_71 rfl (lv_at hl 0 rfl) ?_
        refine lv_iconst (v := iI 3) X.1 X.2.1 d_M_opensTicket_72 (by decide) ?_
        refine lv_iconst (v := iI 3) X.1 X.2.1 d_M_opensTicket_73 (by decide) ?_
        refine r_ni (m_run (As := [.int (iI 3), .int (iI 3)]) (rest := [.int (iI z114), .ref ((D.2.1 5)), .ref h]) (n := 2) X Y hZ hA hml hl.1 (r_M_b l D E h q H.size I112 J114 B112 G114 3 (by omega) (by omega) 3 (by omega) (by omega) S.1) kl_M_b ks_M_b kx_M_b ki_M_b ini_M hd_M_b ⟨Nat.le_of_ble_eq_true rfl, Nat.le_of_ble_eq_true rfl⟩ rfl (Nat.le_of_ble_eq_true rfl) d_M_opensTicket_74 ⟨Nat.le_refl _, Nat.le_refl _⟩) X Y hA S (by decide) (by decide) (fun z115 u H locs Y S s115 p115 => ?_)
        obtain ⟨I115, J115, B115, G115⟩ := u
        dsimp only at Y S s115 p115
        have i115 : I112 = I115 := (funext (fun j => s115.2.1 j (by simp))).symm
        subst i115
        have b115 : B112 = B115 := (funext (fun j => s115.2.2 j (by simp))).symm
        subst b115
        obtain ⟨l115, u115, x115⟩ := p115
        have p116 : pr z114 z115 := by rw [x114, x115]; exact (pG2_cg rfl rfl (pG2_cg rfl rfl g112_P2)) (16 * 3 + 3 : Int).toNat (by omega)
        unfold pr at p116
        refine lv_bipush (v := iI 6) X.1 X.2.1 d_M_opensTicket_77 (by decide) ?_
        refine r_ni (m_run (As := [.ref ((D.2.1 5)), .int (iI z114), .int (iI z115), .int (iI 6)]) (rest := []) (n := 4) X Y hZ hA hml hl.1 (r_M_sequence_t l D E h q H.size I112 J115 B112 G115 5 (show 5 < nZ by decide) z114 (by omega) (by omega) z115 (by omega) (by omega) 6 (by omega) (by omega) S.1 5 (B112 0) rfl (isF (B112 0) 5) (by decide) (hisU (show rki 5 ≤ 5 by decide)) (pG1_cg rfl rfl (pG1_cg rfl rfl g112_P1)) (pG2_cg rfl rfl (pG2_cg rfl rfl g112_P2)) (by omega) (by omega)) kl_M_sequence ks_M_sequence kx_M_sequence ki_M_sequence ini_M hd_M_sequence ⟨Nat.le_of_ble_eq_true rfl, Nat.le_of_ble_eq_true rfl⟩ rfl (Nat.le_of_ble_eq_true rfl) d_M_opensTicket_79 ⟨Nat.le_refl _, Nat.le_refl _⟩) X Y hA S (by decide) (by decide) (fun z117 u H locs Y S s117 p117 => ?_)
        obtain ⟨I117, J117, B117, G117⟩ := u
        dsimp only at Y S s117 p117
        obtain ⟨l117, u117, x117, st117, g117_P1, g117_P2⟩ := p117
        have g117_TF : thF [6] (B112 37) (B112 38) (B117 37) (B117 38) := thF_of st117.1
        refine lv_pop X.1 X.2.1 d_M_opensTicket_82 rfl ?_
        refine lv_aload_n X.1 X.2.1 d_M_opensTicket_83 rfl (lv_at hl 0 rfl) ?_
        refine lv_bipush (v := iI 6) X.1 X.2.1 d_M_opensTicket_84 (by decide) ?_
        refine lv_iconst (v := iI 1) X.1 X.2.1 d_M_opensTicket_86 (by decide) ?_
        refine r_ni (m_run (As := [.int (iI 6), .int (iI 1)]) (rest := []) (n := 2) X Y hZ hA hml hl.1 (r_M_has l D E h q H.size I117 J117 B117 G117 6 (by omega) (by omega) 1 (by omega) (by omega) S.1) kl_M_has ks_M_has kx_M_has ki_M_has ini_M hd_M_has ⟨Nat.le_of_ble_eq_true rfl, Nat.le_of_ble_eq_true rfl⟩ rfl (Nat.le_of_ble_eq_true rfl) d_M_opensTicket_87 ⟨Nat.le_refl _, Nat.le_refl _⟩) X Y hA S (by decide) (by decide) (fun z118 u H locs Y S s118 p118 => ?_)
        obtain ⟨I118, J118, B118, G118⟩ := u
        dsimp only at Y S s118 p118
        have i118 : I117 = I118 := (funext (fun j => s118.2.1 j (by simp))).symm
        subst i118
        have b118 : B117 = B118 := (funext (fun j => s118.2.2 j (by simp))).symm
        subst b118
        obtain ⟨l118, u118, x118⟩ := p118
        refine z_if_eq (tgt := 103) X.1 X.2.1 d_M_opensTicket_90 (by decide) ⟨by omega, by omega⟩ (fun h119 => ?_) (fun h119 => ?_)
        · refine lv_aload_n X.1 X.2.1 d_M_opensTicket_103 rfl (lv_at hl 0 rfl) ?_
          refine m_get X Y 46 (by decide) lk_versions (gf_versions _ _ _) rfl d_M_opensTicket_104 ?_
          refine lv_iload_n X.1 X.2.1 d_M_opensTicket_107 rfl (lv_at hl 1 rfl) ?_
          refine r_iald X Y S (aw_versions _ _ _ _ _ _ _) rfl (by omega) (show a1 < ((12 : Nat) : Int) by omega) (by omega) d_M_opensTicket_108 (fun z120 q120 l120 u120 => ?_)
          refine z_i2lx X.1 X.2.1 ⟨by omega, by omega⟩ d_M_opensTicket_109 (fun v121 tv121 => ?_)
          refine lv_lstore_n (lv' := [(3, .long v121), (0, .ref h), (1, .int (iI a1)), (2, .int (iI a2))]) X.1 X.2.1 d_M_opensTicket_110 rfl hl (by decide) rfl (fun ls hl => ?_)
          refine lv_aload_n X.1 X.2.1 d_M_opensTicket_111 rfl (lv_at hl 1 rfl) ?_
          refine lv_iload_n X.1 X.2.1 d_M_opensTicket_112 rfl (lv_at hl 2 rfl) ?_
          refine lv_lload_n X.1 X.2.1 d_M_opensTicket_113 rfl (lv_at hl 0 rfl) ?_
          refine r_ni (m_run (As := [.int (iI a1), .long v121]) (rest := []) (n := 2) X Y hZ hA hml hl.1 (r_M_mayOpen l D E h q H.size I117 J118 B117 G118 a1 (by omega) (by omega) v121 S.1) kl_M_mayOpen ks_M_mayOpen kx_M_mayOpen ki_M_mayOpen ini_M hd_M_mayOpen ⟨Nat.le_of_ble_eq_true rfl, Nat.le_of_ble_eq_true rfl⟩ rfl (Nat.le_of_ble_eq_true rfl) d_M_opensTicket_114 ⟨Nat.le_refl _, Nat.le_refl _⟩) X Y hA S (by decide) (by decide) (fun z122 u H locs Y S s122 p122 => ?_)
          obtain ⟨I122, J122, B122, G122⟩ := u
          dsimp only at Y S s122 p122
          have i122 : I117 = I122 := (funext (fun j => s122.2.1 j (by simp))).symm
          subst i122
          have b122 : B117 = B122 := (funext (fun j => s122.2.2 j (by simp))).symm
          subst b122
          obtain ⟨l122, u122, x122⟩ := p122
          refine z_if_ne (tgt := 123) X.1 X.2.1 d_M_opensTicket_117 (by decide) ⟨by omega, by omega⟩ (fun h123 => ?_) (fun h123 => ?_)
          · refine lv_aload_n X.1 X.2.1 d_M_opensTicket_123 rfl (lv_at hl 1 rfl) ?_
            refine lv_bipush (v := iI 6) X.1 X.2.1 d_M_opensTicket_124 (by decide) ?_
            refine lv_iconst (v := iI 0) X.1 X.2.1 d_M_opensTicket_126 (by decide) ?_
            refine r_nl (m_run (As := [.int (iI 6), .int (iI 0)]) (rest := []) (n := 2) X Y hZ hA hml hl.1 (r_M_numberAt l D E h q H.size I117 J122 B117 G122 6 (by omega) (by omega) 0 (by omega) (by omega) S.1 (pG1_cg rfl rfl (pG1_cg rfl rfl g117_P1)) (pG2_cg rfl rfl (pG2_cg rfl rfl g117_P2))) kl_M_numberAt ks_M_numberAt kx_M_numberAt ki_M_numberAt ini_M hd_M_numberAt ⟨Nat.le_of_ble_eq_true rfl, Nat.le_of_ble_eq_true rfl⟩ rfl (Nat.le_of_ble_eq_true rfl) d_M_opensTicket_127 ⟨Nat.le_refl _, Nat.le_refl _⟩) X Y hA S (by decide) (by decide) (fun v124 u H locs Y S s124 p124 => ?_)
            obtain ⟨I124, J124, B124, G124⟩ := u
            dsimp only at Y S s124 p124
            have b124 : B117 = B124 := (funext (fun j => s124.2.2 j (by simp))).symm
            subst b124
            have f125 : thF [4, 6, 11] (B 37) (B 38) (B117 37) (B117 38) := (thF_cg rfl rfl (thF_cg rfl rfl (thF_cg rfl rfl (thF_tr (thF_cg rfl rfl (thF_cg rfl rfl (thF_tr (thF_cg rfl rfl (thF_cg rfl rfl (thF_cg rfl rfl (thF_cg rfl rfl (thF_cg rfl rfl (thF_cg rfl rfl thF_rf)))))) g112_TF (by decide)))) g117_TF (by decide)))))
            have g124_P1 := p124
            refine lv_lstore (lv' := [(5, .long v124), (3, .long v121), (0, .ref h), (1, .int (iI a1)), (2, .int (iI a2))]) X.1 X.2.1 d_M_opensTicket_130 hl (by decide) rfl (fun ls hl => ?_)
            refine lv_lload X.1 X.2.1 d_M_opensTicket_132 (lv_at hl 0 rfl) ?_
            refine lv_ldc2 (v := (17)) X.1 X.2.1 X.2.2.2.1 (X.2.2.1 _ cl_M_697) d_M_opensTicket_134 ?_
            refine z_lcmp X.1 X.2.1 d_M_opensTicket_137 (fun z126 l126 u126 x126 y126 => ?_)
            have c126 : ((17) : Int64).toInt = (17) := by decide
            refine z_if_eq (tgt := 153) X.1 X.2.1 d_M_opensTicket_138 (by decide) ⟨by omega, by omega⟩ (fun h127 => ?_) (fun h127 => ?_)
            · refine lv_aload_n X.1 X.2.1 d_M_opensTicket_153 rfl (lv_at hl 2 rfl) ?_
              refine lv_iload_n X.1 X.2.1 d_M_opensTicket_154 rfl (lv_at hl 3 rfl) ?_
              refine lv_lload_n X.1 X.2.1 d_M_opensTicket_155 rfl (lv_at hl 1 rfl) ?_
              refine z_l2i X.1 X.2.1 d_M_opensTicket_156 (fun z128 l128 u128 x128 => ?_)
              refine lv_lload X.1 X.2.1 d_M_opensTicket_157 (lv_at hl 0 rfl) ?_
              refine z_l2i X.1 X.2.1 d_M_opensTicket_159 (fun z129 l129 u129 x129 => ?_)
              refine lv_aload_n X.1 X.2.1 d_M_opensTicket_160 rfl (lv_at hl 2 rfl) ?_
              refine m_get X Y 58 (by decide) lk_key (gf_key _ _ _) rfl d_M_opensTicket_161 ?_
              refine r_nv (m_run (As := [.int (iI a1), .int (iI z128), .int (iI z129), .ref ((q 58))]) (rest := []) (n := 4) X Y hZ hA hml hl.1 (r_M_keyOf_key l D E h q H.size I124 J124 B117 G124 a1 (by omega) (by omega) z128 (by omega) (by omega) z129 (by omega) (by omega) S.1) kl_M_keyOf ks_M_keyOf kx_M_keyOf ki_M_keyOf ini_M hd_M_keyOf ⟨Nat.le_of_ble_eq_true rfl, Nat.le_of_ble_eq_true rfl⟩ rfl (Nat.le_of_ble_eq_true rfl) d_M_opensTicket_164 ⟨Nat.le_refl _, Nat.le_refl _⟩) X Y hA S (by decide) (by decide) (fun u H locs Y S s130 p130 => ?_)
              obtain ⟨I130, J130, B130, G130⟩ := u
              dsimp only at Y S s130 p130
              have i130 : I124 = I130 := (funext (fun j => s130.2.1 j (by simp))).symm
              subst i130
              have f131 : mmF 4200 8400 (B 0) (B130 0) := (mmF_cg (s130.2.2 0 (by decide)) (mmF_cg rfl (mmF_cg rfl (mmF_cg rfl (mmF_cg (s117.2.2 0 (by decide)) (mmF_cg rfl (mmF_cg rfl (mmF_cg (s112.2.2 0 (by decide)) (mmF_cg rfl (mmF_cg rfl (mmF_cg rfl (mmF_cg rfl (mmF_cg rfl (mmF_cg rfl mmF_rf))))))))))))))
              refine lv_aload_n X.1 X.2.1 d_M_opensTicket_167 rfl (lv_at hl 2 rfl) ?_
              refine lv_aload_n X.1 X.2.1 d_M_opensTicket_168 rfl (lv_at hl 2 rfl) ?_
              refine lv_bipush (v := iI 6) X.1 X.2.1 d_M_opensTicket_169 (by decide) ?_
              refine lv_iconst (v := iI 2) X.1 X.2.1 d_M_opensTicket_171 (by decide) ?_
              refine r_ni (m_run (As := [.int (iI 6), .int (iI 2)]) (rest := [.ref h]) (n := 2) X Y hZ hA hml hl.1 (r_M_a l D E h q H.size I124 J130 B130 G130 6 (by omega) (by omega) 2 (by omega) (by omega) S.1) kl_M_a ks_M_a kx_M_a ki_M_a ini_M hd_M_a ⟨Nat.le_of_ble_eq_true rfl, Nat.le_of_ble_eq_true rfl⟩ rfl (Nat.le_of_ble_eq_true rfl) d_M_opensTicket_172 ⟨Nat.le_refl _, Nat.le_refl _⟩) X Y hA S (by decide) (by decide) (fun z132 u H locs Y S s132 p132 => ?_)
              obtain ⟨I132, J132, B132, G132⟩ := u
              dsimp only at Y S s132 p132
              have i132 : I124 = I132 := (funext (fun j => s132.2.1 j (by simp))).symm
              subst i132
              have b132 : B130 = B132 := (funext (fun j => s132.2.2 j (by simp))).symm
              subst b132
              obtain ⟨l132, u132, x132⟩ := p132
              refine lv_aload_n X.1 X.2.1 d_M_opensTicket_175 rfl (lv_at hl 2 rfl) ?_
              refine lv_bipush (v := iI 6) X.1 X.2.1 d_M_opensTicket_176 (by decide) ?_
              refine lv_iconst (v := iI 2) X.1 X.2.1 d_M_opensTicket_178 (by decide) ?_
              refine r_ni (m_run (As := [.int (iI 6), .int (iI 2)]) (rest := [.int (iI z132), .ref h]) (n := 2) X Y hZ hA hml hl.1 (r_M_b l D E h q H.size I124 J132 B130 G132 6 (by omega) (by omega) 2 (by omega) (by omega) S.1) kl_M_b ks_M_b kx_M_b ki_M_b ini_M hd_M_b ⟨Nat.le_of_ble_eq_true rfl, Nat.le_of_ble_eq_true rfl⟩ rfl (Nat.le_of_ble_eq_true rfl) d_M_opensTicket_179 ⟨Nat.le_refl _, Nat.le_refl _⟩) X Y hA S (by decide) (by decide) (fun z133 u H locs Y S s133 p133 => ?_)
              obtain ⟨I133, J133, B133, G133⟩ := u
              dsimp only at Y S s133 p133
              have i133 : I124 = I133 := (funext (fun j => s133.2.1 j (by simp))).symm
              subst i133
              have b133 : B130 = B133 := (funext (fun j => s133.2.2 j (by simp))).symm
              subst b133
              obtain ⟨l133, u133, x133⟩ := p133
              have p134 : pr z132 z133 := by rw [x132, x133]; exact (pG2_cg rfl rfl (pG2_cg rfl rfl (pG2_cg (s130.2.2 37 (by decide)) (s130.2.2 38 (by decide)) (pG2_cg rfl rfl (pG2_cg rfl rfl (pG2_cg rfl rfl g117_P2)))))) (16 * 6 + 2 : Int).toNat (by omega)
              unfold pr at p134
              refine lv_iconst (v := iI 4) X.1 X.2.1 d_M_opensTicket_182 (by decide) ?_
              refine r_ni (m_run (As := [.int (iI z132), .int (iI z133), .int (iI 4)]) (rest := []) (n := 3) X Y hZ hA hml hl.1 (r_M_element l D E h q H.size I124 J133 B130 G133 z132 (by omega) (by omega) z133 (by omega) (by omega) 4 (by omega) (by omega) S.1 (B130 0) rfl (pG1_cg rfl rfl (pG1_cg rfl rfl (pG1_cg rfl rfl g124_P1))) (by omega) (by omega)) kl_M_element ks_M_element kx_M_element ki_M_element ini_M hd_M_element ⟨Nat.le_of_ble_eq_true rfl, Nat.le_of_ble_eq_true rfl⟩ rfl (Nat.le_of_ble_eq_true rfl) d_M_opensTicket_183 ⟨Nat.le_refl _, Nat.le_refl _⟩) X Y hA S (by decide) (by decide) (fun z135 u H locs Y S s135 p135 => ?_)
              obtain ⟨I135, J135, B135, G135⟩ := u
              dsimp only at Y S s135 p135
              have b135 : B130 = B135 := (funext (fun j => s135.2.2 j (by simp))).symm
              subst b135
              obtain ⟨l135, u135, x135, st135⟩ := p135
              obtain ⟨x136, y136, ex136, ey136, lx136, ly136, uy136, dy136, iy136, ky136⟩ := st135
              refine lv_pop X.1 X.2.1 d_M_opensTicket_186 rfl ?_
              refine lv_aload_n X.1 X.2.1 d_M_opensTicket_187 rfl (lv_at hl 2 rfl) ?_
              refine lv_aload_n X.1 X.2.1 d_M_opensTicket_188 rfl (lv_at hl 2 rfl) ?_
              refine m_get X Y 58 (by decide) lk_key (gf_key _ _ _) rfl d_M_opensTicket_189 ?_
              refine lv_lload X.1 X.2.1 d_M_opensTicket_192 (lv_at hl 0 rfl) ?_
              refine z_l2i X.1 X.2.1 d_M_opensTicket_194 (fun z137 l137 u137 x137 => ?_)
              refine lv_iconst (v := iI 2) X.1 X.2.1 d_M_opensTicket_195 (by decide) ?_
              refine lv_aload_n X.1 X.2.1 d_M_opensTicket_196 rfl (lv_at hl 2 rfl) ?_
              refine r_get0 X Y (by decide) lk_inside (gf_inside _ _ _) rfl ex136 d_M_opensTicket_197 ?_
              refine lv_aload_n X.1 X.2.1 d_M_opensTicket_200 rfl (lv_at hl 2 rfl) ?_
              refine r_get0 X Y (by decide) lk_behind (gf_behind _ _ _) rfl ey136 d_M_opensTicket_201 ?_
              refine lv_sipush (v := iI 4200) X.1 X.2.1 d_M_opensTicket_204 (by decide) ?_
              refine r_ni (m_run (As := [.ref ((q 58)), .int (iI z137), .int (iI 2), .int (iI x136), .int (iI y136), .int (iI 4200)]) (rest := []) (n := 6) X Y hZ hA hml hl.1 (r_M_open_key l D E h q H.size I135 J135 B130 G135 z137 (by omega) (by omega) 2 (by omega) (by omega) x136 (by omega) (by omega) y136 (by omega) (by omega) 4200 (by omega) (by omega) S.1 (by omega) (by omega)) kl_M_open ks_M_open kx_M_open ki_M_open ini_M hd_M_open ⟨Nat.le_of_ble_eq_true rfl, Nat.le_of_ble_eq_true rfl⟩ rfl (Nat.le_of_ble_eq_true rfl) d_M_opensTicket_207 ⟨Nat.le_refl _, Nat.le_refl _⟩) X Y hA S (by decide) (by decide) (fun z138 u H locs Y S s138 p138 => ?_)
              obtain ⟨I138, J138, B138, G138⟩ := u
              dsimp only at Y S s138 p138
              obtain ⟨l138, u138, x138, g138_MF⟩ := p138
              refine lv_istore (lv' := [(7, .int (iI z138)), (5, .long v124), (3, .long v121), (0, .ref h), (1, .int (iI a1)), (2, .int (iI a2))]) X.1 X.2.1 d_M_opensTicket_210 hl (by decide) rfl (fun ls hl => ?_)
              refine lv_iload X.1 X.2.1 d_M_opensTicket_212 (lv_at hl 0 rfl) ?_
              refine z_if_ge (tgt := 220) X.1 X.2.1 d_M_opensTicket_214 (by decide) ⟨by omega, by omega⟩ (fun h139 => ?_) (fun h139 => ?_)
              · refine lv_aload_n X.1 X.2.1 d_M_opensTicket_220 rfl (lv_at hl 3 rfl) ?_
                refine lv_iconst (v := iI 3) X.1 X.2.1 d_M_opensTicket_221 (by decide) ?_
                refine m_ldcSW (i := 15) X (by decide) (by decide) d_M_opensTicket_222 ?_
                refine lv_sipush (v := iI 4200) X.1 X.2.1 d_M_opensTicket_225 (by decide) ?_
                refine lv_sipush (v := iI 4200) X.1 X.2.1 d_M_opensTicket_228 (by decide) ?_
                refine lv_iload X.1 X.2.1 d_M_opensTicket_231 (lv_at hl 0 rfl) ?_
                refine z_iadd X.1 X.2.1 d_M_opensTicket_233 ?_
                refine lv_iconst (v := iI 4) X.1 X.2.1 d_M_opensTicket_234 (by decide) ?_
                refine r_ni (m_run (As := [.int (iI 3), .ref ((D.2.1 15)), .int (iI 4200), .int (iI (4200 + z138)), .int (iI 4)]) (rest := []) (n := 5) X Y hZ hA hml hl.1 (r_M_applied_t l D E h q H.size I138 J138 B138 G138 3 (by omega) (by omega) 15 (show 15 < nZ by decide) 4200 (by omega) (by omega) (4200 + z138) (by omega) (by omega) 4 (by omega) (by omega) S.1 5 (B138 0) rfl (isF (B138 0) 5) (by decide) (hisU (show rki 15 ≤ 5 by decide)) (pG1_cg (s138.2.1 39 (by decide)) (s138.2.1 40 (by decide)) (show pG1 I135 from ⟨x136, y136, ex136, ey136, by omega, by omega, by omega, by omega⟩)) (pG2_cg (s138.2.2 37 (by decide)) (s138.2.2 38 (by decide)) (pG2_cg rfl rfl (pG2_cg rfl rfl (pG2_cg rfl rfl (pG2_cg (s130.2.2 37 (by decide)) (s130.2.2 38 (by decide)) (pG2_cg rfl rfl (pG2_cg rfl rfl (pG2_cg rfl rfl g117_P2)))))))) (by omega) (by omega)) kl_M_applied ks_M_applied kx_M_applied ki_M_applied ini_M hd_M_applied ⟨Nat.le_of_ble_eq_true rfl, Nat.le_of_ble_eq_true rfl⟩ rfl (Nat.le_of_ble_eq_true rfl) d_M_opensTicket_235 ⟨Nat.le_refl _, Nat.le_refl _⟩) X Y hA S (by decide) (by decide) (fun z140 u H locs Y S s140 p140 => ?_)
                obtain ⟨I140, J140, B140, G140⟩ := u
                dsimp only at Y S s140 p140
                obtain ⟨l140, u140, x140, st140, g140_P1, g140_P2⟩ := p140
                have g140_TF : thF [4] (B138 37) (B138 38) (B140 37) (B140 38) := thF_of st140.1
                refine z_if_eq (tgt := 263) X.1 X.2.1 d_M_opensTicket_238 (by decide) ⟨by omega, by omega⟩ (fun h141 => ?_) (fun h141 => ?_)
                · refine lv_bipush (v := iI 60) X.1 X.2.1 d_M_opensTicket_263 (by decide) ?_
                  exact m_reti hQQ X Y hr hlk ⟨S, 60, rfl, ⟨by omega, by omega, fun h9 => absurd h9 (by decide), g140_P1, g140_P2, (thF_tr (thF_cg (s138.2.2 37 (by decide)) (s138.2.2 38 (by decide)) (thF_cg rfl rfl (thF_cg rfl rfl (thF_cg rfl rfl (thF_cg (s130.2.2 37 (by decide)) (s130.2.2 38 (by decide)) f125))))) g140_TF (by decide)), (mmF_cg (s140.2.2 0 (by decide)) (mmF_tr (mmF_cg rfl (mmF_cg rfl (mmF_cg rfl f131))) g138_MF (by decide)))⟩⟩ d_M_opensTicket_265
                · have wa142 := (x140.mp (by omega)).1
                  unfold whP at wa142
                  have ra142 := el_rng (B138 0) (a := 4200) (b := 4200 + z138) (.inl (by omega))
                  have a142 := part_N (m := (B138 0)) (x140.mp (by omega)).2 (by omega) (by omega) (st140.2 (by omega))
                  rw [← s140.2.2 0 (by decide)] at a142
                  have wa143 := (x140.mp (by omega)).1
                  unfold whP at wa143
                  have ra143 := el_rng (B138 0) (a := 4200) (b := 4200 + z138) (.inl (by omega))
                  have a143 := part_N (m := (B138 0)) (x140.mp (by omega)).2 (by omega) (by omega) (st140.2 (by omega))
                  rw [← s140.2.2 0 (by decide)] at a143
                  refine lv_aload_n X.1 X.2.1 d_M_opensTicket_241 rfl (lv_at hl 3 rfl) ?_
                  refine lv_aload_n X.1 X.2.1 d_M_opensTicket_242 rfl (lv_at hl 3 rfl) ?_
                  refine lv_iconst (v := iI 4) X.1 X.2.1 d_M_opensTicket_243 (by decide) ?_
                  refine lv_iconst (v := iI 2) X.1 X.2.1 d_M_opensTicket_244 (by decide) ?_
                  refine r_ni (m_run (As := [.int (iI 4), .int (iI 2)]) (rest := [.ref h]) (n := 2) X Y hZ hA hml hl.1 (r_M_a l D E h q H.size I140 J140 B140 G140 4 (by omega) (by omega) 2 (by omega) (by omega) S.1) kl_M_a ks_M_a kx_M_a ki_M_a ini_M hd_M_a ⟨Nat.le_of_ble_eq_true rfl, Nat.le_of_ble_eq_true rfl⟩ rfl (Nat.le_of_ble_eq_true rfl) d_M_opensTicket_245 ⟨Nat.le_refl _, Nat.le_refl _⟩) X Y hA S (by decide) (by decide) (fun z144 u H locs Y S s144 p144 => ?_)
                  obtain ⟨I144, J144, B144, G144⟩ := u
                  dsimp only at Y S s144 p144
                  have i144 : I140 = I144 := (funext (fun j => s144.2.1 j (by simp))).symm
                  subst i144
                  have b144 : B140 = B144 := (funext (fun j => s144.2.2 j (by simp))).symm
                  subst b144
                  obtain ⟨l144, u144, x144⟩ := p144
                  refine lv_aload_n X.1 X.2.1 d_M_opensTicket_248 rfl (lv_at hl 3 rfl) ?_
                  refine lv_iconst (v := iI 4) X.1 X.2.1 d_M_opensTicket_249 (by decide) ?_
                  refine lv_iconst (v := iI 2) X.1 X.2.1 d_M_opensTicket_250 (by decide) ?_
                  refine r_ni (m_run (As := [.int (iI 4), .int (iI 2)]) (rest := [.int (iI z144), .ref h]) (n := 2) X Y hZ hA hml hl.1 (r_M_b l D E h q H.size I140 J144 B140 G144 4 (by omega) (by omega) 2 (by omega) (by omega) S.1) kl_M_b ks_M_b kx_M_b ki_M_b ini_M hd_M_b ⟨Nat.le_of_ble_eq_true rfl, Nat.le_of_ble_eq_true rfl⟩ rfl (Nat.le_of_ble_eq_true rfl) d_M_opensTicket_251 ⟨Nat.le_refl _, Nat.le_refl _⟩) X Y hA S (by decide) (by decide) (fun z145 u H locs Y S s145 p145 => ?_)
                  obtain ⟨I145, J145, B145, G145⟩ := u
                  dsimp only at Y S s145 p145
                  have i145 : I140 = I145 := (funext (fun j => s145.2.1 j (by simp))).symm
                  subst i145
                  have b145 : B140 = B145 := (funext (fun j => s145.2.2 j (by simp))).symm
                  subst b145
                  obtain ⟨l145, u145, x145⟩ := p145
                  have p146 : pr z144 z145 := by rw [x144, x145]; exact (pG2_cg rfl rfl (pG2_cg rfl rfl g140_P2)) (16 * 4 + 2 : Int).toNat (by omega)
                  unfold pr at p146
                  refine m_ldcSW (i := 2) X (by decide) (by decide) d_M_opensTicket_254 ?_
                  refine r_ni (m_run (As := [.int (iI z144), .int (iI z145), .ref ((D.2.1 2))]) (rest := []) (n := 3) X Y hZ hA hml hl.1 (r_M_isWord l D E h q H.size I140 J145 B140 G145 z144 (by omega) (by omega) z145 (by omega) (by omega) 2 (show 2 < nZ by decide) S.1 (pG1_cg rfl rfl (pG1_cg rfl rfl g140_P1)) (by omega) (by omega)) kl_M_isWord ks_M_isWord kx_M_isWord ki_M_isWord ini_M hd_M_isWord ⟨Nat.le_of_ble_eq_true rfl, Nat.le_of_ble_eq_true rfl⟩ rfl (Nat.le_of_ble_eq_true rfl) d_M_opensTicket_257 ⟨Nat.le_refl _, Nat.le_refl _⟩) X Y hA S (by decide) (by decide) (fun z147 u H locs Y S s147 p147 => ?_)
                  obtain ⟨I147, J147, B147, G147⟩ := u
                  dsimp only at Y S s147 p147
                  have b147 : B140 = B147 := (funext (fun j => s147.2.2 j (by simp))).symm
                  subst b147
                  have f148 : thF [4, 6, 11] (B 37) (B 38) (B140 37) (B140 38) := (thF_cg rfl rfl (thF_cg rfl rfl (thF_cg rfl rfl (thF_tr (thF_cg (s138.2.2 37 (by decide)) (s138.2.2 38 (by decide)) (thF_cg rfl rfl (thF_cg rfl rfl (thF_cg rfl rfl (thF_cg (s130.2.2 37 (by decide)) (s130.2.2 38 (by decide)) f125))))) g140_TF (by decide)))))
                  obtain ⟨l147, u147, x147, g147_P1⟩ := p147
                  refine z_if_ne (tgt := 266) X.1 X.2.1 d_M_opensTicket_260 (by decide) ⟨by omega, by omega⟩ (fun h149 => ?_) (fun h149 => ?_)
                  · refine lv_aload_n X.1 X.2.1 d_M_opensTicket_266 rfl (lv_at hl 3 rfl) ?_
                    refine lv_aload_n X.1 X.2.1 d_M_opensTicket_267 rfl (lv_at hl 3 rfl) ?_
                    refine lv_aload_n X.1 X.2.1 d_M_opensTicket_268 rfl (lv_at hl 3 rfl) ?_
                    refine lv_iconst (v := iI 4) X.1 X.2.1 d_M_opensTicket_269 (by decide) ?_
                    refine lv_iconst (v := iI 3) X.1 X.2.1 d_M_opensTicket_270 (by decide) ?_
                    refine r_ni (m_run (As := [.int (iI 4), .int (iI 3)]) (rest := [.ref h, .ref h]) (n := 2) X Y hZ hA hml hl.1 (r_M_a l D E h q H.size I147 J147 B140 G147 4 (by omega) (by omega) 3 (by omega) (by omega) S.1) kl_M_a ks_M_a kx_M_a ki_M_a ini_M hd_M_a ⟨Nat.le_of_ble_eq_true rfl, Nat.le_of_ble_eq_true rfl⟩ rfl (Nat.le_of_ble_eq_true rfl) d_M_opensTicket_271 ⟨Nat.le_refl _, Nat.le_refl _⟩) X Y hA S (by decide) (by decide) (fun z150 u H locs Y S s150 p150 => ?_)
                    obtain ⟨I150, J150, B150, G150⟩ := u
                    dsimp only at Y S s150 p150
                    have i150 : I147 = I150 := (funext (fun j => s150.2.1 j (by simp))).symm
                    subst i150
                    have b150 : B140 = B150 := (funext (fun j => s150.2.2 j (by simp))).symm
                    subst b150
                    obtain ⟨l150, u150, x150⟩ := p150
                    refine lv_aload_n X.1 X.2.1 d_M_opensTicket_274 rfl (lv_at hl 3 rfl) ?_
                    refine lv_iconst (v := iI 4) X.1 X.2.1 d_M_opensTicket_275 (by decide) ?_
                    refine lv_iconst (v := iI 3) X.1 X.2.1 d_M_opensTicket_276 (by decide) ?_
                    refine r_ni (m_run (As := [.int (iI 4), .int (iI 3)]) (rest := [.int (iI z150), .ref h, .ref h]) (n := 2) X Y hZ hA hml hl.1 (r_M_b l D E h q H.size I147 J150 B140 G150 4 (by omega) (by omega) 3 (by omega) (by omega) S.1) kl_M_b ks_M_b kx_M_b ki_M_b ini_M hd_M_b ⟨Nat.le_of_ble_eq_true rfl, Nat.le_of_ble_eq_true rfl⟩ rfl (Nat.le_of_ble_eq_true rfl) d_M_opensTicket_277 ⟨Nat.le_refl _, Nat.le_refl _⟩) X Y hA S (by decide) (by decide) (fun z151 u H locs Y S s151 p151 => ?_)
                    obtain ⟨I151, J151, B151, G151⟩ := u
                    dsimp only at Y S s151 p151
                    have i151 : I147 = I151 := (funext (fun j => s151.2.1 j (by simp))).symm
                    subst i151
                    have b151 : B140 = B151 := (funext (fun j => s151.2.2 j (by simp))).symm
                    subst b151
                    obtain ⟨l151, u151, x151⟩ := p151
                    have p152 : pr z150 z151 := by rw [x150, x151]; exact (pG2_cg rfl rfl (pG2_cg rfl rfl (pG2_cg rfl rfl (pG2_cg rfl rfl (pG2_cg rfl rfl g140_P2))))) (16 * 4 + 3 : Int).toNat (by omega)
                    unfold pr at p152
                    refine r_ni (m_run (As := [.int (iI z150), .int (iI z151)]) (rest := [.ref h]) (n := 2) X Y hZ hA hml hl.1 (r_M_partsAt l D E h q H.size I147 J151 B140 G151 z150 (by omega) (by omega) z151 (by omega) (by omega) S.1 (pG1_cg rfl rfl (pG1_cg rfl rfl g147_P1)) (pG2_cg rfl rfl (pG2_cg rfl rfl (pG2_cg rfl rfl (pG2_cg rfl rfl (pG2_cg rfl rfl g140_P2))))) (by omega) (by omega)) kl_M_partsAt ks_M_partsAt kx_M_partsAt ki_M_partsAt ini_M hd_M_partsAt ⟨Nat.le_of_ble_eq_true rfl, Nat.le_of_ble_eq_true rfl⟩ rfl (Nat.le_of_ble_eq_true rfl) d_M_opensTicket_280 ⟨Nat.le_refl _, Nat.le_refl _⟩) X Y hA S (by decide) (by decide) (fun z153 u H locs Y S s153 p153 => ?_)
                    obtain ⟨I153, J153, B153, G153⟩ := u
                    dsimp only at Y S s153 p153
                    obtain ⟨l153, u153, x153, st153, g153_P1, g153_P2, g153_TF⟩ := p153
                    have f154 : tk0 (B153 37) (B153 38) (B153 0) := (tk0_cg (s153.2.2 0 (by decide)) rfl rfl (tk0_T g153_TF (by decide) (by decide) (tk0_cg rfl rfl rfl (tk0_cg rfl rfl rfl (tk0_cg rfl rfl rfl (tk0_cg rfl rfl rfl (tk0_cg rfl rfl rfl a143)))))))
                    refine lv_aload_n X.1 X.2.1 d_M_opensTicket_283 rfl (lv_at hl 3 rfl) ?_
                    refine lv_bipush (v := iI 11) X.1 X.2.1 d_M_opensTicket_284 (by decide) ?_
                    refine lv_iconst (v := iI 1) X.1 X.2.1 d_M_opensTicket_286 (by decide) ?_
                    refine r_ni (m_run (As := [.int (iI 11), .int (iI 1)]) (rest := [.int (iI z153), .ref h]) (n := 2) X Y hZ hA hml hl.1 (r_M_b l D E h q H.size I153 J153 B153 G153 11 (by omega) (by omega) 1 (by omega) (by omega) S.1) kl_M_b ks_M_b kx_M_b ki_M_b ini_M hd_M_b ⟨Nat.le_of_ble_eq_true rfl, Nat.le_of_ble_eq_true rfl⟩ rfl (Nat.le_of_ble_eq_true rfl) d_M_opensTicket_287 ⟨Nat.le_refl _, Nat.le_refl _⟩) X Y hA S (by decide) (by decide) (fun z155 u H locs Y S s155 p155 => ?_)
                    obtain ⟨I155, J155, B155, G155⟩ := u
                    dsimp only at Y S s155 p155
                    have i155 : I153 = I155 := (funext (fun j => s155.2.1 j (by simp))).symm
                    subst i155
                    have b155 : B153 = B155 := (funext (fun j => s155.2.2 j (by simp))).symm
                    subst b155
                    obtain ⟨l155, u155, x155⟩ := p155
                    have p156 : pr z153 z155 := by rw [x153, x155]; exact (pG2_cg rfl rfl g153_P2) (16 * 11 + 1 : Int).toNat (by omega)
                    unfold pr at p156
                    refine lv_bipush (v := iI 48) X.1 X.2.1 d_M_opensTicket_290 (by decide) ?_
                    refine r_ni (m_run (As := [.int (iI z153), .int (iI z155), .int (iI 48)]) (rest := []) (n := 3) X Y hZ hA hml hl.1 (r_M_element l D E h q H.size I153 J155 B153 G155 z153 (by omega) (by omega) z155 (by omega) (by omega) 48 (by omega) (by omega) S.1 (B153 0) rfl (pG1_cg rfl rfl g153_P1) (by omega) (by omega)) kl_M_element ks_M_element kx_M_element ki_M_element ini_M hd_M_element ⟨Nat.le_of_ble_eq_true rfl, Nat.le_of_ble_eq_true rfl⟩ rfl (Nat.le_of_ble_eq_true rfl) d_M_opensTicket_292 ⟨Nat.le_refl _, Nat.le_refl _⟩) X Y hA S (by decide) (by decide) (fun z157 u H locs Y S s157 p157 => ?_)
                    obtain ⟨I157, J157, B157, G157⟩ := u
                    dsimp only at Y S s157 p157
                    have b157 : B153 = B157 := (funext (fun j => s157.2.2 j (by simp))).symm
                    subst b157
                    obtain ⟨l157, u157, x157, st157⟩ := p157
                    obtain ⟨x158, y158, ex158, ey158, lx158, ly158, uy158, dy158, iy158, ky158⟩ := st157
                    refine lv_pop X.1 X.2.1 d_M_opensTicket_295 rfl ?_
                    refine lv_aload_n X.1 X.2.1 d_M_opensTicket_296 rfl (lv_at hl 3 rfl) ?_
                    refine r_get0 X Y (by decide) lk_behind (gf_behind _ _ _) rfl ey158 d_M_opensTicket_297 ?_
                    refine lv_aload_n X.1 X.2.1 d_M_opensTicket_300 rfl (lv_at hl 3 rfl) ?_
                    refine r_get0 X Y (by decide) lk_inside (gf_inside _ _ _) rfl ex158 d_M_opensTicket_301 ?_
                    refine z_isub X.1 X.2.1 d_M_opensTicket_304 ?_
                    refine lv_bipush (v := iI 40) X.1 X.2.1 d_M_opensTicket_305 (by decide) ?_
                    refine z_icmp_le (tgt := 315) X.1 X.2.1 d_M_opensTicket_307 (by decide) ⟨by omega, by omega⟩ ⟨by omega, by omega⟩ (fun h159 => ?_) (fun h159 => ?_)
                    · refine lv_iconst (v := iI 0) X.1 X.2.1 d_M_opensTicket_315 (by decide) ?_
                      exact m_reti hQQ X Y hr hlk ⟨S, 0, rfl, ⟨by omega, by omega, fun h9 => tkA_cg (s153.2.2 0 (by decide)) rfl rfl (tkA_T g153_TF (by decide) (by decide) (tk_fin (tk0_cg rfl rfl rfl (tk0_cg rfl rfl rfl (tk0_cg rfl rfl rfl (tk0_cg rfl rfl rfl (tk0_cg rfl rfl rfl a143))))) x150 x151 (st153 (by rw [x150, x151]; exact ((tk0_cg rfl rfl rfl (tk0_cg rfl rfl rfl (tk0_cg rfl rfl rfl (tk0_cg rfl rfl rfl (tk0_cg rfl rfl rfl a143)))))).1)) x153 x155 (s153.2.2 0 (by decide)) x157 iy158 (by omega))), (show pG1 I157 from ⟨x158, y158, ex158, ey158, by omega, by omega, by omega, by omega⟩), (pG2_cg rfl rfl (pG2_cg rfl rfl g153_P2)), (thF_cg rfl rfl (thF_cg rfl rfl (thF_tr (thF_cg rfl rfl (thF_cg rfl rfl f148)) g153_TF (by decide)))), (mmF_cg rfl (mmF_cg rfl (mmF_cg (s153.2.2 0 (by decide)) (mmF_cg rfl (mmF_cg rfl (mmF_cg rfl (mmF_cg rfl (mmF_cg rfl (mmF_cg (s140.2.2 0 (by decide)) (mmF_tr (mmF_cg rfl (mmF_cg rfl (mmF_cg rfl f131))) g138_MF (by decide)))))))))))⟩⟩ d_M_opensTicket_316
                    · refine lv_bipush (v := iI 60) X.1 X.2.1 d_M_opensTicket_310 (by decide) ?_
                      refine lv_goto (tgt := 316) X.1 X.2.1 d_M_opensTicket_312 (by decide) ?_
                      exact m_reti hQQ X Y hr hlk ⟨S, 60, rfl, ⟨by omega, by omega, fun h9 => absurd h9 (by decide), (show pG1 I157 from ⟨x158, y158, ex158, ey158, by omega, by omega, by omega, by omega⟩), (pG2_cg rfl rfl (pG2_cg rfl rfl g153_P2)), (thF_cg rfl rfl (thF_cg rfl rfl (thF_tr (thF_cg rfl rfl (thF_cg rfl rfl f148)) g153_TF (by decide)))), (mmF_cg rfl (mmF_cg rfl (mmF_cg (s153.2.2 0 (by decide)) (mmF_cg rfl (mmF_cg rfl (mmF_cg rfl (mmF_cg rfl (mmF_cg rfl (mmF_cg (s140.2.2 0 (by decide)) (mmF_tr (mmF_cg rfl (mmF_cg rfl (mmF_cg rfl f131))) g138_MF (by decide)))))))))))⟩⟩ d_M_opensTicket_316
                  · refine lv_bipush (v := iI 60) X.1 X.2.1 d_M_opensTicket_263 (by decide) ?_
                    exact m_reti hQQ X Y hr hlk ⟨S, 60, rfl, ⟨by omega, by omega, fun h9 => absurd h9 (by decide), g147_P1, (pG2_cg rfl rfl (pG2_cg rfl rfl (pG2_cg rfl rfl g140_P2))), f148, (mmF_cg rfl (mmF_cg rfl (mmF_cg rfl (mmF_cg (s140.2.2 0 (by decide)) (mmF_tr (mmF_cg rfl (mmF_cg rfl (mmF_cg rfl f131))) g138_MF (by decide))))))⟩⟩ d_M_opensTicket_265
              · refine lv_bipush (v := iI 31) X.1 X.2.1 d_M_opensTicket_217 (by decide) ?_
                exact m_reti hQQ X Y hr hlk ⟨S, 31, rfl, ⟨by omega, by omega, fun h9 => absurd h9 (by decide), (pG1_cg (s138.2.1 39 (by decide)) (s138.2.1 40 (by decide)) (show pG1 I135 from ⟨x136, y136, ex136, ey136, by omega, by omega, by omega, by omega⟩)), (pG2_cg (s138.2.2 37 (by decide)) (s138.2.2 38 (by decide)) (pG2_cg rfl rfl (pG2_cg rfl rfl (pG2_cg rfl rfl (pG2_cg (s130.2.2 37 (by decide)) (s130.2.2 38 (by decide)) (pG2_cg rfl rfl (pG2_cg rfl rfl (pG2_cg rfl rfl g117_P2)))))))), (thF_cg (s138.2.2 37 (by decide)) (s138.2.2 38 (by decide)) (thF_cg rfl rfl (thF_cg rfl rfl (thF_cg rfl rfl (thF_cg (s130.2.2 37 (by decide)) (s130.2.2 38 (by decide)) f125))))), (mmF_tr (mmF_cg rfl (mmF_cg rfl (mmF_cg rfl f131))) g138_MF (by decide))⟩⟩ d_M_opensTicket_219
            · refine lv_lload X.1 X.2.1 d_M_opensTicket_141 (lv_at hl 0 rfl) ?_
              refine lv_ldc2 (v := (18)) X.1 X.2.1 X.2.2.2.1 (X.2.2.1 _ cl_M_699) d_M_opensTicket_143 ?_
              refine z_lcmp X.1 X.2.1 d_M_opensTicket_146 (fun z160 l160 u160 x160 y160 => ?_)
              have c160 : ((18) : Int64).toInt = (18) := by decide
              refine z_if_eq (tgt := 153) X.1 X.2.1 d_M_opensTicket_147 (by decide) ⟨by omega, by omega⟩ (fun h161 => ?_) (fun h161 => ?_)
              · refine lv_aload_n X.1 X.2.1 d_M_opensTicket_153 rfl (lv_at hl 2 rfl) ?_
                refine lv_iload_n X.1 X.2.1 d_M_opensTicket_154 rfl (lv_at hl 3 rfl) ?_
                refine lv_lload_n X.1 X.2.1 d_M_opensTicket_155 rfl (lv_at hl 1 rfl) ?_
                refine z_l2i X.1 X.2.1 d_M_opensTicket_156 (fun z162 l162 u162 x162 => ?_)
                refine lv_lload X.1 X.2.1 d_M_opensTicket_157 (lv_at hl 0 rfl) ?_
                refine z_l2i X.1 X.2.1 d_M_opensTicket_159 (fun z163 l163 u163 x163 => ?_)
                refine lv_aload_n X.1 X.2.1 d_M_opensTicket_160 rfl (lv_at hl 2 rfl) ?_
                refine m_get X Y 58 (by decide) lk_key (gf_key _ _ _) rfl d_M_opensTicket_161 ?_
                refine r_nv (m_run (As := [.int (iI a1), .int (iI z162), .int (iI z163), .ref ((q 58))]) (rest := []) (n := 4) X Y hZ hA hml hl.1 (r_M_keyOf_key l D E h q H.size I124 J124 B117 G124 a1 (by omega) (by omega) z162 (by omega) (by omega) z163 (by omega) (by omega) S.1) kl_M_keyOf ks_M_keyOf kx_M_keyOf ki_M_keyOf ini_M hd_M_keyOf ⟨Nat.le_of_ble_eq_true rfl, Nat.le_of_ble_eq_true rfl⟩ rfl (Nat.le_of_ble_eq_true rfl) d_M_opensTicket_164 ⟨Nat.le_refl _, Nat.le_refl _⟩) X Y hA S (by decide) (by decide) (fun u H locs Y S s164 p164 => ?_)
                obtain ⟨I164, J164, B164, G164⟩ := u
                dsimp only at Y S s164 p164
                have i164 : I124 = I164 := (funext (fun j => s164.2.1 j (by simp))).symm
                subst i164
                have f165 : mmF 4200 8400 (B 0) (B164 0) := (mmF_cg (s164.2.2 0 (by decide)) (mmF_cg rfl (mmF_cg rfl (mmF_cg rfl (mmF_cg (s117.2.2 0 (by decide)) (mmF_cg rfl (mmF_cg rfl (mmF_cg (s112.2.2 0 (by decide)) (mmF_cg rfl (mmF_cg rfl (mmF_cg rfl (mmF_cg rfl (mmF_cg rfl (mmF_cg rfl mmF_rf))))))))))))))
                refine lv_aload_n X.1 X.2.1 d_M_opensTicket_167 rfl (lv_at hl 2 rfl) ?_
                refine lv_aload_n X.1 X.2.1 d_M_opensTicket_168 rfl (lv_at hl 2 rfl) ?_
                refine lv_bipush (v := iI 6) X.1 X.2.1 d_M_opensTicket_169 (by decide) ?_
                refine lv_iconst (v := iI 2) X.1 X.2.1 d_M_opensTicket_171 (by decide) ?_
                refine r_ni (m_run (As := [.int (iI 6), .int (iI 2)]) (rest := [.ref h]) (n := 2) X Y hZ hA hml hl.1 (r_M_a l D E h q H.size I124 J164 B164 G164 6 (by omega) (by omega) 2 (by omega) (by omega) S.1) kl_M_a ks_M_a kx_M_a ki_M_a ini_M hd_M_a ⟨Nat.le_of_ble_eq_true rfl, Nat.le_of_ble_eq_true rfl⟩ rfl (Nat.le_of_ble_eq_true rfl) d_M_opensTicket_172 ⟨Nat.le_refl _, Nat.le_refl _⟩) X Y hA S (by decide) (by decide) (fun z166 u H locs Y S s166 p166 => ?_)
                obtain ⟨I166, J166, B166, G166⟩ := u
                dsimp only at Y S s166 p166
                have i166 : I124 = I166 := (funext (fun j => s166.2.1 j (by simp))).symm
                subst i166
                have b166 : B164 = B166 := (funext (fun j => s166.2.2 j (by simp))).symm
                subst b166
                obtain ⟨l166, u166, x166⟩ := p166
                refine lv_aload_n X.1 X.2.1 d_M_opensTicket_175 rfl (lv_at hl 2 rfl) ?_
                refine lv_bipush (v := iI 6) X.1 X.2.1 d_M_opensTicket_176 (by decide) ?_
                refine lv_iconst (v := iI 2) X.1 X.2.1 d_M_opensTicket_178 (by decide) ?_
                refine r_ni (m_run (As := [.int (iI 6), .int (iI 2)]) (rest := [.int (iI z166), .ref h]) (n := 2) X Y hZ hA hml hl.1 (r_M_b l D E h q H.size I124 J166 B164 G166 6 (by omega) (by omega) 2 (by omega) (by omega) S.1) kl_M_b ks_M_b kx_M_b ki_M_b ini_M hd_M_b ⟨Nat.le_of_ble_eq_true rfl, Nat.le_of_ble_eq_true rfl⟩ rfl (Nat.le_of_ble_eq_true rfl) d_M_opensTicket_179 ⟨Nat.le_refl _, Nat.le_refl _⟩) X Y hA S (by decide) (by decide) (fun z167 u H locs Y S s167 p167 => ?_)
                obtain ⟨I167, J167, B167, G167⟩ := u
                dsimp only at Y S s167 p167
                have i167 : I124 = I167 := (funext (fun j => s167.2.1 j (by simp))).symm
                subst i167
                have b167 : B164 = B167 := (funext (fun j => s167.2.2 j (by simp))).symm
                subst b167
                obtain ⟨l167, u167, x167⟩ := p167
                have p168 : pr z166 z167 := by rw [x166, x167]; exact (pG2_cg rfl rfl (pG2_cg rfl rfl (pG2_cg (s164.2.2 37 (by decide)) (s164.2.2 38 (by decide)) (pG2_cg rfl rfl (pG2_cg rfl rfl (pG2_cg rfl rfl g117_P2)))))) (16 * 6 + 2 : Int).toNat (by omega)
                unfold pr at p168
                refine lv_iconst (v := iI 4) X.1 X.2.1 d_M_opensTicket_182 (by decide) ?_
                refine r_ni (m_run (As := [.int (iI z166), .int (iI z167), .int (iI 4)]) (rest := []) (n := 3) X Y hZ hA hml hl.1 (r_M_element l D E h q H.size I124 J167 B164 G167 z166 (by omega) (by omega) z167 (by omega) (by omega) 4 (by omega) (by omega) S.1 (B164 0) rfl (pG1_cg rfl rfl (pG1_cg rfl rfl (pG1_cg rfl rfl g124_P1))) (by omega) (by omega)) kl_M_element ks_M_element kx_M_element ki_M_element ini_M hd_M_element ⟨Nat.le_of_ble_eq_true rfl, Nat.le_of_ble_eq_true rfl⟩ rfl (Nat.le_of_ble_eq_true rfl) d_M_opensTicket_183 ⟨Nat.le_refl _, Nat.le_refl _⟩) X Y hA S (by decide) (by decide) (fun z169 u H locs Y S s169 p169 => ?_)
                obtain ⟨I169, J169, B169, G169⟩ := u
                dsimp only at Y S s169 p169
                have b169 : B164 = B169 := (funext (fun j => s169.2.2 j (by simp))).symm
                subst b169
                obtain ⟨l169, u169, x169, st169⟩ := p169
                obtain ⟨x170, y170, ex170, ey170, lx170, ly170, uy170, dy170, iy170, ky170⟩ := st169
                refine lv_pop X.1 X.2.1 d_M_opensTicket_186 rfl ?_
                refine lv_aload_n X.1 X.2.1 d_M_opensTicket_187 rfl (lv_at hl 2 rfl) ?_
                refine lv_aload_n X.1 X.2.1 d_M_opensTicket_188 rfl (lv_at hl 2 rfl) ?_
                refine m_get X Y 58 (by decide) lk_key (gf_key _ _ _) rfl d_M_opensTicket_189 ?_
                refine lv_lload X.1 X.2.1 d_M_opensTicket_192 (lv_at hl 0 rfl) ?_
                refine z_l2i X.1 X.2.1 d_M_opensTicket_194 (fun z171 l171 u171 x171 => ?_)
                refine lv_iconst (v := iI 2) X.1 X.2.1 d_M_opensTicket_195 (by decide) ?_
                refine lv_aload_n X.1 X.2.1 d_M_opensTicket_196 rfl (lv_at hl 2 rfl) ?_
                refine r_get0 X Y (by decide) lk_inside (gf_inside _ _ _) rfl ex170 d_M_opensTicket_197 ?_
                refine lv_aload_n X.1 X.2.1 d_M_opensTicket_200 rfl (lv_at hl 2 rfl) ?_
                refine r_get0 X Y (by decide) lk_behind (gf_behind _ _ _) rfl ey170 d_M_opensTicket_201 ?_
                refine lv_sipush (v := iI 4200) X.1 X.2.1 d_M_opensTicket_204 (by decide) ?_
                refine r_ni (m_run (As := [.ref ((q 58)), .int (iI z171), .int (iI 2), .int (iI x170), .int (iI y170), .int (iI 4200)]) (rest := []) (n := 6) X Y hZ hA hml hl.1 (r_M_open_key l D E h q H.size I169 J169 B164 G169 z171 (by omega) (by omega) 2 (by omega) (by omega) x170 (by omega) (by omega) y170 (by omega) (by omega) 4200 (by omega) (by omega) S.1 (by omega) (by omega)) kl_M_open ks_M_open kx_M_open ki_M_open ini_M hd_M_open ⟨Nat.le_of_ble_eq_true rfl, Nat.le_of_ble_eq_true rfl⟩ rfl (Nat.le_of_ble_eq_true rfl) d_M_opensTicket_207 ⟨Nat.le_refl _, Nat.le_refl _⟩) X Y hA S (by decide) (by decide) (fun z172 u H locs Y S s172 p172 => ?_)
                obtain ⟨I172, J172, B172, G172⟩ := u
                dsimp only at Y S s172 p172
                obtain ⟨l172, u172, x172, g172_MF⟩ := p172
                refine lv_istore (lv' := [(7, .int (iI z172)), (5, .long v124), (3, .long v121), (0, .ref h), (1, .int (iI a1)), (2, .int (iI a2))]) X.1 X.2.1 d_M_opensTicket_210 hl (by decide) rfl (fun ls hl => ?_)
                refine lv_iload X.1 X.2.1 d_M_opensTicket_212 (lv_at hl 0 rfl) ?_
                refine z_if_ge (tgt := 220) X.1 X.2.1 d_M_opensTicket_214 (by decide) ⟨by omega, by omega⟩ (fun h173 => ?_) (fun h173 => ?_)
                · refine lv_aload_n X.1 X.2.1 d_M_opensTicket_220 rfl (lv_at hl 3 rfl) ?_
                  refine lv_iconst (v := iI 3) X.1 X.2.1 d_M_opensTicket_221 (by decide) ?_
                  refine m_ldcSW (i := 15) X (by decide) (by decide) d_M_opensTicket_222 ?_
                  refine lv_sipush (v := iI 4200) X.1 X.2.1 d_M_opensTicket_225 (by decide) ?_
                  refine lv_sipush (v := iI 4200) X.1 X.2.1 d_M_opensTicket_228 (by decide) ?_
                  refine lv_iload X.1 X.2.1 d_M_opensTicket_231 (lv_at hl 0 rfl) ?_
                  refine z_iadd X.1 X.2.1 d_M_opensTicket_233 ?_
                  refine lv_iconst (v := iI 4) X.1 X.2.1 d_M_opensTicket_234 (by decide) ?_
                  refine r_ni (m_run (As := [.int (iI 3), .ref ((D.2.1 15)), .int (iI 4200), .int (iI (4200 + z172)), .int (iI 4)]) (rest := []) (n := 5) X Y hZ hA hml hl.1 (r_M_applied_t l D E h q H.size I172 J172 B172 G172 3 (by omega) (by omega) 15 (show 15 < nZ by decide) 4200 (by omega) (by omega) (4200 + z172) (by omega) (by omega) 4 (by omega) (by omega) S.1 5 (B172 0) rfl (isF (B172 0) 5) (by decide) (hisU (show rki 15 ≤ 5 by decide)) (pG1_cg (s172.2.1 39 (by decide)) (s172.2.1 40 (by decide)) (show pG1 I169 from ⟨x170, y170, ex170, ey170, by omega, by omega, by omega, by omega⟩)) (pG2_cg (s172.2.2 37 (by decide)) (s172.2.2 38 (by decide)) (pG2_cg rfl rfl (pG2_cg rfl rfl (pG2_cg rfl rfl (pG2_cg (s164.2.2 37 (by decide)) (s164.2.2 38 (by decide)) (pG2_cg rfl rfl (pG2_cg rfl rfl (pG2_cg rfl rfl g117_P2)))))))) (by omega) (by omega)) kl_M_applied ks_M_applied kx_M_applied ki_M_applied ini_M hd_M_applied ⟨Nat.le_of_ble_eq_true rfl, Nat.le_of_ble_eq_true rfl⟩ rfl (Nat.le_of_ble_eq_true rfl) d_M_opensTicket_235 ⟨Nat.le_refl _, Nat.le_refl _⟩) X Y hA S (by decide) (by decide) (fun z174 u H locs Y S s174 p174 => ?_)
                  obtain ⟨I174, J174, B174, G174⟩ := u
                  dsimp only at Y S s174 p174
                  obtain ⟨l174, u174, x174, st174, g174_P1, g174_P2⟩ := p174
                  have g174_TF : thF [4] (B172 37) (B172 38) (B174 37) (B174 38) := thF_of st174.1
                  refine z_if_eq (tgt := 263) X.1 X.2.1 d_M_opensTicket_238 (by decide) ⟨by omega, by omega⟩ (fun h175 => ?_) (fun h175 => ?_)
                  · refine lv_bipush (v := iI 60) X.1 X.2.1 d_M_opensTicket_263 (by decide) ?_
                    exact m_reti hQQ X Y hr hlk ⟨S, 60, rfl, ⟨by omega, by omega, fun h9 => absurd h9 (by decide), g174_P1, g174_P2, (thF_tr (thF_cg (s172.2.2 37 (by decide)) (s172.2.2 38 (by decide)) (thF_cg rfl rfl (thF_cg rfl rfl (thF_cg rfl rfl (thF_cg (s164.2.2 37 (by decide)) (s164.2.2 38 (by decide)) f125))))) g174_TF (by decide)), (mmF_cg (s174.2.2 0 (by decide)) (mmF_tr (mmF_cg rfl (mmF_cg rfl (mmF_cg rfl f165))) g172_MF (by decide)))⟩⟩ d_M_opensTicket_265
                  · have wa176 := (x174.mp (by omega)).1
                    unfold whP at wa176
                    have ra176 := el_rng (B172 0) (a := 4200) (b := 4200 + z172) (.inl (by omega))
                    have a176 := part_N (m := (B172 0)) (x174.mp (by omega)).2 (by omega) (by omega) (st174.2 (by omega))
                    rw [← s174.2.2 0 (by decide)] at a176
                    have wa177 := (x174.mp (by omega)).1
                    unfold whP at wa177
                    have ra177 := el_rng (B172 0) (a := 4200) (b := 4200 + z172) (.inl (by omega))
                    have a177 := part_N (m := (B172 0)) (x174.mp (by omega)).2 (by omega) (by omega) (st174.2 (by omega))
                    rw [← s174.2.2 0 (by decide)] at a177
                    refine lv_aload_n X.1 X.2.1 d_M_opensTicket_241 rfl (lv_at hl 3 rfl) ?_
                    refine lv_aload_n X.1 X.2.1 d_M_opensTicket_242 rfl (lv_at hl 3 rfl) ?_
                    refine lv_iconst (v := iI 4) X.1 X.2.1 d_M_opensTicket_243 (by decide) ?_
                    refine lv_iconst (v := iI 2) X.1 X.2.1 d_M_opensTicket_244 (by decide) ?_
                    refine r_ni (m_run (As := [.int (iI 4), .int (iI 2)]) (rest := [.ref h]) (n := 2) X Y hZ hA hml hl.1 (r_M_a l D E h q H.size I174 J174 B174 G174 4 (by omega) (by omega) 2 (by omega) (by omega) S.1) kl_M_a ks_M_a kx_M_a ki_M_a ini_M hd_M_a ⟨Nat.le_of_ble_eq_true rfl, Nat.le_of_ble_eq_true rfl⟩ rfl (Nat.le_of_ble_eq_true rfl) d_M_opensTicket_245 ⟨Nat.le_refl _, Nat.le_refl _⟩) X Y hA S (by decide) (by decide) (fun z178 u H locs Y S s178 p178 => ?_)
                    obtain ⟨I178, J178, B178, G178⟩ := u
                    dsimp only at Y S s178 p178
                    have i178 : I174 = I178 := (funext (fun j => s178.2.1 j (by simp))).symm
                    subst i178
                    have b178 : B174 = B178 := (funext (fun j => s178.2.2 j (by simp))).symm
                    subst b178
                    obtain ⟨l178, u178, x178⟩ := p178
                    refine lv_aload_n X.1 X.2.1 d_M_opensTicket_248 rfl (lv_at hl 3 rfl) ?_
                    refine lv_iconst (v := iI 4) X.1 X.2.1 d_M_opensTicket_249 (by decide) ?_
                    refine lv_iconst (v := iI 2) X.1 X.2.1 d_M_opensTicket_250 (by decide) ?_
                    refine r_ni (m_run (As := [.int (iI 4), .int (iI 2)]) (rest := [.int (iI z178), .ref h]) (n := 2) X Y hZ hA hml hl.1 (r_M_b l D E h q H.size I174 J178 B174 G178 4 (by omega) (by omega) 2 (by omega) (by omega) S.1) kl_M_b ks_M_b kx_M_b ki_M_b ini_M hd_M_b ⟨Nat.le_of_ble_eq_true rfl, Nat.le_of_ble_eq_true rfl⟩ rfl (Nat.le_of_ble_eq_true rfl) d_M_opensTicket_251 ⟨Nat.le_refl _, Nat.le_refl _⟩) X Y hA S (by decide) (by decide) (fun z179 u H locs Y S s179 p179 => ?_)
                    obtain ⟨I179, J179, B179, G179⟩ := u
                    dsimp only at Y S s179 p179
                    have i179 : I174 = I179 := (funext (fun j => s179.2.1 j (by simp))).symm
                    subst i179
                    have b179 : B174 = B179 := (funext (fun j => s179.2.2 j (by simp))).symm
                    subst b179
                    obtain ⟨l179, u179, x179⟩ := p179
                    have p180 : pr z178 z179 := by rw [x178, x179]; exact (pG2_cg rfl rfl (pG2_cg rfl rfl g174_P2)) (16 * 4 + 2 : Int).toNat (by omega)
                    unfold pr at p180
                    refine m_ldcSW (i := 2) X (by decide) (by decide) d_M_opensTicket_254 ?_
                    refine r_ni (m_run (As := [.int (iI z178), .int (iI z179), .ref ((D.2.1 2))]) (rest := []) (n := 3) X Y hZ hA hml hl.1 (r_M_isWord l D E h q H.size I174 J179 B174 G179 z178 (by omega) (by omega) z179 (by omega) (by omega) 2 (show 2 < nZ by decide) S.1 (pG1_cg rfl rfl (pG1_cg rfl rfl g174_P1)) (by omega) (by omega)) kl_M_isWord ks_M_isWord kx_M_isWord ki_M_isWord ini_M hd_M_isWord ⟨Nat.le_of_ble_eq_true rfl, Nat.le_of_ble_eq_true rfl⟩ rfl (Nat.le_of_ble_eq_true rfl) d_M_opensTicket_257 ⟨Nat.le_refl _, Nat.le_refl _⟩) X Y hA S (by decide) (by decide) (fun z181 u H locs Y S s181 p181 => ?_)
                    obtain ⟨I181, J181, B181, G181⟩ := u
                    dsimp only at Y S s181 p181
                    have b181 : B174 = B181 := (funext (fun j => s181.2.2 j (by simp))).symm
                    subst b181
                    have f182 : thF [4, 6, 11] (B 37) (B 38) (B174 37) (B174 38) := (thF_cg rfl rfl (thF_cg rfl rfl (thF_cg rfl rfl (thF_tr (thF_cg (s172.2.2 37 (by decide)) (s172.2.2 38 (by decide)) (thF_cg rfl rfl (thF_cg rfl rfl (thF_cg rfl rfl (thF_cg (s164.2.2 37 (by decide)) (s164.2.2 38 (by decide)) f125))))) g174_TF (by decide)))))
                    obtain ⟨l181, u181, x181, g181_P1⟩ := p181
                    refine z_if_ne (tgt := 266) X.1 X.2.1 d_M_opensTicket_260 (by decide) ⟨by omega, by omega⟩ (fun h183 => ?_) (fun h183 => ?_)
                    · refine lv_aload_n X.1 X.2.1 d_M_opensTicket_266 rfl (lv_at hl 3 rfl) ?_
                      refine lv_aload_n X.1 X.2.1 d_M_opensTicket_267 rfl (lv_at hl 3 rfl) ?_
                      refine lv_aload_n X.1 X.2.1 d_M_opensTicket_268 rfl (lv_at hl 3 rfl) ?_
                      refine lv_iconst (v := iI 4) X.1 X.2.1 d_M_opensTicket_269 (by decide) ?_
                      refine lv_iconst (v := iI 3) X.1 X.2.1 d_M_opensTicket_270 (by decide) ?_
                      refine r_ni (m_run (As := [.int (iI 4), .int (iI 3)]) (rest := [.ref h, .ref h]) (n := 2) X Y hZ hA hml hl.1 (r_M_a l D E h q H.size I181 J181 B174 G181 4 (by omega) (by omega) 3 (by omega) (by omega) S.1) kl_M_a ks_M_a kx_M_a ki_M_a ini_M hd_M_a ⟨Nat.le_of_ble_eq_true rfl, Nat.le_of_ble_eq_true rfl⟩ rfl (Nat.le_of_ble_eq_true rfl) d_M_opensTicket_271 ⟨Nat.le_refl _, Nat.le_refl _⟩) X Y hA S (by decide) (by decide) (fun z184 u H locs Y S s184 p184 => ?_)
                      obtain ⟨I184, J184, B184, G184⟩ := u
                      dsimp only at Y S s184 p184
                      have i184 : I181 = I184 := (funext (fun j => s184.2.1 j (by simp))).symm
                      subst i184
                      have b184 : B174 = B184 := (funext (fun j => s184.2.2 j (by simp))).symm
                      subst b184
                      obtain ⟨l184, u184, x184⟩ := p184
                      refine lv_aload_n X.1 X.2.1 d_M_opensTicket_274 rfl (lv_at hl 3 rfl) ?_
                      refine lv_iconst (v := iI 4) X.1 X.2.1 d_M_opensTicket_275 (by decide) ?_
                      refine lv_iconst (v := iI 3) X.1 X.2.1 d_M_opensTicket_276 (by decide) ?_
                      refine r_ni (m_run (As := [.int (iI 4), .int (iI 3)]) (rest := [.int (iI z184), .ref h, .ref h]) (n := 2) X Y hZ hA hml hl.1 (r_M_b l D E h q H.size I181 J184 B174 G184 4 (by omega) (by omega) 3 (by omega) (by omega) S.1) kl_M_b ks_M_b kx_M_b ki_M_b ini_M hd_M_b ⟨Nat.le_of_ble_eq_true rfl, Nat.le_of_ble_eq_true rfl⟩ rfl (Nat.le_of_ble_eq_true rfl) d_M_opensTicket_277 ⟨Nat.le_refl _, Nat.le_refl _⟩) X Y hA S (by decide) (by decide) (fun z185 u H locs Y S s185 p185 => ?_)
                      obtain ⟨I185, J185, B185, G185⟩ := u
                      dsimp only at Y S s185 p185
                      have i185 : I181 = I185 := (funext (fun j => s185.2.1 j (by simp))).symm
                      subst i185
                      have b185 : B174 = B185 := (funext (fun j => s185.2.2 j (by simp))).symm
                      subst b185
                      obtain ⟨l185, u185, x185⟩ := p185
                      have p186 : pr z184 z185 := by rw [x184, x185]; exact (pG2_cg rfl rfl (pG2_cg rfl rfl (pG2_cg rfl rfl (pG2_cg rfl rfl (pG2_cg rfl rfl g174_P2))))) (16 * 4 + 3 : Int).toNat (by omega)
                      unfold pr at p186
                      refine r_ni (m_run (As := [.int (iI z184), .int (iI z185)]) (rest := [.ref h]) (n := 2) X Y hZ hA hml hl.1 (r_M_partsAt l D E h q H.size I181 J185 B174 G185 z184 (by omega) (by omega) z185 (by omega) (by omega) S.1 (pG1_cg rfl rfl (pG1_cg rfl rfl g181_P1)) (pG2_cg rfl rfl (pG2_cg rfl rfl (pG2_cg rfl rfl (pG2_cg rfl rfl (pG2_cg rfl rfl g174_P2))))) (by omega) (by omega)) kl_M_partsAt ks_M_partsAt kx_M_partsAt ki_M_partsAt ini_M hd_M_partsAt ⟨Nat.le_of_ble_eq_true rfl, Nat.le_of_ble_eq_true rfl⟩ rfl (Nat.le_of_ble_eq_true rfl) d_M_opensTicket_280 ⟨Nat.le_refl _, Nat.le_refl _⟩) X Y hA S (by decide) (by decide) (fun z187 u H locs Y S s187 p187 => ?_)
                      obtain ⟨I187, J187, B187, G187⟩ := u
                      dsimp only at Y S s187 p187
                      obtain ⟨l187, u187, x187, st187, g187_P1, g187_P2, g187_TF⟩ := p187
                      have f188 : tk0 (B187 37) (B187 38) (B187 0) := (tk0_cg (s187.2.2 0 (by decide)) rfl rfl (tk0_T g187_TF (by decide) (by decide) (tk0_cg rfl rfl rfl (tk0_cg rfl rfl rfl (tk0_cg rfl rfl rfl (tk0_cg rfl rfl rfl (tk0_cg rfl rfl rfl a177)))))))
                      refine lv_aload_n X.1 X.2.1 d_M_opensTicket_283 rfl (lv_at hl 3 rfl) ?_
                      refine lv_bipush (v := iI 11) X.1 X.2.1 d_M_opensTicket_284 (by decide) ?_
                      refine lv_iconst (v := iI 1) X.1 X.2.1 d_M_opensTicket_286 (by decide) ?_
                      refine r_ni (m_run (As := [.int (iI 11), .int (iI 1)]) (rest := [.int (iI z187), .ref h]) (n := 2) X Y hZ hA hml hl.1 (r_M_b l D E h q H.size I187 J187 B187 G187 11 (by omega) (by omega) 1 (by omega) (by omega) S.1) kl_M_b ks_M_b kx_M_b ki_M_b ini_M hd_M_b ⟨Nat.le_of_ble_eq_true rfl, Nat.le_of_ble_eq_true rfl⟩ rfl (Nat.le_of_ble_eq_true rfl) d_M_opensTicket_287 ⟨Nat.le_refl _, Nat.le_refl _⟩) X Y hA S (by decide) (by decide) (fun z189 u H locs Y S s189 p189 => ?_)
                      obtain ⟨I189, J189, B189, G189⟩ := u
                      dsimp only at Y S s189 p189
                      have i189 : I187 = I189 := (funext (fun j => s189.2.1 j (by simp))).symm
                      subst i189
                      have b189 : B187 = B189 := (funext (fun j => s189.2.2 j (by simp))).symm
                      subst b189
                      obtain ⟨l189, u189, x189⟩ := p189
                      have p190 : pr z187 z189 := by rw [x187, x189]; exact (pG2_cg rfl rfl g187_P2) (16 * 11 + 1 : Int).toNat (by omega)
                      unfold pr at p190
                      refine lv_bipush (v := iI 48) X.1 X.2.1 d_M_opensTicket_290 (by decide) ?_
                      refine r_ni (m_run (As := [.int (iI z187), .int (iI z189), .int (iI 48)]) (rest := []) (n := 3) X Y hZ hA hml hl.1 (r_M_element l D E h q H.size I187 J189 B187 G189 z187 (by omega) (by omega) z189 (by omega) (by omega) 48 (by omega) (by omega) S.1 (B187 0) rfl (pG1_cg rfl rfl g187_P1) (by omega) (by omega)) kl_M_element ks_M_element kx_M_element ki_M_element ini_M hd_M_element ⟨Nat.le_of_ble_eq_true rfl, Nat.le_of_ble_eq_true rfl⟩ rfl (Nat.le_of_ble_eq_true rfl) d_M_opensTicket_292 ⟨Nat.le_refl _, Nat.le_refl _⟩) X Y hA S (by decide) (by decide) (fun z191 u H locs Y S s191 p191 => ?_)
                      obtain ⟨I191, J191, B191, G191⟩ := u
                      dsimp only at Y S s191 p191
                      have b191 : B187 = B191 := (funext (fun j => s191.2.2 j (by simp))).symm
                      subst b191
                      obtain ⟨l191, u191, x191, st191⟩ := p191
                      obtain ⟨x192, y192, ex192, ey192, lx192, ly192, uy192, dy192, iy192, ky192⟩ := st191
                      refine lv_pop X.1 X.2.1 d_M_opensTicket_295 rfl ?_
                      refine lv_aload_n X.1 X.2.1 d_M_opensTicket_296 rfl (lv_at hl 3 rfl) ?_
                      refine r_get0 X Y (by decide) lk_behind (gf_behind _ _ _) rfl ey192 d_M_opensTicket_297 ?_
                      refine lv_aload_n X.1 X.2.1 d_M_opensTicket_300 rfl (lv_at hl 3 rfl) ?_
                      refine r_get0 X Y (by decide) lk_inside (gf_inside _ _ _) rfl ex192 d_M_opensTicket_301 ?_
                      refine z_isub X.1 X.2.1 d_M_opensTicket_304 ?_
                      refine lv_bipush (v := iI 40) X.1 X.2.1 d_M_opensTicket_305 (by decide) ?_
                      refine z_icmp_le (tgt := 315) X.1 X.2.1 d_M_opensTicket_307 (by decide) ⟨by omega, by omega⟩ ⟨by omega, by omega⟩ (fun h193 => ?_) (fun h193 => ?_)
                      · refine lv_iconst (v := iI 0) X.1 X.2.1 d_M_opensTicket_315 (by decide) ?_
                        exact m_reti hQQ X Y hr hlk ⟨S, 0, rfl, ⟨by omega, by omega, fun h9 => tkA_cg (s187.2.2 0 (by decide)) rfl rfl (tkA_T g187_TF (by decide) (by decide) (tk_fin (tk0_cg rfl rfl rfl (tk0_cg rfl rfl rfl (tk0_cg rfl rfl rfl (tk0_cg rfl rfl rfl (tk0_cg rfl rfl rfl a177))))) x184 x185 (st187 (by rw [x184, x185]; exact ((tk0_cg rfl rfl rfl (tk0_cg rfl rfl rfl (tk0_cg rfl rfl rfl (tk0_cg rfl rfl rfl (tk0_cg rfl rfl rfl a177)))))).1)) x187 x189 (s187.2.2 0 (by decide)) x191 iy192 (by omega))), (show pG1 I191 from ⟨x192, y192, ex192, ey192, by omega, by omega, by omega, by omega⟩), (pG2_cg rfl rfl (pG2_cg rfl rfl g187_P2)), (thF_cg rfl rfl (thF_cg rfl rfl (thF_tr (thF_cg rfl rfl (thF_cg rfl rfl f182)) g187_TF (by decide)))), (mmF_cg rfl (mmF_cg rfl (mmF_cg (s187.2.2 0 (by decide)) (mmF_cg rfl (mmF_cg rfl (mmF_cg rfl (mmF_cg rfl (mmF_cg rfl (mmF_cg (s174.2.2 0 (by decide)) (mmF_tr (mmF_cg rfl (mmF_cg rfl (mmF_cg rfl f165))) g172_MF (by decide)))))))))))⟩⟩ d_M_opensTicket_316
                      · refine lv_bipush (v := iI 60) X.1 X.2.1 d_M_opensTicket_310 (by decide) ?_
                        refine lv_goto (tgt := 316) X.1 X.2.1 d_M_opensTicket_312 (by decide) ?_
                        exact m_reti hQQ X Y hr hlk ⟨S, 60, rfl, ⟨by omega, by omega, fun h9 => absurd h9 (by decide), (show pG1 I191 from ⟨x192, y192, ex192, ey192, by omega, by omega, by omega, by omega⟩), (pG2_cg rfl rfl (pG2_cg rfl rfl g187_P2)), (thF_cg rfl rfl (thF_cg rfl rfl (thF_tr (thF_cg rfl rfl (thF_cg rfl rfl f182)) g187_TF (by decide)))), (mmF_cg rfl (mmF_cg rfl (mmF_cg (s187.2.2 0 (by decide)) (mmF_cg rfl (mmF_cg rfl (mmF_cg rfl (mmF_cg rfl (mmF_cg rfl (mmF_cg (s174.2.2 0 (by decide)) (mmF_tr (mmF_cg rfl (mmF_cg rfl (mmF_cg rfl f165))) g172_MF (by decide)))))))))))⟩⟩ d_M_opensTicket_316
                    · refine lv_bipush (v := iI 60) X.1 X.2.1 d_M_opensTicket_263 (by decide) ?_
                      exact m_reti hQQ X Y hr hlk ⟨S, 60, rfl, ⟨by omega, by omega, fun h9 => absurd h9 (by decide), g181_P1, (pG2_cg rfl rfl (pG2_cg rfl rfl (pG2_cg rfl rfl g174_P2))), f182, (mmF_cg rfl (mmF_cg rfl (mmF_cg rfl (mmF_cg (s174.2.2 0 (by decide)) (mmF_tr (mmF_cg rfl (mmF_cg rfl (mmF_cg rfl f165))) g172_MF (by decide))))))⟩⟩ d_M_opensTicket_265
                · refine lv_bipush (v := iI 31) X.1 X.2.1 d_M_opensTicket_217 (by decide) ?_
                  exact m_reti hQQ X Y hr hlk ⟨S, 31, rfl, ⟨by omega, by omega, fun h9 => absurd h9 (by decide), (pG1_cg (s172.2.1 39 (by decide)) (s172.2.1 40 (by decide)) (show pG1 I169 from ⟨x170, y170, ex170, ey170, by omega, by omega, by omega, by omega⟩)), (pG2_cg (s172.2.2 37 (by decide)) (s172.2.2 38 (by decide)) (pG2_cg rfl rfl (pG2_cg rfl rfl (pG2_cg rfl rfl (pG2_cg (s164.2.2 37 (by decide)) (s164.2.2 38 (by decide)) (pG2_cg rfl rfl (pG2_cg rfl rfl (pG2_cg rfl rfl g117_P2)))))))), (thF_cg (s172.2.2 37 (by decide)) (s172.2.2 38 (by decide)) (thF_cg rfl rfl (thF_cg rfl rfl (thF_cg rfl rfl (thF_cg (s164.2.2 37 (by decide)) (s164.2.2 38 (by decide)) f125))))), (mmF_tr (mmF_cg rfl (mmF_cg rfl (mmF_cg rfl f165))) g172_MF (by decide))⟩⟩ d_M_opensTicket_219
              · refine lv_bipush (v := iI 14) X.1 X.2.1 d_M_opensTicket_150 (by decide) ?_
                exact m_reti hQQ X Y hr hlk ⟨S, 14, rfl, ⟨by omega, by omega, fun h9 => absurd h9 (by decide), g124_P1, (pG2_cg rfl rfl (pG2_cg rfl rfl (pG2_cg rfl rfl g117_P2))), f125, (mmF_cg rfl (mmF_cg rfl (mmF_cg rfl (mmF_cg (s117.2.2 0 (by decide)) (mmF_cg rfl (mmF_cg rfl (mmF_cg (s112.2.2 0 (by decide)) (mmF_cg rfl (mmF_cg rfl (mmF_cg rfl (mmF_cg rfl (mmF_cg rfl (mmF_cg rfl mmF_rf)))))))))))))⟩⟩ d_M_opensTicket_152
          · refine lv_bipush (v := iI 44) X.1 X.2.1 d_M_opensTicket_120 (by decide) ?_
            exact m_reti hQQ X Y hr hlk ⟨S, 44, rfl, ⟨by omega, by omega, fun h9 => absurd h9 (by decide), (pG1_cg rfl rfl (pG1_cg rfl rfl g117_P1)), (pG2_cg rfl rfl (pG2_cg rfl rfl g117_P2)), (thF_cg rfl rfl (thF_cg rfl rfl (thF_tr (thF_cg rfl rfl (thF_cg rfl rfl (thF_tr (thF_cg rfl rfl (thF_cg rfl rfl (thF_cg rfl rfl (thF_cg rfl rfl (thF_cg rfl rfl (thF_cg rfl rfl thF_rf)))))) g112_TF (by decide)))) g117_TF (by decide)))), (mmF_cg rfl (mmF_cg rfl (mmF_cg (s117.2.2 0 (by decide)) (mmF_cg rfl (mmF_cg rfl (mmF_cg (s112.2.2 0 (by decide)) (mmF_cg rfl (mmF_cg rfl (mmF_cg rfl (mmF_cg rfl (mmF_cg rfl (mmF_cg rfl mmF_rf))))))))))))⟩⟩ d_M_opensTicket_122
        · refine lv_aload_n X.1 X.2.1 d_M_opensTicket_93 rfl (lv_at hl 0 rfl) ?_
          refine lv_bipush (v := iI 6) X.1 X.2.1 d_M_opensTicket_94 (by decide) ?_
          refine lv_iconst (v := iI 1) X.1 X.2.1 d_M_opensTicket_96 (by decide) ?_
          refine r_nl (m_run (As := [.int (iI 6), .int (iI 1)]) (rest := []) (n := 2) X Y hZ hA hml hl.1 (r_M_numberAt l D E h q H.size I117 J118 B117 G118 6 (by omega) (by omega) 1 (by omega) (by omega) S.1 (pG1_cg rfl rfl g117_P1) (pG2_cg rfl rfl g117_P2)) kl_M_numberAt ks_M_numberAt kx_M_numberAt ki_M_numberAt ini_M hd_M_numberAt ⟨Nat.le_of_ble_eq_true rfl, Nat.le_of_ble_eq_true rfl⟩ rfl (Nat.le_of_ble_eq_true rfl) d_M_opensTicket_97 ⟨Nat.le_refl _, Nat.le_refl _⟩) X Y hA S (by decide) (by decide) (fun v194 u H locs Y S s194 p194 => ?_)
          obtain ⟨I194, J194, B194, G194⟩ := u
          dsimp only at Y S s194 p194
          have b194 : B117 = B194 := (funext (fun j => s194.2.2 j (by simp))).symm
          subst b194
          have g194_P1 := p194
          refine lv_goto (tgt := 110) X.1 X.2.1 d_M_opensTicket_100 (by decide) ?_
          refine lv_lstore_n (lv' := [(3, .long v194), (0, .ref h), (1, .int (iI a1)), (2, .int (iI a2))]) X.1 X.2.1 d_M_opensTicket_110 rfl hl (by decide) rfl (fun ls hl => ?_)
          refine lv_aload_n X.1 X.2.1 d_M_opensTicket_111 rfl (lv_at hl 1 rfl) ?_
          refine lv_iload_n X.1 X.2.1 d_M_opensTicket_112 rfl (lv_at hl 2 rfl) ?_
          refine lv_lload_n X.1 X.2.1 d_M_opensTicket_113 rfl (lv_at hl 0 rfl) ?_
          refine r_ni (m_run (As := [.int (iI a1), .long v194]) (rest := []) (n := 2) X Y hZ hA hml hl.1 (r_M_mayOpen l D E h q H.size I194 J194 B117 G194 a1 (by omega) (by omega) v194 S.1) kl_M_mayOpen ks_M_mayOpen kx_M_mayOpen ki_M_mayOpen ini_M hd_M_mayOpen ⟨Nat.le_of_ble_eq_true rfl, Nat.le_of_ble_eq_true rfl⟩ rfl (Nat.le_of_ble_eq_true rfl) d_M_opensTicket_114 ⟨Nat.le_refl _, Nat.le_refl _⟩) X Y hA S (by decide) (by decide) (fun z195 u H locs Y S s195 p195 => ?_)
          obtain ⟨I195, J195, B195, G195⟩ := u
          dsimp only at Y S s195 p195
          have i195 : I194 = I195 := (funext (fun j => s195.2.1 j (by simp))).symm
          subst i195
          have b195 : B117 = B195 := (funext (fun j => s195.2.2 j (by simp))).symm
          subst b195
          have f196 : thF [4, 6, 11] (B 37) (B 38) (B117 37) (B117 38) := (thF_cg rfl rfl (thF_cg rfl rfl (thF_cg rfl rfl (thF_tr (thF_cg rfl rfl (thF_cg rfl rfl (thF_tr (thF_cg rfl rfl (thF_cg rfl rfl (thF_cg rfl rfl (thF_cg rfl rfl (thF_cg rfl rfl (thF_cg rfl rfl thF_rf)))))) g112_TF (by decide)))) g117_TF (by decide)))))
          obtain ⟨l195, u195, x195⟩ := p195
          refine z_if_ne (tgt := 123) X.1 X.2.1 d_M_opensTicket_117 (by decide) ⟨by omega, by omega⟩ (fun h197 => ?_) (fun h197 => ?_)
          · refine lv_aload_n X.1 X.2.1 d_M_opensTicket_123 rfl (lv_at hl 1 rfl) ?_
            refine lv_bipush (v := iI 6) X.1 X.2.1 d_M_opensTicket_124 (by decide) ?_
            refine lv_iconst (v := iI 0) X.1 X.2.1 d_M_opensTicket_126 (by decide) ?_
            refine r_nl (m_run (As := [.int (iI 6), .int (iI 0)]) (rest := []) (n := 2) X Y hZ hA hml hl.1 (r_M_numberAt l D E h q H.size I194 J195 B117 G195 6 (by omega) (by omega) 0 (by omega) (by omega) S.1 (pG1_cg rfl rfl g194_P1) (pG2_cg rfl rfl (pG2_cg rfl rfl (pG2_cg rfl rfl g117_P2)))) kl_M_numberAt ks_M_numberAt kx_M_numberAt ki_M_numberAt ini_M hd_M_numberAt ⟨Nat.le_of_ble_eq_true rfl, Nat.le_of_ble_eq_true rfl⟩ rfl (Nat.le_of_ble_eq_true rfl) d_M_opensTicket_127 ⟨Nat.le_refl _, Nat.le_refl _⟩) X Y hA S (by decide) (by decide) (fun v198 u H locs Y S s198 p198 => ?_)
            obtain ⟨I198, J198, B198, G198⟩ := u
            dsimp only at Y S s198 p198
            have b198 : B117 = B198 := (funext (fun j => s198.2.2 j (by simp))).symm
            subst b198
            have g198_P1 := p198
            refine lv_lstore (lv' := [(5, .long v198), (3, .long v194), (0, .ref h), (1, .int (iI a1)), (2, .int (iI a2))]) X.1 X.2.1 d_M_opensTicket_130 hl (by decide) rfl (fun ls hl => ?_)
            refine lv_lload X.1 X.2.1 d_M_opensTicket_132 (lv_at hl 0 rfl) ?_
            refine lv_ldc2 (v := (17)) X.1 X.2.1 X.2.2.2.1 (X.2.2.1 _ cl_M_697) d_M_opensTicket_134 ?_
            refine z_lcmp X.1 X.2.1 d_M_opensTicket_137 (fun z199 l199 u199 x199 y199 => ?_)
            have c199 : ((17) : Int64).toInt = (17) := by decide
            refine z_if_eq (tgt := 153) X.1 X.2.1 d_M_opensTicket_138 (by decide) ⟨by omega, by omega⟩ (fun h200 => ?_) (fun h200 => ?_)
            · refine lv_aload_n X.1 X.2.1 d_M_opensTicket_153 rfl (lv_at hl 2 rfl) ?_
              refine lv_iload_n X.1 X.2.1 d_M_opensTicket_154 rfl (lv_at hl 3 rfl) ?_
              refine lv_lload_n X.1 X.2.1 d_M_opensTicket_155 rfl (lv_at hl 1 rfl) ?_
              refine z_l2i X.1 X.2.1 d_M_opensTicket_156 (fun z201 l201 u201 x201 => ?_)
              refine lv_lload X.1 X.2.1 d_M_opensTicket_157 (lv_at hl 0 rfl) ?_
              refine z_l2i X.1 X.2.1 d_M_opensTicket_159 (fun z202 l202 u202 x202 => ?_)
              refine lv_aload_n X.1 X.2.1 d_M_opensTicket_160 rfl (lv_at hl 2 rfl) ?_
              refine m_get X Y 58 (by decide) lk_key (gf_key _ _ _) rfl d_M_opensTicket_161 ?_
              refine r_nv (m_run (As := [.int (iI a1), .int (iI z201), .int (iI z202), .ref ((q 58))]) (rest := []) (n := 4) X Y hZ hA hml hl.1 (r_M_keyOf_key l D E h q H.size I198 J198 B117 G198 a1 (by omega) (by omega) z201 (by omega) (by omega) z202 (by omega) (by omega) S.1) kl_M_keyOf ks_M_keyOf kx_M_keyOf ki_M_keyOf ini_M hd_M_keyOf ⟨Nat.le_of_ble_eq_true rfl, Nat.le_of_ble_eq_true rfl⟩ rfl (Nat.le_of_ble_eq_true rfl) d_M_opensTicket_164 ⟨Nat.le_refl _, Nat.le_refl _⟩) X Y hA S (by decide) (by decide) (fun u H locs Y S s203 p203 => ?_)
              obtain ⟨I203, J203, B203, G203⟩ := u
              dsimp only at Y S s203 p203
              have i203 : I198 = I203 := (funext (fun j => s203.2.1 j (by simp))).symm
              subst i203
              have f204 : mmF 4200 8400 (B 0) (B203 0) := (mmF_cg (s203.2.2 0 (by decide)) (mmF_cg rfl (mmF_cg rfl (mmF_cg rfl (mmF_cg rfl (mmF_cg (s117.2.2 0 (by decide)) (mmF_cg rfl (mmF_cg rfl (mmF_cg (s112.2.2 0 (by decide)) (mmF_cg rfl (mmF_cg rfl (mmF_cg rfl (mmF_cg rfl (mmF_cg rfl (mmF_cg rfl mmF_rf)))))))))))))))
              refine lv_aload_n X.1 X.2.1 d_M_opensTicket_167 rfl (lv_at hl 2 rfl) ?_
              refine lv_aload_n X.1 X.2.1 d_M_opensTicket_168 rfl (lv_at hl 2 rfl) ?_
              refine lv_bipush (v := iI 6) X.1 X.2.1 d_M_opensTicket_169 (by decide) ?_
              refine lv_iconst (v := iI 2) X.1 X.2.1 d_M_opensTicket_171 (by decide) ?_
              refine r_ni (m_run (As := [.int (iI 6), .int (iI 2)]) (rest := [.ref h]) (n := 2) X Y hZ hA hml hl.1 (r_M_a l D E h q H.size I198 J203 B203 G203 6 (by omega) (by omega) 2 (by omega) (by omega) S.1) kl_M_a ks_M_a kx_M_a ki_M_a ini_M hd_M_a ⟨Nat.le_of_ble_eq_true rfl, Nat.le_of_ble_eq_true rfl⟩ rfl (Nat.le_of_ble_eq_true rfl) d_M_opensTicket_172 ⟨Nat.le_refl _, Nat.le_refl _⟩) X Y hA S (by decide) (by decide) (fun z205 u H locs Y S s205 p205 => ?_)
              obtain ⟨I205, J205, B205, G205⟩ := u
              dsimp only at Y S s205 p205
              have i205 : I198 = I205 := (funext (fun j => s205.2.1 j (by simp))).symm
              subst i205
              have b205 : B203 = B205 := (funext (fun j => s205.2.2 j (by simp))).symm
              subst b205
              obtain ⟨l205, u205, x205⟩ := p205
              refine lv_aload_n X.1 X.2.1 d_M_opensTicket_175 rfl (lv_at hl 2 rfl) ?_
              refine lv_bipush (v := iI 6) X.1 X.2.1 d_M_opensTicket_176 (by decide) ?_
              refine lv_iconst (v := iI 2) X.1 X.2.1 d_M_opensTicket_178 (by decide) ?_
              refine r_ni (m_run (As := [.int (iI 6), .int (iI 2)]) (rest := [.int (iI z205), .ref h]) (n := 2) X Y hZ hA hml hl.1 (r_M_b l D E h q H.size I198 J205 B203 G205 6 (by omega) (by omega) 2 (by omega) (by omega) S.1) kl_M_b ks_M_b kx_M_b ki_M_b ini_M hd_M_b ⟨Nat.le_of_ble_eq_true rfl, Nat.le_of_ble_eq_true rfl⟩ rfl (Nat.le_of_ble_eq_true rfl) d_M_opensTicket_179 ⟨Nat.le_refl _, Nat.le_refl _⟩) X Y hA S (by decide) (by decide) (fun z206 u H locs Y S s206 p206 => ?_)
              obtain ⟨I206, J206, B206, G206⟩ := u
              dsimp only at Y S s206 p206
              have i206 : I198 = I206 := (funext (fun j => s206.2.1 j (by simp))).symm
              subst i206
              have b206 : B203 = B206 := (funext (fun j => s206.2.2 j (by simp))).symm
              subst b206
              obtain ⟨l206, u206, x206⟩ := p206
              have p207 : pr z205 z206 := by rw [x205, x206]; exact (pG2_cg rfl rfl (pG2_cg rfl rfl (pG2_cg (s203.2.2 37 (by decide)) (s203.2.2 38 (by decide)) (pG2_cg rfl rfl (pG2_cg rfl rfl (pG2_cg rfl rfl (pG2_cg rfl rfl g117_P2))))))) (16 * 6 + 2 : Int).toNat (by omega)
              unfold pr at p207
              refine lv_iconst (v := iI 4) X.1 X.2.1 d_M_opensTicket_182 (by decide) ?_
              refine r_ni (m_run (As := [.int (iI z205), .int (iI z206), .int (iI 4)]) (rest := []) (n := 3) X Y hZ hA hml hl.1 (r_M_element l D E h q H.size I198 J206 B203 G206 z205 (by omega) (by omega) z206 (by omega) (by omega) 4 (by omega) (by omega) S.1 (B203 0) rfl (pG1_cg rfl rfl (pG1_cg rfl rfl (pG1_cg rfl rfl g198_P1))) (by omega) (by omega)) kl_M_element ks_M_element kx_M_element ki_M_element ini_M hd_M_element ⟨Nat.le_of_ble_eq_true rfl, Nat.le_of_ble_eq_true rfl⟩ rfl (Nat.le_of_ble_eq_true rfl) d_M_opensTicket_183 ⟨Nat.le_refl _, Nat.le_refl _⟩) X Y hA S (by decide) (by decide) (fun z208 u H locs Y S s208 p208 => ?_)
              obtain ⟨I208, J208, B208, G208⟩ := u
              dsimp only at Y S s208 p208
              have b208 : B203 = B208 := (funext (fun j => s208.2.2 j (by simp))).symm
              subst b208
              obtain ⟨l208, u208, x208, st208⟩ := p208
              obtain ⟨x209, y209, ex209, ey209, lx209, ly209, uy209, dy209, iy209, ky209⟩ := st208
              refine lv_pop X.1 X.2.1 d_M_opensTicket_186 rfl ?_
              refine lv_aload_n X.1 X.2.1 d_M_opensTicket_187 rfl (lv_at hl 2 rfl) ?_
              refine lv_aload_n X.1 X.2.1 d_M_opensTicket_188 rfl (lv_at hl 2 rfl) ?_
              refine m_get X Y 58 (by decide) lk_key (gf_key _ _ _) rfl d_M_opensTicket_189 ?_
              refine lv_lload X.1 X.2.1 d_M_opensTicket_192 (lv_at hl 0 rfl) ?_
              refine z_l2i X.1 X.2.1 d_M_opensTicket_194 (fun z210 l210 u210 x210 => ?_)
              refine lv_iconst (v := iI 2) X.1 X.2.1 d_M_opensTicket_195 (by decide) ?_
              refine lv_aload_n X.1 X.2.1 d_M_opensTicket_196 rfl (lv_at hl 2 rfl) ?_
              refine r_get0 X Y (by decide) lk_inside (gf_inside _ _ _) rfl ex209 d_M_opensTicket_197 ?_
              refine lv_aload_n X.1 X.2.1 d_M_opensTicket_200 rfl (lv_at hl 2 rfl) ?_
              refine r_get0 X Y (by decide) lk_behind (gf_behind _ _ _) rfl ey209 d_M_opensTicket_201 ?_
              refine lv_sipush (v := iI 4200) X.1 X.2.1 d_M_opensTicket_204 (by decide) ?_
              refine r_ni (m_run (As := [.ref ((q 58)), .int (iI z210), .int (iI 2), .int (iI x209), .int (iI y209), .int (iI 4200)]) (rest := []) (n := 6) X Y hZ hA hml hl.1 (r_M_open_key l D E h q H.size I208 J208 B203 G208 z210 (by omega) (by omega) 2 (by omega) (by omega) x209 (by omega) (by omega) y209 (by omega) (by omega) 4200 (by omega) (by omega) S.1 (by omega) (by omega)) kl_M_open ks_M_open kx_M_open ki_M_open ini_M hd_M_open ⟨Nat.le_of_ble_eq_true rfl, Nat.le_of_ble_eq_true rfl⟩ rfl (Nat.le_of_ble_eq_true rfl) d_M_opensTicket_207 ⟨Nat.le_refl _, Nat.le_refl _⟩) X Y hA S (by decide) (by decide) (fun z211 u H locs Y S s211 p211 => ?_)
              obtain ⟨I211, J211, B211, G211⟩ := u
              dsimp only at Y S s211 p211
              obtain ⟨l211, u211, x211, g211_MF⟩ := p211
              refine lv_istore (lv' := [(7, .int (iI z211)), (5, .long v198), (3, .long v194), (0, .ref h), (1, .int (iI a1)), (2, .int (iI a2))]) X.1 X.2.1 d_M_opensTicket_210 hl (by decide) rfl (fun ls hl => ?_)
              refine lv_iload X.1 X.2.1 d_M_opensTicket_212 (lv_at hl 0 rfl) ?_
              refine z_if_ge (tgt := 220) X.1 X.2.1 d_M_opensTicket_214 (by decide) ⟨by omega, by omega⟩ (fun h212 => ?_) (fun h212 => ?_)
              · refine lv_aload_n X.1 X.2.1 d_M_opensTicket_220 rfl (lv_at hl 3 rfl) ?_
                refine lv_iconst (v := iI 3) X.1 X.2.1 d_M_opensTicket_221 (by decide) ?_
                refine m_ldcSW (i := 15) X (by decide) (by decide) d_M_opensTicket_222 ?_
                refine lv_sipush (v := iI 4200) X.1 X.2.1 d_M_opensTicket_225 (by decide) ?_
                refine lv_sipush (v := iI 4200) X.1 X.2.1 d_M_opensTicket_228 (by decide) ?_
                refine lv_iload X.1 X.2.1 d_M_opensTicket_231 (lv_at hl 0 rfl) ?_
                refine z_iadd X.1 X.2.1 d_M_opensTicket_233 ?_
                refine lv_iconst (v := iI 4) X.1 X.2.1 d_M_opensTicket_234 (by decide) ?_
                refine r_ni (m_run (As := [.int (iI 3), .ref ((D.2.1 15)), .int (iI 4200), .int (iI (4200 + z211)), .int (iI 4)]) (rest := []) (n := 5) X Y hZ hA hml hl.1 (r_M_applied_t l D E h q H.size I211 J211 B211 G211 3 (by omega) (by omega) 15 (show 15 < nZ by decide) 4200 (by omega) (by omega) (4200 + z211) (by omega) (by omega) 4 (by omega) (by omega) S.1 5 (B211 0) rfl (isF (B211 0) 5) (by decide) (hisU (show rki 15 ≤ 5 by decide)) (pG1_cg (s211.2.1 39 (by decide)) (s211.2.1 40 (by decide)) (show pG1 I208 from ⟨x209, y209, ex209, ey209, by omega, by omega, by omega, by omega⟩)) (pG2_cg (s211.2.2 37 (by decide)) (s211.2.2 38 (by decide)) (pG2_cg rfl rfl (pG2_cg rfl rfl (pG2_cg rfl rfl (pG2_cg (s203.2.2 37 (by decide)) (s203.2.2 38 (by decide)) (pG2_cg rfl rfl (pG2_cg rfl rfl (pG2_cg rfl rfl (pG2_cg rfl rfl g117_P2))))))))) (by omega) (by omega)) kl_M_applied ks_M_applied kx_M_applied ki_M_applied ini_M hd_M_applied ⟨Nat.le_of_ble_eq_true rfl, Nat.le_of_ble_eq_true rfl⟩ rfl (Nat.le_of_ble_eq_true rfl) d_M_opensTicket_235 ⟨Nat.le_refl _, Nat.le_refl _⟩) X Y hA S (by decide) (by decide) (fun z213 u H locs Y S s213 p213 => ?_)
                obtain ⟨I213, J213, B213, G213⟩ := u
                dsimp only at Y S s213 p213
                obtain ⟨l213, u213, x213, st213, g213_P1, g213_P2⟩ := p213
                have g213_TF : thF [4] (B211 37) (B211 38) (B213 37) (B213 38) := thF_of st213.1
                refine z_if_eq (tgt := 263) X.1 X.2.1 d_M_opensTicket_238 (by decide) ⟨by omega, by omega⟩ (fun h214 => ?_) (fun h214 => ?_)
                · refine lv_bipush (v := iI 60) X.1 X.2.1 d_M_opensTicket_263 (by decide) ?_
                  exact m_reti hQQ X Y hr hlk ⟨S, 60, rfl, ⟨by omega, by omega, fun h9 => absurd h9 (by decide), g213_P1, g213_P2, (thF_tr (thF_cg (s211.2.2 37 (by decide)) (s211.2.2 38 (by decide)) (thF_cg rfl rfl (thF_cg rfl rfl (thF_cg rfl rfl (thF_cg (s203.2.2 37 (by decide)) (s203.2.2 38 (by decide)) (thF_cg rfl rfl f196)))))) g213_TF (by decide)), (mmF_cg (s213.2.2 0 (by decide)) (mmF_tr (mmF_cg rfl (mmF_cg rfl (mmF_cg rfl f204))) g211_MF (by decide)))⟩⟩ d_M_opensTicket_265
                · have wa215 := (x213.mp (by omega)).1
                  unfold whP at wa215
                  have ra215 := el_rng (B211 0) (a := 4200) (b := 4200 + z211) (.inl (by omega))
                  have a215 := part_N (m := (B211 0)) (x213.mp (by omega)).2 (by omega) (by omega) (st213.2 (by omega))
                  rw [← s213.2.2 0 (by decide)] at a215
                  have wa216 := (x213.mp (by omega)).1
                  unfold whP at wa216
                  have ra216 := el_rng (B211 0) (a := 4200) (b := 4200 + z211) (.inl (by omega))
                  have a216 := part_N (m := (B211 0)) (x213.mp (by omega)).2 (by omega) (by omega) (st213.2 (by omega))
                  rw [← s213.2.2 0 (by decide)] at a216
                  refine lv_aload_n X.1 X.2.1 d_M_opensTicket_241 rfl (lv_at hl 3 rfl) ?_
                  refine lv_aload_n X.1 X.2.1 d_M_opensTicket_242 rfl (lv_at hl 3 rfl) ?_
                  refine lv_iconst (v := iI 4) X.1 X.2.1 d_M_opensTicket_243 (by decide) ?_
                  refine lv_iconst (v := iI 2) X.1 X.2.1 d_M_opensTicket_244 (by decide) ?_
                  refine r_ni (m_run (As := [.int (iI 4), .int (iI 2)]) (rest := [.ref h]) (n := 2) X Y hZ hA hml hl.1 (r_M_a l D E h q H.size I213 J213 B213 G213 4 (by omega) (by omega) 2 (by omega) (by omega) S.1) kl_M_a ks_M_a kx_M_a ki_M_a ini_M hd_M_a ⟨Nat.le_of_ble_eq_true rfl, Nat.le_of_ble_eq_true rfl⟩ rfl (Nat.le_of_ble_eq_true rfl) d_M_opensTicket_245 ⟨Nat.le_refl _, Nat.le_refl _⟩) X Y hA S (by decide) (by decide) (fun z217 u H locs Y S s217 p217 => ?_)
                  obtain ⟨I217, J217, B217, G217⟩ := u
                  dsimp only at Y S s217 p217
                  have i217 : I213 = I217 := (funext (fun j => s217.2.1 j (by simp))).symm
                  subst i217
                  have b217 : B213 = B217 := (funext (fun j => s217.2.2 j (by simp))).symm
                  subst b217
                  obtain ⟨l217, u217, x217⟩ := p217
                  refine lv_aload_n X.1 X.2.1 d_M_opensTicket_248 rfl (lv_at hl 3 rfl) ?_
                  refine lv_iconst (v := iI 4) X.1 X.2.1 d_M_opensTicket_249 (by decide) ?_
                  refine lv_iconst (v := iI 2) X.1 X.2.1 d_M_opensTicket_250 (by decide) ?_
                  refine r_ni (m_run (As := [.int (iI 4), .int (iI 2)]) (rest := [.int (iI z217), .ref h]) (n := 2) X Y hZ hA hml hl.1 (r_M_b l D E h q H.size I213 J217 B213 G217 4 (by omega) (by omega) 2 (by omega) (by omega) S.1) kl_M_b ks_M_b kx_M_b ki_M_b ini_M hd_M_b ⟨Nat.le_of_ble_eq_true rfl, Nat.le_of_ble_eq_true rfl⟩ rfl (Nat.le_of_ble_eq_true rfl) d_M_opensTicket_251 ⟨Nat.le_refl _, Nat.le_refl _⟩) X Y hA S (by decide) (by decide) (fun z218 u H locs Y S s218 p218 => ?_)
                  obtain ⟨I218, J218, B218, G218⟩ := u
                  dsimp only at Y S s218 p218
                  have i218 : I213 = I218 := (funext (fun j => s218.2.1 j (by simp))).symm
                  subst i218
                  have b218 : B213 = B218 := (funext (fun j => s218.2.2 j (by simp))).symm
                  subst b218
                  have f219 : thF [4, 6, 11] (B 37) (B 38) (B213 37) (B213 38) := (thF_cg rfl rfl (thF_cg rfl rfl (thF_tr (thF_cg (s211.2.2 37 (by decide)) (s211.2.2 38 (by decide)) (thF_cg rfl rfl (thF_cg rfl rfl (thF_cg rfl rfl (thF_cg (s203.2.2 37 (by decide)) (s203.2.2 38 (by decide)) (thF_cg rfl rfl f196)))))) g213_TF (by decide))))
                  obtain ⟨l218, u218, x218⟩ := p218
                  have p220 : pr z217 z218 := by rw [x217, x218]; exact (pG2_cg rfl rfl (pG2_cg rfl rfl g213_P2)) (16 * 4 + 2 : Int).toNat (by omega)
                  unfold pr at p220
                  refine m_ldcSW (i := 2) X (by decide) (by decide) d_M_opensTicket_254 ?_
                  refine r_ni (m_run (As := [.int (iI z217), .int (iI z218), .ref ((D.2.1 2))]) (rest := []) (n := 3) X Y hZ hA hml hl.1 (r_M_isWord l D E h q H.size I213 J218 B213 G218 z217 (by omega) (by omega) z218 (by omega) (by omega) 2 (show 2 < nZ by decide) S.1 (pG1_cg rfl rfl (pG1_cg rfl rfl g213_P1)) (by omega) (by omega)) kl_M_isWord ks_M_isWord kx_M_isWord ki_M_isWord ini_M hd_M_isWord ⟨Nat.le_of_ble_eq_true rfl, Nat.le_of_ble_eq_true rfl⟩ rfl (Nat.le_of_ble_eq_true rfl) d_M_opensTicket_257 ⟨Nat.le_refl _, Nat.le_refl _⟩) X Y hA S (by decide) (by decide) (fun z221 u H locs Y S s221 p221 => ?_)
                  obtain ⟨I221, J221, B221, G221⟩ := u
                  dsimp only at Y S s221 p221
                  have b221 : B213 = B221 := (funext (fun j => s221.2.2 j (by simp))).symm
                  subst b221
                  obtain ⟨l221, u221, x221, g221_P1⟩ := p221
                  refine z_if_ne (tgt := 266) X.1 X.2.1 d_M_opensTicket_260 (by decide) ⟨by omega, by omega⟩ (fun h222 => ?_) (fun h222 => ?_)
                  · refine lv_aload_n X.1 X.2.1 d_M_opensTicket_266 rfl (lv_at hl 3 rfl) ?_
                    refine lv_aload_n X.1 X.2.1 d_M_opensTicket_267 rfl (lv_at hl 3 rfl) ?_
                    refine lv_aload_n X.1 X.2.1 d_M_opensTicket_268 rfl (lv_at hl 3 rfl) ?_
                    refine lv_iconst (v := iI 4) X.1 X.2.1 d_M_opensTicket_269 (by decide) ?_
                    refine lv_iconst (v := iI 3) X.1 X.2.1 d_M_opensTicket_270 (by decide) ?_
                    refine r_ni (m_run (As := [.int (iI 4), .int (iI 3)]) (rest := [.ref h, .ref h]) (n := 2) X Y hZ hA hml hl.1 (r_M_a l D E h q H.size I221 J221 B213 G221 4 (by omega) (by omega) 3 (by omega) (by omega) S.1) kl_M_a ks_M_a kx_M_a ki_M_a ini_M hd_M_a ⟨Nat.le_of_ble_eq_true rfl, Nat.le_of_ble_eq_true rfl⟩ rfl (Nat.le_of_ble_eq_true rfl) d_M_opensTicket_271 ⟨Nat.le_refl _, Nat.le_refl _⟩) X Y hA S (by decide) (by decide) (fun z223 u H locs Y S s223 p223 => ?_)
                    obtain ⟨I223, J223, B223, G223⟩ := u
                    dsimp only at Y S s223 p223
                    have i223 : I221 = I223 := (funext (fun j => s223.2.1 j (by simp))).symm
                    subst i223
                    have b223 : B213 = B223 := (funext (fun j => s223.2.2 j (by simp))).symm
                    subst b223
                    obtain ⟨l223, u223, x223⟩ := p223
                    refine lv_aload_n X.1 X.2.1 d_M_opensTicket_274 rfl (lv_at hl 3 rfl) ?_
                    refine lv_iconst (v := iI 4) X.1 X.2.1 d_M_opensTicket_275 (by decide) ?_
                    refine lv_iconst (v := iI 3) X.1 X.2.1 d_M_opensTicket_276 (by decide) ?_
                    refine r_ni (m_run (As := [.int (iI 4), .int (iI 3)]) (rest := [.int (iI z223), .ref h, .ref h]) (n := 2) X Y hZ hA hml hl.1 (r_M_b l D E h q H.size I221 J223 B213 G223 4 (by omega) (by omega) 3 (by omega) (by omega) S.1) kl_M_b ks_M_b kx_M_b ki_M_b ini_M hd_M_b ⟨Nat.le_of_ble_eq_true rfl, Nat.le_of_ble_eq_true rfl⟩ rfl (Nat.le_of_ble_eq_true rfl) d_M_opensTicket_277 ⟨Nat.le_refl _, Nat.le_refl _⟩) X Y hA S (by decide) (by decide) (fun z224 u H locs Y S s224 p224 => ?_)
                    obtain ⟨I224, J224, B224, G224⟩ := u
                    dsimp only at Y S s224 p224
                    have i224 : I221 = I224 := (funext (fun j => s224.2.1 j (by simp))).symm
                    subst i224
                    have b224 : B213 = B224 := (funext (fun j => s224.2.2 j (by simp))).symm
                    subst b224
                    obtain ⟨l224, u224, x224⟩ := p224
                    have p225 : pr z223 z224 := by rw [x223, x224]; exact (pG2_cg rfl rfl (pG2_cg rfl rfl (pG2_cg rfl rfl (pG2_cg rfl rfl (pG2_cg rfl rfl g213_P2))))) (16 * 4 + 3 : Int).toNat (by omega)
                    unfold pr at p225
                    refine r_ni (m_run (As := [.int (iI z223), .int (iI z224)]) (rest := [.ref h]) (n := 2) X Y hZ hA hml hl.1 (r_M_partsAt l D E h q H.size I221 J224 B213 G224 z223 (by omega) (by omega) z224 (by omega) (by omega) S.1 (pG1_cg rfl rfl (pG1_cg rfl rfl g221_P1)) (pG2_cg rfl rfl (pG2_cg rfl rfl (pG2_cg rfl rfl (pG2_cg rfl rfl (pG2_cg rfl rfl g213_P2))))) (by omega) (by omega)) kl_M_partsAt ks_M_partsAt kx_M_partsAt ki_M_partsAt ini_M hd_M_partsAt ⟨Nat.le_of_ble_eq_true rfl, Nat.le_of_ble_eq_true rfl⟩ rfl (Nat.le_of_ble_eq_true rfl) d_M_opensTicket_280 ⟨Nat.le_refl _, Nat.le_refl _⟩) X Y hA S (by decide) (by decide) (fun z226 u H locs Y S s226 p226 => ?_)
                    obtain ⟨I226, J226, B226, G226⟩ := u
                    dsimp only at Y S s226 p226
                    obtain ⟨l226, u226, x226, st226, g226_P1, g226_P2, g226_TF⟩ := p226
                    have f227 : tk0 (B226 37) (B226 38) (B226 0) := (tk0_cg (s226.2.2 0 (by decide)) rfl rfl (tk0_T g226_TF (by decide) (by decide) (tk0_cg rfl rfl rfl (tk0_cg rfl rfl rfl (tk0_cg rfl rfl rfl (tk0_cg rfl rfl rfl (tk0_cg rfl rfl rfl a216)))))))
                    refine lv_aload_n X.1 X.2.1 d_M_opensTicket_283 rfl (lv_at hl 3 rfl) ?_
                    refine lv_bipush (v := iI 11) X.1 X.2.1 d_M_opensTicket_284 (by decide) ?_
                    refine lv_iconst (v := iI 1) X.1 X.2.1 d_M_opensTicket_286 (by decide) ?_
                    refine r_ni (m_run (As := [.int (iI 11), .int (iI 1)]) (rest := [.int (iI z226), .ref h]) (n := 2) X Y hZ hA hml hl.1 (r_M_b l D E h q H.size I226 J226 B226 G226 11 (by omega) (by omega) 1 (by omega) (by omega) S.1) kl_M_b ks_M_b kx_M_b ki_M_b ini_M hd_M_b ⟨Nat.le_of_ble_eq_true rfl, Nat.le_of_ble_eq_true rfl⟩ rfl (Nat.le_of_ble_eq_true rfl) d_M_opensTicket_287 ⟨Nat.le_refl _, Nat.le_refl _⟩) X Y hA S (by decide) (by decide) (fun z228 u H locs Y S s228 p228 => ?_)
                    obtain ⟨I228, J228, B228, G228⟩ := u
                    dsimp only at Y S s228 p228
                    have i228 : I226 = I228 := (funext (fun j => s228.2.1 j (by simp))).symm
                    subst i228
                    have b228 : B226 = B228 := (funext (fun j => s228.2.2 j (by simp))).symm
                    subst b228
                    obtain ⟨l228, u228, x228⟩ := p228
                    have p229 : pr z226 z228 := by rw [x226, x228]; exact (pG2_cg rfl rfl g226_P2) (16 * 11 + 1 : Int).toNat (by omega)
                    unfold pr at p229
                    refine lv_bipush (v := iI 48) X.1 X.2.1 d_M_opensTicket_290 (by decide) ?_
                    refine r_ni (m_run (As := [.int (iI z226), .int (iI z228), .int (iI 48)]) (rest := []) (n := 3) X Y hZ hA hml hl.1 (r_M_element l D E h q H.size I226 J228 B226 G228 z226 (by omega) (by omega) z228 (by omega) (by omega) 48 (by omega) (by omega) S.1 (B226 0) rfl (pG1_cg rfl rfl g226_P1) (by omega) (by omega)) kl_M_element ks_M_element kx_M_element ki_M_element ini_M hd_M_element ⟨Nat.le_of_ble_eq_true rfl, Nat.le_of_ble_eq_true rfl⟩ rfl (Nat.le_of_ble_eq_true rfl) d_M_opensTicket_292 ⟨Nat.le_refl _, Nat.le_refl _⟩) X Y hA S (by decide) (by decide) (fun z230 u H locs Y S s230 p230 => ?_)
                    obtain ⟨I230, J230, B230, G230⟩ := u
                    dsimp only at Y S s230 p230
                    have b230 : B226 = B230 := (funext (fun j => s230.2.2 j (by simp))).symm
                    subst b230
                    obtain ⟨l230, u230, x230, st230⟩ := p230
                    obtain ⟨x231, y231, ex231, ey231, lx231, ly231, uy231, dy231, iy231, ky231⟩ := st230
                    refine lv_pop X.1 X.2.1 d_M_opensTicket_295 rfl ?_
                    refine lv_aload_n X.1 X.2.1 d_M_opensTicket_296 rfl (lv_at hl 3 rfl) ?_
                    refine r_get0 X Y (by decide) lk_behind (gf_behind _ _ _) rfl ey231 d_M_opensTicket_297 ?_
                    refine lv_aload_n X.1 X.2.1 d_M_opensTicket_300 rfl (lv_at hl 3 rfl) ?_
                    refine r_get0 X Y (by decide) lk_inside (gf_inside _ _ _) rfl ex231 d_M_opensTicket_301 ?_
                    refine z_isub X.1 X.2.1 d_M_opensTicket_304 ?_
                    refine lv_bipush (v := iI 40) X.1 X.2.1 d_M_opensTicket_305 (by decide) ?_
                    refine z_icmp_le (tgt := 315) X.1 X.2.1 d_M_opensTicket_307 (by decide) ⟨by omega, by omega⟩ ⟨by omega, by omega⟩ (fun h232 => ?_) (fun h232 => ?_)
                    · refine lv_iconst (v := iI 0) X.1 X.2.1 d_M_opensTicket_315 (by decide) ?_
                      exact m_reti hQQ X Y hr hlk ⟨S, 0, rfl, ⟨by omega, by omega, fun h9 => tkA_cg (s226.2.2 0 (by decide)) rfl rfl (tkA_T g226_TF (by decide) (by decide) (tk_fin (tk0_cg rfl rfl rfl (tk0_cg rfl rfl rfl (tk0_cg rfl rfl rfl (tk0_cg rfl rfl rfl (tk0_cg rfl rfl rfl a216))))) x223 x224 (st226 (by rw [x223, x224]; exact ((tk0_cg rfl rfl rfl (tk0_cg rfl rfl rfl (tk0_cg rfl rfl rfl (tk0_cg rfl rfl rfl (tk0_cg rfl rfl rfl a216)))))).1)) x226 x228 (s226.2.2 0 (by decide)) x230 iy231 (by omega))), (show pG1 I230 from ⟨x231, y231, ex231, ey231, by omega, by omega, by omega, by omega⟩), (pG2_cg rfl rfl (pG2_cg rfl rfl g226_P2)), (thF_cg rfl rfl (thF_cg rfl rfl (thF_tr (thF_cg rfl rfl (thF_cg rfl rfl (thF_cg rfl rfl f219))) g226_TF (by decide)))), (mmF_cg rfl (mmF_cg rfl (mmF_cg (s226.2.2 0 (by decide)) (mmF_cg rfl (mmF_cg rfl (mmF_cg rfl (mmF_cg rfl (mmF_cg rfl (mmF_cg (s213.2.2 0 (by decide)) (mmF_tr (mmF_cg rfl (mmF_cg rfl (mmF_cg rfl f204))) g211_MF (by decide)))))))))))⟩⟩ d_M_opensTicket_316
                    · refine lv_bipush (v := iI 60) X.1 X.2.1 d_M_opensTicket_310 (by decide) ?_
                      refine lv_goto (tgt := 316) X.1 X.2.1 d_M_opensTicket_312 (by decide) ?_
                      exact m_reti hQQ X Y hr hlk ⟨S, 60, rfl, ⟨by omega, by omega, fun h9 => absurd h9 (by decide), (show pG1 I230 from ⟨x231, y231, ex231, ey231, by omega, by omega, by omega, by omega⟩), (pG2_cg rfl rfl (pG2_cg rfl rfl g226_P2)), (thF_cg rfl rfl (thF_cg rfl rfl (thF_tr (thF_cg rfl rfl (thF_cg rfl rfl (thF_cg rfl rfl f219))) g226_TF (by decide)))), (mmF_cg rfl (mmF_cg rfl (mmF_cg (s226.2.2 0 (by decide)) (mmF_cg rfl (mmF_cg rfl (mmF_cg rfl (mmF_cg rfl (mmF_cg rfl (mmF_cg (s213.2.2 0 (by decide)) (mmF_tr (mmF_cg rfl (mmF_cg rfl (mmF_cg rfl f204))) g211_MF (by decide)))))))))))⟩⟩ d_M_opensTicket_316
                  · refine lv_bipush (v := iI 60) X.1 X.2.1 d_M_opensTicket_263 (by decide) ?_
                    exact m_reti hQQ X Y hr hlk ⟨S, 60, rfl, ⟨by omega, by omega, fun h9 => absurd h9 (by decide), g221_P1, (pG2_cg rfl rfl (pG2_cg rfl rfl (pG2_cg rfl rfl g213_P2))), (thF_cg rfl rfl f219), (mmF_cg rfl (mmF_cg rfl (mmF_cg rfl (mmF_cg (s213.2.2 0 (by decide)) (mmF_tr (mmF_cg rfl (mmF_cg rfl (mmF_cg rfl f204))) g211_MF (by decide))))))⟩⟩ d_M_opensTicket_265
              · refine lv_bipush (v := iI 31) X.1 X.2.1 d_M_opensTicket_217 (by decide) ?_
                exact m_reti hQQ X Y hr hlk ⟨S, 31, rfl, ⟨by omega, by omega, fun h9 => absurd h9 (by decide), (pG1_cg (s211.2.1 39 (by decide)) (s211.2.1 40 (by decide)) (show pG1 I208 from ⟨x209, y209, ex209, ey209, by omega, by omega, by omega, by omega⟩)), (pG2_cg (s211.2.2 37 (by decide)) (s211.2.2 38 (by decide)) (pG2_cg rfl rfl (pG2_cg rfl rfl (pG2_cg rfl rfl (pG2_cg (s203.2.2 37 (by decide)) (s203.2.2 38 (by decide)) (pG2_cg rfl rfl (pG2_cg rfl rfl (pG2_cg rfl rfl (pG2_cg rfl rfl g117_P2))))))))), (thF_cg (s211.2.2 37 (by decide)) (s211.2.2 38 (by decide)) (thF_cg rfl rfl (thF_cg rfl rfl (thF_cg rfl rfl (thF_cg (s203.2.2 37 (by decide)) (s203.2.2 38 (by decide)) (thF_cg rfl rfl f196)))))), (mmF_tr (mmF_cg rfl (mmF_cg rfl (mmF_cg rfl f204))) g211_MF (by decide))⟩⟩ d_M_opensTicket_219
            · refine lv_lload X.1 X.2.1 d_M_opensTicket_141 (lv_at hl 0 rfl) ?_
              refine lv_ldc2 (v := (18)) X.1 X.2.1 X.2.2.2.1 (X.2.2.1 _ cl_M_699) d_M_opensTicket_143 ?_
              refine z_lcmp X.1 X.2.1 d_M_opensTicket_146 (fun z233 l233 u233 x233 y233 => ?_)
              have c233 : ((18) : Int64).toInt = (18) := by decide
              refine z_if_eq (tgt := 153) X.1 X.2.1 d_M_opensTicket_147 (by decide) ⟨by omega, by omega⟩ (fun h234 => ?_) (fun h234 => ?_)
              · refine lv_aload_n X.1 X.2.1 d_M_opensTicket_153 rfl (lv_at hl 2 rfl) ?_
                refine lv_iload_n X.1 X.2.1 d_M_opensTicket_154 rfl (lv_at hl 3 rfl) ?_
                refine lv_lload_n X.1 X.2.1 d_M_opensTicket_155 rfl (lv_at hl 1 rfl) ?_
                refine z_l2i X.1 X.2.1 d_M_opensTicket_156 (fun z235 l235 u235 x235 => ?_)
                refine lv_lload X.1 X.2.1 d_M_opensTicket_157 (lv_at hl 0 rfl) ?_
                refine z_l2i X.1 X.2.1 d_M_opensTicket_159 (fun z236 l236 u236 x236 => ?_)
                refine lv_aload_n X.1 X.2.1 d_M_opensTicket_160 rfl (lv_at hl 2 rfl) ?_
                refine m_get X Y 58 (by decide) lk_key (gf_key _ _ _) rfl d_M_opensTicket_161 ?_
                refine r_nv (m_run (As := [.int (iI a1), .int (iI z235), .int (iI z236), .ref ((q 58))]) (rest := []) (n := 4) X Y hZ hA hml hl.1 (r_M_keyOf_key l D E h q H.size I198 J198 B117 G198 a1 (by omega) (by omega) z235 (by omega) (by omega) z236 (by omega) (by omega) S.1) kl_M_keyOf ks_M_keyOf kx_M_keyOf ki_M_keyOf ini_M hd_M_keyOf ⟨Nat.le_of_ble_eq_true rfl, Nat.le_of_ble_eq_true rfl⟩ rfl (Nat.le_of_ble_eq_true rfl) d_M_opensTicket_164 ⟨Nat.le_refl _, Nat.le_refl _⟩) X Y hA S (by decide) (by decide) (fun u H locs Y S s237 p237 => ?_)
                obtain ⟨I237, J237, B237, G237⟩ := u
                dsimp only at Y S s237 p237
                have i237 : I198 = I237 := (funext (fun j => s237.2.1 j (by simp))).symm
                subst i237
                have f238 : mmF 4200 8400 (B 0) (B237 0) := (mmF_cg (s237.2.2 0 (by decide)) (mmF_cg rfl (mmF_cg rfl (mmF_cg rfl (mmF_cg rfl (mmF_cg (s117.2.2 0 (by decide)) (mmF_cg rfl (mmF_cg rfl (mmF_cg (s112.2.2 0 (by decide)) (mmF_cg rfl (mmF_cg rfl (mmF_cg rfl (mmF_cg rfl (mmF_cg rfl (mmF_cg rfl mmF_rf)))))))))))))))
                refine lv_aload_n X.1 X.2.1 d_M_opensTicket_167 rfl (lv_at hl 2 rfl) ?_
                refine lv_aload_n X.1 X.2.1 d_M_opensTicket_168 rfl (lv_at hl 2 rfl) ?_
                refine lv_bipush (v := iI 6) X.1 X.2.1 d_M_opensTicket_169 (by decide) ?_
                refine lv_iconst (v := iI 2) X.1 X.2.1 d_M_opensTicket_171 (by decide) ?_
                refine r_ni (m_run (As := [.int (iI 6), .int (iI 2)]) (rest := [.ref h]) (n := 2) X Y hZ hA hml hl.1 (r_M_a l D E h q H.size I198 J237 B237 G237 6 (by omega) (by omega) 2 (by omega) (by omega) S.1) kl_M_a ks_M_a kx_M_a ki_M_a ini_M hd_M_a ⟨Nat.le_of_ble_eq_true rfl, Nat.le_of_ble_eq_true rfl⟩ rfl (Nat.le_of_ble_eq_true rfl) d_M_opensTicket_172 ⟨Nat.le_refl _, Nat.le_refl _⟩) X Y hA S (by decide) (by decide) (fun z239 u H locs Y S s239 p239 => ?_)
                obtain ⟨I239, J239, B239, G239⟩ := u
                dsimp only at Y S s239 p239
                have i239 : I198 = I239 := (funext (fun j => s239.2.1 j (by simp))).symm
                subst i239
                have b239 : B237 = B239 := (funext (fun j => s239.2.2 j (by simp))).symm
                subst b239
                obtain ⟨l239, u239, x239⟩ := p239
                refine lv_aload_n X.1 X.2.1 d_M_opensTicket_175 rfl (lv_at hl 2 rfl) ?_
                refine lv_bipush (v := iI 6) X.1 X.2.1 d_M_opensTicket_176 (by decide) ?_
                refine lv_iconst (v := iI 2) X.1 X.2.1 d_M_opensTicket_178 (by decide) ?_
                refine r_ni (m_run (As := [.int (iI 6), .int (iI 2)]) (rest := [.int (iI z239), .ref h]) (n := 2) X Y hZ hA hml hl.1 (r_M_b l D E h q H.size I198 J239 B237 G239 6 (by omega) (by omega) 2 (by omega) (by omega) S.1) kl_M_b ks_M_b kx_M_b ki_M_b ini_M hd_M_b ⟨Nat.le_of_ble_eq_true rfl, Nat.le_of_ble_eq_true rfl⟩ rfl (Nat.le_of_ble_eq_true rfl) d_M_opensTicket_179 ⟨Nat.le_refl _, Nat.le_refl _⟩) X Y hA S (by decide) (by decide) (fun z240 u H locs Y S s240 p240 => ?_)
                obtain ⟨I240, J240, B240, G240⟩ := u
                dsimp only at Y S s240 p240
                have i240 : I198 = I240 := (funext (fun j => s240.2.1 j (by simp))).symm
                subst i240
                have b240 : B237 = B240 := (funext (fun j => s240.2.2 j (by simp))).symm
                subst b240
                obtain ⟨l240, u240, x240⟩ := p240
                have p241 : pr z239 z240 := by rw [x239, x240]; exact (pG2_cg rfl rfl (pG2_cg rfl rfl (pG2_cg (s237.2.2 37 (by decide)) (s237.2.2 38 (by decide)) (pG2_cg rfl rfl (pG2_cg rfl rfl (pG2_cg rfl rfl (pG2_cg rfl rfl g117_P2))))))) (16 * 6 + 2 : Int).toNat (by omega)
                unfold pr at p241
                refine lv_iconst (v := iI 4) X.1 X.2.1 d_M_opensTicket_182 (by decide) ?_
                refine r_ni (m_run (As := [.int (iI z239), .int (iI z240), .int (iI 4)]) (rest := []) (n := 3) X Y hZ hA hml hl.1 (r_M_element l D E h q H.size I198 J240 B237 G240 z239 (by omega) (by omega) z240 (by omega) (by omega) 4 (by omega) (by omega) S.1 (B237 0) rfl (pG1_cg rfl rfl (pG1_cg rfl rfl (pG1_cg rfl rfl g198_P1))) (by omega) (by omega)) kl_M_element ks_M_element kx_M_element ki_M_element ini_M hd_M_element ⟨Nat.le_of_ble_eq_true rfl, Nat.le_of_ble_eq_true rfl⟩ rfl (Nat.le_of_ble_eq_true rfl) d_M_opensTicket_183 ⟨Nat.le_refl _, Nat.le_refl _⟩) X Y hA S (by decide) (by decide) (fun z242 u H locs Y S s242 p242 => ?_)
                obtain ⟨I242, J242, B242, G242⟩ := u
                dsimp only at Y S s242 p242
                have b242 : B237 = B242 := (funext (fun j => s242.2.2 j (by simp))).symm
                subst b242
                obtain ⟨l242, u242, x242, st242⟩ := p242
                obtain ⟨x243, y243, ex243, ey243, lx243, ly243, uy243, dy243, iy243, ky243⟩ := st242
                refine lv_pop X.1 X.2.1 d_M_opensTicket_186 rfl ?_
                refine lv_aload_n X.1 X.2.1 d_M_opensTicket_187 rfl (lv_at hl 2 rfl) ?_
                refine lv_aload_n X.1 X.2.1 d_M_opensTicket_188 rfl (lv_at hl 2 rfl) ?_
                refine m_get X Y 58 (by decide) lk_key (gf_key _ _ _) rfl d_M_opensTicket_189 ?_
                refine lv_lload X.1 X.2.1 d_M_opensTicket_192 (lv_at hl 0 rfl) ?_
                refine z_l2i X.1 X.2.1 d_M_opensTicket_194 (fun z244 l244 u244 x244 => ?_)
                refine lv_iconst (v := iI 2) X.1 X.2.1 d_M_opensTicket_195 (by decide) ?_
                refine lv_aload_n X.1 X.2.1 d_M_opensTicket_196 rfl (lv_at hl 2 rfl) ?_
                refine r_get0 X Y (by decide) lk_inside (gf_inside _ _ _) rfl ex243 d_M_opensTicket_197 ?_
                refine lv_aload_n X.1 X.2.1 d_M_opensTicket_200 rfl (lv_at hl 2 rfl) ?_
                refine r_get0 X Y (by decide) lk_behind (gf_behind _ _ _) rfl ey243 d_M_opensTicket_201 ?_
                refine lv_sipush (v := iI 4200) X.1 X.2.1 d_M_opensTicket_204 (by decide) ?_
                refine r_ni (m_run (As := [.ref ((q 58)), .int (iI z244), .int (iI 2), .int (iI x243), .int (iI y243), .int (iI 4200)]) (rest := []) (n := 6) X Y hZ hA hml hl.1 (r_M_open_key l D E h q H.size I242 J242 B237 G242 z244 (by omega) (by omega) 2 (by omega) (by omega) x243 (by omega) (by omega) y243 (by omega) (by omega) 4200 (by omega) (by omega) S.1 (by omega) (by omega)) kl_M_open ks_M_open kx_M_open ki_M_open ini_M hd_M_open ⟨Nat.le_of_ble_eq_true rfl, Nat.le_of_ble_eq_true rfl⟩ rfl (Nat.le_of_ble_eq_true rfl) d_M_opensTicket_207 ⟨Nat.le_refl _, Nat.le_refl _⟩) X Y hA S (by decide) (by decide) (fun z245 u H locs Y S s245 p245 => ?_)
                obtain ⟨I245, J245, B245, G245⟩ := u
                dsimp only at Y S s245 p245
                obtain ⟨l245, u245, x245, g245_MF⟩ := p245
                refine lv_istore (lv' := [(7, .int (iI z245)), (5, .long v198), (3, .long v194), (0, .ref h), (1, .int (iI a1)), (2, .int (iI a2))]) X.1 X.2.1 d_M_opensTicket_210 hl (by decide) rfl (fun ls hl => ?_)
                refine lv_iload X.1 X.2.1 d_M_opensTicket_212 (lv_at hl 0 rfl) ?_
                refine z_if_ge (tgt := 220) X.1 X.2.1 d_M_opensTicket_214 (by decide) ⟨by omega, by omega⟩ (fun h246 => ?_) (fun h246 => ?_)
                · refine lv_aload_n X.1 X.2.1 d_M_opensTicket_220 rfl (lv_at hl 3 rfl) ?_
                  refine lv_iconst (v := iI 3) X.1 X.2.1 d_M_opensTicket_221 (by decide) ?_
                  refine m_ldcSW (i := 15) X (by decide) (by decide) d_M_opensTicket_222 ?_
                  refine lv_sipush (v := iI 4200) X.1 X.2.1 d_M_opensTicket_225 (by decide) ?_
                  refine lv_sipush (v := iI 4200) X.1 X.2.1 d_M_opensTicket_228 (by decide) ?_
                  refine lv_iload X.1 X.2.1 d_M_opensTicket_231 (lv_at hl 0 rfl) ?_
                  refine z_iadd X.1 X.2.1 d_M_opensTicket_233 ?_
                  refine lv_iconst (v := iI 4) X.1 X.2.1 d_M_opensTicket_234 (by decide) ?_
                  refine r_ni (m_run (As := [.int (iI 3), .ref ((D.2.1 15)), .int (iI 4200), .int (iI (4200 + z245)), .int (iI 4)]) (rest := []) (n := 5) X Y hZ hA hml hl.1 (r_M_applied_t l D E h q H.size I245 J245 B245 G245 3 (by omega) (by omega) 15 (show 15 < nZ by decide) 4200 (by omega) (by omega) (4200 + z245) (by omega) (by omega) 4 (by omega) (by omega) S.1 5 (B245 0) rfl (isF (B245 0) 5) (by decide) (hisU (show rki 15 ≤ 5 by decide)) (pG1_cg (s245.2.1 39 (by decide)) (s245.2.1 40 (by decide)) (show pG1 I242 from ⟨x243, y243, ex243, ey243, by omega, by omega, by omega, by omega⟩)) (pG2_cg (s245.2.2 37 (by decide)) (s245.2.2 38 (by decide)) (pG2_cg rfl rfl (pG2_cg rfl rfl (pG2_cg rfl rfl (pG2_cg (s237.2.2 37 (by decide)) (s237.2.2 38 (by decide)) (pG2_cg rfl rfl (pG2_cg rfl rfl (pG2_cg rfl rfl (pG2_cg rfl rfl g117_P2))))))))) (by omega) (by omega)) kl_M_applied ks_M_applied kx_M_applied ki_M_applied ini_M hd_M_applied ⟨Nat.le_of_ble_eq_true rfl, Nat.le_of_ble_eq_true rfl⟩ rfl (Nat.le_of_ble_eq_true rfl) d_M_opensTicket_235 ⟨Nat.le_refl _, Nat.le_refl _⟩) X Y hA S (by decide) (by decide) (fun z247 u H locs Y S s247 p247 => ?_)
                  obtain ⟨I247, J247, B247, G247⟩ := u
                  dsimp only at Y S s247 p247
                  obtain ⟨l247, u247, x247, st247, g247_P1, g247_P2⟩ := p247
                  have g247_TF : thF [4] (B245 37) (B245 38) (B247 37) (B247 38) := thF_of st247.1
                  refine z_if_eq (tgt := 263) X.1 X.2.1 d_M_opensTicket_238 (by decide) ⟨by omega, by omega⟩ (fun h248 => ?_) (fun h248 => ?_)
                  · refine lv_bipush (v := iI 60) X.1 X.2.1 d_M_opensTicket_263 (by decide) ?_
                    exact m_reti hQQ X Y hr hlk ⟨S, 60, rfl, ⟨by omega, by omega, fun h9 => absurd h9 (by decide), g247_P1, g247_P2, (thF_tr (thF_cg (s245.2.2 37 (by decide)) (s245.2.2 38 (by decide)) (thF_cg rfl rfl (thF_cg rfl rfl (thF_cg rfl rfl (thF_cg (s237.2.2 37 (by decide)) (s237.2.2 38 (by decide)) (thF_cg rfl rfl f196)))))) g247_TF (by decide)), (mmF_cg (s247.2.2 0 (by decide)) (mmF_tr (mmF_cg rfl (mmF_cg rfl (mmF_cg rfl f238))) g245_MF (by decide)))⟩⟩ d_M_opensTicket_265
                  · have wa249 := (x247.mp (by omega)).1
                    unfold whP at wa249
                    have ra249 := el_rng (B245 0) (a := 4200) (b := 4200 + z245) (.inl (by omega))
                    have a249 := part_N (m := (B245 0)) (x247.mp (by omega)).2 (by omega) (by omega) (st247.2 (by omega))
                    rw [← s247.2.2 0 (by decide)] at a249
                    have wa250 := (x247.mp (by omega)).1
                    unfold whP at wa250
                    have ra250 := el_rng (B245 0) (a := 4200) (b := 4200 + z245) (.inl (by omega))
                    have a250 := part_N (m := (B245 0)) (x247.mp (by omega)).2 (by omega) (by omega) (st247.2 (by omega))
                    rw [← s247.2.2 0 (by decide)] at a250
                    refine lv_aload_n X.1 X.2.1 d_M_opensTicket_241 rfl (lv_at hl 3 rfl) ?_
                    refine lv_aload_n X.1 X.2.1 d_M_opensTicket_242 rfl (lv_at hl 3 rfl) ?_
                    refine lv_iconst (v := iI 4) X.1 X.2.1 d_M_opensTicket_243 (by decide) ?_
                    refine lv_iconst (v := iI 2) X.1 X.2.1 d_M_opensTicket_244 (by decide) ?_
                    refine r_ni (m_run (As := [.int (iI 4), .int (iI 2)]) (rest := [.ref h]) (n := 2) X Y hZ hA hml hl.1 (r_M_a l D E h q H.size I247 J247 B247 G247 4 (by omega) (by omega) 2 (by omega) (by omega) S.1) kl_M_a ks_M_a kx_M_a ki_M_a ini_M hd_M_a ⟨Nat.le_of_ble_eq_true rfl, Nat.le_of_ble_eq_true rfl⟩ rfl (Nat.le_of_ble_eq_true rfl) d_M_opensTicket_245 ⟨Nat.le_refl _, Nat.le_refl _⟩) X Y hA S (by decide) (by decide) (fun z251 u H locs Y S s251 p251 => ?_)
                    obtain ⟨I251, J251, B251, G251⟩ := u
                    dsimp only at Y S s251 p251
                    have i251 : I247 = I251 := (funext (fun j => s251.2.1 j (by simp))).symm
                    subst i251
                    have b251 : B247 = B251 := (funext (fun j => s251.2.2 j (by simp))).symm
                    subst b251
                    obtain ⟨l251, u251, x251⟩ := p251
                    refine lv_aload_n X.1 X.2.1 d_M_opensTicket_248 rfl (lv_at hl 3 rfl) ?_
                    refine lv_iconst (v := iI 4) X.1 X.2.1 d_M_opensTicket_249 (by decide) ?_
                    refine lv_iconst (v := iI 2) X.1 X.2.1 d_M_opensTicket_250 (by decide) ?_
                    refine r_ni (m_run (As := [.int (iI 4), .int (iI 2)]) (rest := [.int (iI z251), .ref h]) (n := 2) X Y hZ hA hml hl.1 (r_M_b l D E h q H.size I247 J251 B247 G251 4 (by omega) (by omega) 2 (by omega) (by omega) S.1) kl_M_b ks_M_b kx_M_b ki_M_b ini_M hd_M_b ⟨Nat.le_of_ble_eq_true rfl, Nat.le_of_ble_eq_true rfl⟩ rfl (Nat.le_of_ble_eq_true rfl) d_M_opensTicket_251 ⟨Nat.le_refl _, Nat.le_refl _⟩) X Y hA S (by decide) (by decide) (fun z252 u H locs Y S s252 p252 => ?_)
                    obtain ⟨I252, J252, B252, G252⟩ := u
                    dsimp only at Y S s252 p252
                    have i252 : I247 = I252 := (funext (fun j => s252.2.1 j (by simp))).symm
                    subst i252
                    have b252 : B247 = B252 := (funext (fun j => s252.2.2 j (by simp))).symm
                    subst b252
                    have f253 : thF [4, 6, 11] (B 37) (B 38) (B247 37) (B247 38) := (thF_cg rfl rfl (thF_cg rfl rfl (thF_tr (thF_cg (s245.2.2 37 (by decide)) (s245.2.2 38 (by decide)) (thF_cg rfl rfl (thF_cg rfl rfl (thF_cg rfl rfl (thF_cg (s237.2.2 37 (by decide)) (s237.2.2 38 (by decide)) (thF_cg rfl rfl f196)))))) g247_TF (by decide))))
                    obtain ⟨l252, u252, x252⟩ := p252
                    have p254 : pr z251 z252 := by rw [x251, x252]; exact (pG2_cg rfl rfl (pG2_cg rfl rfl g247_P2)) (16 * 4 + 2 : Int).toNat (by omega)
                    unfold pr at p254
                    refine m_ldcSW (i := 2) X (by decide) (by decide) d_M_opensTicket_254 ?_
                    refine r_ni (m_run (As := [.int (iI z251), .int (iI z252), .ref ((D.2.1 2))]) (rest := []) (n := 3) X Y hZ hA hml hl.1 (r_M_isWord l D E h q H.size I247 J252 B247 G252 z251 (by omega) (by omega) z252 (by omega) (by omega) 2 (show 2 < nZ by decide) S.1 (pG1_cg rfl rfl (pG1_cg rfl rfl g247_P1)) (by omega) (by omega)) kl_M_isWord ks_M_isWord kx_M_isWord ki_M_isWord ini_M hd_M_isWord ⟨Nat.le_of_ble_eq_true rfl, Nat.le_of_ble_eq_true rfl⟩ rfl (Nat.le_of_ble_eq_true rfl) d_M_opensTicket_257 ⟨Nat.le_refl _, Nat.le_refl _⟩) X Y hA S (by decide) (by decide) (fun z255 u H locs Y S s255 p255 => ?_)
                    obtain ⟨I255, J255, B255, G255⟩ := u
                    dsimp only at Y S s255 p255
                    have b255 : B247 = B255 := (funext (fun j => s255.2.2 j (by simp))).symm
                    subst b255
                    obtain ⟨l255, u255, x255, g255_P1⟩ := p255
                    refine z_if_ne (tgt := 266) X.1 X.2.1 d_M_opensTicket_260 (by decide) ⟨by omega, by omega⟩ (fun h256 => ?_) (fun h256 => ?_)
                    · refine lv_aload_n X.1 X.2.1 d_M_opensTicket_266 rfl (lv_at hl 3 rfl) ?_
                      refine lv_aload_n X.1 X.2.1 d_M_opensTicket_267 rfl (lv_at hl 3 rfl) ?_
                      refine lv_aload_n X.1 X.2.1 d_M_opensTicket_268 rfl (lv_at hl 3 rfl) ?_
                      refine lv_iconst (v := iI 4) X.1 X.2.1 d_M_opensTicket_269 (by decide) ?_
                      refine lv_iconst (v := iI 3) X.1 X.2.1 d_M_opensTicket_270 (by decide) ?_
                      refine r_ni (m_run (As := [.int (iI 4), .int (iI 3)]) (rest := [.ref h, .ref h]) (n := 2) X Y hZ hA hml hl.1 (r_M_a l D E h q H.size I255 J255 B247 G255 4 (by omega) (by omega) 3 (by omega) (by omega) S.1) kl_M_a ks_M_a kx_M_a ki_M_a ini_M hd_M_a ⟨Nat.le_of_ble_eq_true rfl, Nat.le_of_ble_eq_true rfl⟩ rfl (Nat.le_of_ble_eq_true rfl) d_M_opensTicket_271 ⟨Nat.le_refl _, Nat.le_refl _⟩) X Y hA S (by decide) (by decide) (fun z257 u H locs Y S s257 p257 => ?_)
                      obtain ⟨I257, J257, B257, G257⟩ := u
                      dsimp only at Y S s257 p257
                      have i257 : I255 = I257 := (funext (fun j => s257.2.1 j (by simp))).symm
                      subst i257
                      have b257 : B247 = B257 := (funext (fun j => s257.2.2 j (by simp))).symm
                      subst b257
                      obtain ⟨l257, u257, x257⟩ := p257
                      refine lv_aload_n X.1 X.2.1 d_M_opensTicket_274 rfl (lv_at hl 3 rfl) ?_
                      refine lv_iconst (v := iI 4) X.1 X.2.1 d_M_opensTicket_275 (by decide) ?_
                      refine lv_iconst (v := iI 3) X.1 X.2.1 d_M_opensTicket_276 (by decide) ?_
                      refine r_ni (m_run (As := [.int (iI 4), .int (iI 3)]) (rest := [.int (iI z257), .ref h, .ref h]) (n := 2) X Y hZ hA hml hl.1 (r_M_b l D E h q H.size I255 J257 B247 G257 4 (by omega) (by omega) 3 (by omega) (by omega) S.1) kl_M_b ks_M_b kx_M_b ki_M_b ini_M hd_M_b ⟨Nat.le_of_ble_eq_true rfl, Nat.le_of_ble_eq_true rfl⟩ rfl (Nat.le_of_ble_eq_true rfl) d_M_opensTicket_277 ⟨Nat.le_refl _, Nat.le_refl _⟩) X Y hA S (by decide) (by decide) (fun z258 u H locs Y S s258 p258 => ?_)
                      obtain ⟨I258, J258, B258, G258⟩ := u
                      dsimp only at Y S s258 p258
                      have i258 : I255 = I258 := (funext (fun j => s258.2.1 j (by simp))).symm
                      subst i258
                      have b258 : B247 = B258 := (funext (fun j => s258.2.2 j (by simp))).symm
                      subst b258
                      obtain ⟨l258, u258, x258⟩ := p258
                      have p259 : pr z257 z258 := by rw [x257, x258]; exact (pG2_cg rfl rfl (pG2_cg rfl rfl (pG2_cg rfl rfl (pG2_cg rfl rfl (pG2_cg rfl rfl g247_P2))))) (16 * 4 + 3 : Int).toNat (by omega)
                      unfold pr at p259
                      refine r_ni (m_run (As := [.int (iI z257), .int (iI z258)]) (rest := [.ref h]) (n := 2) X Y hZ hA hml hl.1 (r_M_partsAt l D E h q H.size I255 J258 B247 G258 z257 (by omega) (by omega) z258 (by omega) (by omega) S.1 (pG1_cg rfl rfl (pG1_cg rfl rfl g255_P1)) (pG2_cg rfl rfl (pG2_cg rfl rfl (pG2_cg rfl rfl (pG2_cg rfl rfl (pG2_cg rfl rfl g247_P2))))) (by omega) (by omega)) kl_M_partsAt ks_M_partsAt kx_M_partsAt ki_M_partsAt ini_M hd_M_partsAt ⟨Nat.le_of_ble_eq_true rfl, Nat.le_of_ble_eq_true rfl⟩ rfl (Nat.le_of_ble_eq_true rfl) d_M_opensTicket_280 ⟨Nat.le_refl _, Nat.le_refl _⟩) X Y hA S (by decide) (by decide) (fun z260 u H locs Y S s260 p260 => ?_)
                      obtain ⟨I260, J260, B260, G260⟩ := u
                      dsimp only at Y S s260 p260
                      obtain ⟨l260, u260, x260, st260, g260_P1, g260_P2, g260_TF⟩ := p260
                      have f261 : tk0 (B260 37) (B260 38) (B260 0) := (tk0_cg (s260.2.2 0 (by decide)) rfl rfl (tk0_T g260_TF (by decide) (by decide) (tk0_cg rfl rfl rfl (tk0_cg rfl rfl rfl (tk0_cg rfl rfl rfl (tk0_cg rfl rfl rfl (tk0_cg rfl rfl rfl a250)))))))
                      refine lv_aload_n X.1 X.2.1 d_M_opensTicket_283 rfl (lv_at hl 3 rfl) ?_
                      refine lv_bipush (v := iI 11) X.1 X.2.1 d_M_opensTicket_284 (by decide) ?_
                      refine lv_iconst (v := iI 1) X.1 X.2.1 d_M_opensTicket_286 (by decide) ?_
                      refine r_ni (m_run (As := [.int (iI 11), .int (iI 1)]) (rest := [.int (iI z260), .ref h]) (n := 2) X Y hZ hA hml hl.1 (r_M_b l D E h q H.size I260 J260 B260 G260 11 (by omega) (by omega) 1 (by omega) (by omega) S.1) kl_M_b ks_M_b kx_M_b ki_M_b ini_M hd_M_b ⟨Nat.le_of_ble_eq_true rfl, Nat.le_of_ble_eq_true rfl⟩ rfl (Nat.le_of_ble_eq_true rfl) d_M_opensTicket_287 ⟨Nat.le_refl _, Nat.le_refl _⟩) X Y hA S (by decide) (by decide) (fun z262 u H locs Y S s262 p262 => ?_)
                      obtain ⟨I262, J262, B262, G262⟩ := u
                      dsimp only at Y S s262 p262
                      have i262 : I260 = I262 := (funext (fun j => s262.2.1 j (by simp))).symm
                      subst i262
                      have b262 : B260 = B262 := (funext (fun j => s262.2.2 j (by simp))).symm
                      subst b262
                      obtain ⟨l262, u262, x262⟩ := p262
                      have p263 : pr z260 z262 := by rw [x260, x262]; exact (pG2_cg rfl rfl g260_P2) (16 * 11 + 1 : Int).toNat (by omega)
                      unfold pr at p263
                      refine lv_bipush (v := iI 48) X.1 X.2.1 d_M_opensTicket_290 (by decide) ?_
                      refine r_ni (m_run (As := [.int (iI z260), .int (iI z262), .int (iI 48)]) (rest := []) (n := 3) X Y hZ hA hml hl.1 (r_M_element l D E h q H.size I260 J262 B260 G262 z260 (by omega) (by omega) z262 (by omega) (by omega) 48 (by omega) (by omega) S.1 (B260 0) rfl (pG1_cg rfl rfl g260_P1) (by omega) (by omega)) kl_M_element ks_M_element kx_M_element ki_M_element ini_M hd_M_element ⟨Nat.le_of_ble_eq_true rfl, Nat.le_of_ble_eq_true rfl⟩ rfl (Nat.le_of_ble_eq_true rfl) d_M_opensTicket_292 ⟨Nat.le_refl _, Nat.le_refl _⟩) X Y hA S (by decide) (by decide) (fun z264 u H locs Y S s264 p264 => ?_)
                      obtain ⟨I264, J264, B264, G264⟩ := u
                      dsimp only at Y S s264 p264
                      have b264 : B260 = B264 := (funext (fun j => s264.2.2 j (by simp))).symm
                      subst b264
                      obtain ⟨l264, u264, x264, st264⟩ := p264
                      obtain ⟨x265, y265, ex265, ey265, lx265, ly265, uy265, dy265, iy265, ky265⟩ := st264
                      refine lv_pop X.1 X.2.1 d_M_opensTicket_295 rfl ?_
                      refine lv_aload_n X.1 X.2.1 d_M_opensTicket_296 rfl (lv_at hl 3 rfl) ?_
                      refine r_get0 X Y (by decide) lk_behind (gf_behind _ _ _) rfl ey265 d_M_opensTicket_297 ?_
                      refine lv_aload_n X.1 X.2.1 d_M_opensTicket_300 rfl (lv_at hl 3 rfl) ?_
                      refine r_get0 X Y (by decide) lk_inside (gf_inside _ _ _) rfl ex265 d_M_opensTicket_301 ?_
                      refine z_isub X.1 X.2.1 d_M_opensTicket_304 ?_
                      refine lv_bipush (v := iI 40) X.1 X.2.1 d_M_opensTicket_305 (by decide) ?_
                      refine z_icmp_le (tgt := 315) X.1 X.2.1 d_M_opensTicket_307 (by decide) ⟨by omega, by omega⟩ ⟨by omega, by omega⟩ (fun h266 => ?_) (fun h266 => ?_)
                      · refine lv_iconst (v := iI 0) X.1 X.2.1 d_M_opensTicket_315 (by decide) ?_
                        exact m_reti hQQ X Y hr hlk ⟨S, 0, rfl, ⟨by omega, by omega, fun h9 => tkA_cg (s260.2.2 0 (by decide)) rfl rfl (tkA_T g260_TF (by decide) (by decide) (tk_fin (tk0_cg rfl rfl rfl (tk0_cg rfl rfl rfl (tk0_cg rfl rfl rfl (tk0_cg rfl rfl rfl (tk0_cg rfl rfl rfl a250))))) x257 x258 (st260 (by rw [x257, x258]; exact ((tk0_cg rfl rfl rfl (tk0_cg rfl rfl rfl (tk0_cg rfl rfl rfl (tk0_cg rfl rfl rfl (tk0_cg rfl rfl rfl a250)))))).1)) x260 x262 (s260.2.2 0 (by decide)) x264 iy265 (by omega))), (show pG1 I264 from ⟨x265, y265, ex265, ey265, by omega, by omega, by omega, by omega⟩), (pG2_cg rfl rfl (pG2_cg rfl rfl g260_P2)), (thF_cg rfl rfl (thF_cg rfl rfl (thF_tr (thF_cg rfl rfl (thF_cg rfl rfl (thF_cg rfl rfl f253))) g260_TF (by decide)))), (mmF_cg rfl (mmF_cg rfl (mmF_cg (s260.2.2 0 (by decide)) (mmF_cg rfl (mmF_cg rfl (mmF_cg rfl (mmF_cg rfl (mmF_cg rfl (mmF_cg (s247.2.2 0 (by decide)) (mmF_tr (mmF_cg rfl (mmF_cg rfl (mmF_cg rfl f238))) g245_MF (by decide)))))))))))⟩⟩ d_M_opensTicket_316
                      · refine lv_bipush (v := iI 60) X.1 X.2.1 d_M_opensTicket_310 (by decide) ?_
                        refine lv_goto (tgt := 316) X.1 X.2.1 d_M_opensTicket_312 (by decide) ?_
                        exact m_reti hQQ X Y hr hlk ⟨S, 60, rfl, ⟨by omega, by omega, fun h9 => absurd h9 (by decide), (show pG1 I264 from ⟨x265, y265, ex265, ey265, by omega, by omega, by omega, by omega⟩), (pG2_cg rfl rfl (pG2_cg rfl rfl g260_P2)), (thF_cg rfl rfl (thF_cg rfl rfl (thF_tr (thF_cg rfl rfl (thF_cg rfl rfl (thF_cg rfl rfl f253))) g260_TF (by decide)))), (mmF_cg rfl (mmF_cg rfl (mmF_cg (s260.2.2 0 (by decide)) (mmF_cg rfl (mmF_cg rfl (mmF_cg rfl (mmF_cg rfl (mmF_cg rfl (mmF_cg (s247.2.2 0 (by decide)) (mmF_tr (mmF_cg rfl (mmF_cg rfl (mmF_cg rfl f238))) g245_MF (by decide)))))))))))⟩⟩ d_M_opensTicket_316
                    · refine lv_bipush (v := iI 60) X.1 X.2.1 d_M_opensTicket_263 (by decide) ?_
                      exact m_reti hQQ X Y hr hlk ⟨S, 60, rfl, ⟨by omega, by omega, fun h9 => absurd h9 (by decide), g255_P1, (pG2_cg rfl rfl (pG2_cg rfl rfl (pG2_cg rfl rfl g247_P2))), (thF_cg rfl rfl f253), (mmF_cg rfl (mmF_cg rfl (mmF_cg rfl (mmF_cg (s247.2.2 0 (by decide)) (mmF_tr (mmF_cg rfl (mmF_cg rfl (mmF_cg rfl f238))) g245_MF (by decide))))))⟩⟩ d_M_opensTicket_265
                · refine lv_bipush (v := iI 31) X.1 X.2.1 d_M_opensTicket_217 (by decide) ?_
                  exact m_reti hQQ X Y hr hlk ⟨S, 31, rfl, ⟨by omega, by omega, fun h9 => absurd h9 (by decide), (pG1_cg (s245.2.1 39 (by decide)) (s245.2.1 40 (by decide)) (show pG1 I242 from ⟨x243, y243, ex243, ey243, by omega, by omega, by omega, by omega⟩)), (pG2_cg (s245.2.2 37 (by decide)) (s245.2.2 38 (by decide)) (pG2_cg rfl rfl (pG2_cg rfl rfl (pG2_cg rfl rfl (pG2_cg (s237.2.2 37 (by decide)) (s237.2.2 38 (by decide)) (pG2_cg rfl rfl (pG2_cg rfl rfl (pG2_cg rfl rfl (pG2_cg rfl rfl g117_P2))))))))), (thF_cg (s245.2.2 37 (by decide)) (s245.2.2 38 (by decide)) (thF_cg rfl rfl (thF_cg rfl rfl (thF_cg rfl rfl (thF_cg (s237.2.2 37 (by decide)) (s237.2.2 38 (by decide)) (thF_cg rfl rfl f196)))))), (mmF_tr (mmF_cg rfl (mmF_cg rfl (mmF_cg rfl f238))) g245_MF (by decide))⟩⟩ d_M_opensTicket_219
              · refine lv_bipush (v := iI 14) X.1 X.2.1 d_M_opensTicket_150 (by decide) ?_
                exact m_reti hQQ X Y hr hlk ⟨S, 14, rfl, ⟨by omega, by omega, fun h9 => absurd h9 (by decide), g198_P1, (pG2_cg rfl rfl (pG2_cg rfl rfl (pG2_cg rfl rfl (pG2_cg rfl rfl g117_P2)))), (thF_cg rfl rfl f196), (mmF_cg rfl (mmF_cg rfl (mmF_cg rfl (mmF_cg rfl (mmF_cg (s117.2.2 0 (by decide)) (mmF_cg rfl (mmF_cg rfl (mmF_cg (s112.2.2 0 (by decide)) (mmF_cg rfl (mmF_cg rfl (mmF_cg rfl (mmF_cg rfl (mmF_cg rfl (mmF_cg rfl mmF_rf))))))))))))))⟩⟩ d_M_opensTicket_152
          · refine lv_bipush (v := iI 44) X.1 X.2.1 d_M_opensTicket_120 (by decide) ?_
            exact m_reti hQQ X Y hr hlk ⟨S, 44, rfl, ⟨by omega, by omega, fun h9 => absurd h9 (by decide), (pG1_cg rfl rfl g194_P1), (pG2_cg rfl rfl (pG2_cg rfl rfl (pG2_cg rfl rfl g117_P2))), f196, (mmF_cg rfl (mmF_cg rfl (mmF_cg rfl (mmF_cg (s117.2.2 0 (by decide)) (mmF_cg rfl (mmF_cg rfl (mmF_cg (s112.2.2 0 (by decide)) (mmF_cg rfl (mmF_cg rfl (mmF_cg rfl (mmF_cg rfl (mmF_cg rfl (mmF_cg rfl mmF_rf)))))))))))))⟩⟩ d_M_opensTicket_122
      · refine lv_bipush (v := iI 35) X.1 X.2.1 d_M_opensTicket_58 (by decide) ?_
        exact m_reti hQQ X Y hr hlk ⟨S, 35, rfl, ⟨by omega, by omega, fun h9 => absurd h9 (by decide), g112_P1, g112_P2, (thF_tr (thF_cg rfl rfl (thF_cg rfl rfl (thF_cg rfl rfl (thF_cg rfl rfl (thF_cg rfl rfl (thF_cg rfl rfl thF_rf)))))) g112_TF (by decide)), (mmF_cg (s112.2.2 0 (by decide)) (mmF_cg rfl (mmF_cg rfl (mmF_cg rfl (mmF_cg rfl (mmF_cg rfl (mmF_cg rfl mmF_rf)))))))⟩⟩ d_M_opensTicket_60
  · refine lv_bipush (v := iI 39) X.1 X.2.1 d_M_opensTicket_13 (by decide) ?_
    exact m_reti hQQ X Y hr hlk ⟨S, 39, rfl, ⟨by omega, by omega, fun h9 => absurd h9 (by decide), g101_P1, (pG2_cg rfl rfl f_P2), (thF_cg rfl rfl thF_rf), (mmF_cg rfl mmF_rf)⟩⟩ d_M_opensTicket_15
set_option maxHeartbeats 4000000 in
set_option maxRecDepth 100000 in
theorem r_M_opensAuthenticator (l : Launch) (D : mD) (E : mE) (h : Nat) (q : Nat → Nat) (sz : Nat) (I : Nat → Int32) (J : Nat → Int64) (B : Nat → Nat → Int32) (G : Nat → Nat → Int64) (a1 : Int) (l_a1 : (-2147483648) ≤ a1) (u_a1 : a1 ≤ 2147483647) (hT : rT I B) (f_P1 : pG1 I) (f_P2 : pG2 (B 37) (B 38)) : Met l y_M_opensAuthenticator (k_M_opensAuthenticator :: lw_tg) (mR 45 2045) (va_Pc [.ref h, .int (iI a1)] (mPre D E h q (I, J, B, G) sz)) (va_Qi (rPi [8, 14, 18, 39, 40, 79] [0, 5, 6, 7, 9, 10, 11, 12, 13, 15, 16, 17, 19, 20, 21, 22, 23, 34, 37, 38, 58] I B (fun (z : Int) (u : mS) => 0 ≤ z ∧ z ≤ 60 ∧ (∃ V2 : Int, u.1 79 = iI V2 ∧ (z ≠ 0 ∨ V2 = 17 ∨ V2 = 18) ∧ (-2147483648) ≤ V2 ∧ V2 ≤ 2147483647) ∧ (z = 0 → auA (u.2.2.1 37) (u.2.2.1 38) (u.2.2.1 0)) ∧ pG1 u.1 ∧ pG2 (u.2.2.1 37) (u.2.2.1 38) ∧ thF [5, 6, 7] (B 37) (B 38) (u.2.2.1 37) (u.2.2.1 38) ∧ mmF 13200 17400 (B 0) (u.2.2.1 0))) (mPost D E h q (mA E h q sz)) (mA E h q sz)) 0 0 (mA E h q sz) := by
  refine m_enter (by decide) rfl (Nat.le_of_ble_eq_true rfl) (fun p e s m below meth c ls AV QQ H locs hQQ X Y hZ hA hr hlk hml hl => ?_)
  have Y : mH D E (mA E h q sz) s.heap h q I J B G H locs := Y
  have S : rS [8, 14, 18, 39, 40, 79] [0, 5, 6, 7, 9, 10, 11, 12, 13, 15, 16, 17, 19, 20, 21, 22, 23, 34, 37, 38, 58] I B I B := rS_rf hT
  have hl : lv_has ls 5 [(0, .ref h), (1, .int (iI a1))] := hl
  refine lv_aload_n X.1 X.2.1 d_M_opensAuthenticator_0 rfl (lv_at hl 0 rfl) ?_
  refine lv_aload_n X.1 X.2.1 d_M_opensAuthenticator_1 rfl (lv_at hl 0 rfl) ?_
  refine lv_iconst (v := iI 4) X.1 X.2.1 d_M_opensAuthenticator_2 (by decide) ?_
  refine lv_iconst (v := iI 1) X.1 X.2.1 d_M_opensAuthenticator_3 (by decide) ?_
  refine lv_aload_n X.1 X.2.1 d_M_opensAuthenticator_4 rfl (lv_at hl 0 rfl) ?_
  refine m_get X Y 58 (by decide) lk_key (gf_key _ _ _) rfl d_M_opensAuthenticator_5 ?_
  refine r_ni (m_run (As := [.int (iI 4), .int (iI 1), .ref ((q 58))]) (rest := [.ref h]) (n := 3) X Y hZ hA hml hl.1 (r_M_keyIn_key l D E h q H.size I J B G 4 (by omega) (by omega) 1 (by omega) (by omega) S.1 f_P1 f_P2) kl_M_keyIn ks_M_keyIn kx_M_keyIn ki_M_keyIn ini_M hd_M_keyIn ⟨Nat.le_of_ble_eq_true rfl, Nat.le_of_ble_eq_true rfl⟩ rfl (Nat.le_of_ble_eq_true rfl) d_M_opensAuthenticator_8 ⟨Nat.le_refl _, Nat.le_refl _⟩) X Y hA S (by decide) (by decide) (fun z101 u H locs Y S s101 p101 => ?_)
  obtain ⟨I101, J101, B101, G101⟩ := u
  dsimp only at Y S s101 p101
  obtain ⟨l101, u101, x101, g101_P1, g101_P2, g101_TF⟩ := p101
  refine r_puti (k := 79) X Y S (by decide) lk_ticketType rfl rfl (t_M_ok 79 (by decide)) rfl rfl (sf_ticketType _ _ _ _) (Nat.le_of_ble_eq_true rfl) rfl (show ((-2147483648) : Int) ≤ z101 by omega) (show z101 ≤ (2147483647 : Int) by omega) ⟨by omega, by omega⟩ (by decide) d_M_opensAuthenticator_11 (fun I102 H locs Y S w102 => ?_)
  refine lv_aload_n X.1 X.2.1 d_M_opensAuthenticator_14 rfl (lv_at hl 0 rfl) ?_
  refine r_get0 X Y (by decide) lk_ticketType (gf_ticketType _ _ _) rfl w102.1 d_M_opensAuthenticator_15 ?_
  refine z_if_ne (tgt := 24) X.1 X.2.1 d_M_opensAuthenticator_18 (by decide) ⟨by omega, by omega⟩ (fun h103 => ?_) (fun h103 => ?_)
  · refine lv_aload_n X.1 X.2.1 d_M_opensAuthenticator_24 rfl (lv_at hl 0 rfl) ?_
    refine m_ldcSW (i := 5) X (by decide) (by decide) d_M_opensAuthenticator_25 ?_
    refine lv_aload_n X.1 X.2.1 d_M_opensAuthenticator_28 rfl (lv_at hl 0 rfl) ?_
    refine lv_iconst (v := iI 2) X.1 X.2.1 d_M_opensAuthenticator_29 (by decide) ?_
    refine lv_iconst (v := iI 4) X.1 X.2.1 d_M_opensAuthenticator_30 (by decide) ?_
    refine r_ni (m_run (As := [.int (iI 2), .int (iI 4)]) (rest := [.ref ((D.2.1 5)), .ref h]) (n := 2) X Y hZ hA hml hl.1 (r_M_a l D E h q H.size I102 J101 B101 G101 2 (by omega) (by omega) 4 (by omega) (by omega) S.1) kl_M_a ks_M_a kx_M_a ki_M_a ini_M hd_M_a ⟨Nat.le_of_ble_eq_true rfl, Nat.le_of_ble_eq_true rfl⟩ rfl (Nat.le_of_ble_eq_true rfl) d_M_opensAuthenticator_31 ⟨Nat.le_refl _, Nat.le_refl _⟩) X Y hA S (by decide) (by decide) (fun z104 u H locs Y S s104 p104 => ?_)
    obtain ⟨I104, J104, B104, G104⟩ := u
    dsimp only at Y S s104 p104
    have i104 : I102 = I104 := (funext (fun j => s104.2.1 j (by simp))).symm
    subst i104
    have b104 : B101 = B104 := (funext (fun j => s104.2.2 j (by simp))).symm
    subst b104
    obtain ⟨l104, u104, x104⟩ := p104
    refine lv_aload_n X.1 X.2.1 d_M_opensAuthenticator_34 rfl (lv_at hl 0 rfl) ?_
    refine lv_iconst (v := iI 2) X.1 X.2.1 d_M_opensAuthenticator_35 (by decide) ?_
    refine lv_iconst (v := iI 4) X.1 X.2.1 d_M_opensAuthenticator_36 (by decide) ?_
    refine r_ni (m_run (As := [.int (iI 2), .int (iI 4)]) (rest := [.int (iI z104), .ref ((D.2.1 5)), .ref h]) (n := 2) X Y hZ hA hml hl.1 (r_M_b l D E h q H.size I102 J104 B101 G104 2 (by omega) (by omega) 4 (by omega) (by omega) S.1) kl_M_b ks_M_b kx_M_b ki_M_b ini_M hd_M_b ⟨Nat.le_of_ble_eq_true rfl, Nat.le_of_ble_eq_true rfl⟩ rfl (Nat.le_of_ble_eq_true rfl) d_M_opensAuthenticator_37 ⟨Nat.le_refl _, Nat.le_refl _⟩) X Y hA S (by decide) (by decide) (fun z105 u H locs Y S s105 p105 => ?_)
    obtain ⟨I105, J105, B105, G105⟩ := u
    dsimp only at Y S s105 p105
    have i105 : I102 = I105 := (funext (fun j => s105.2.1 j (by simp))).symm
    subst i105
    have b105 : B101 = B105 := (funext (fun j => s105.2.2 j (by simp))).symm
    subst b105
    obtain ⟨l105, u105, x105⟩ := p105
    have p106 : pr z104 z105 := by rw [x104, x105]; exact (pG2_cg rfl rfl (pG2_cg rfl rfl (pG2_cg rfl rfl g101_P2))) (16 * 2 + 4 : Int).toNat (by omega)
    unfold pr at p106
    refine lv_bipush (v := iI 6) X.1 X.2.1 d_M_opensAuthenticator_40 (by decide) ?_
    refine r_ni (m_run (As := [.ref ((D.2.1 5)), .int (iI z104), .int (iI z105), .int (iI 6)]) (rest := []) (n := 4) X Y hZ hA hml hl.1 (r_M_sequence_t l D E h q H.size I102 J105 B101 G105 5 (show 5 < nZ by decide) z104 (by omega) (by omega) z105 (by omega) (by omega) 6 (by omega) (by omega) S.1 5 (B101 0) rfl (isF (B101 0) 5) (by decide) (hisU (show rki 5 ≤ 5 by decide)) (pG1_cg rfl rfl (pG1_cg rfl rfl (pG1_cg (w102.2 39 (by decide)) (w102.2 40 (by decide)) g101_P1))) (pG2_cg rfl rfl (pG2_cg rfl rfl (pG2_cg rfl rfl g101_P2))) (by omega) (by omega)) kl_M_sequence ks_M_sequence kx_M_sequence ki_M_sequence ini_M hd_M_sequence ⟨Nat.le_of_ble_eq_true rfl, Nat.le_of_ble_eq_true rfl⟩ rfl (Nat.le_of_ble_eq_true rfl) d_M_opensAuthenticator_42 ⟨Nat.le_refl _, Nat.le_refl _⟩) X Y hA S (by decide) (by decide) (fun z107 u H locs Y S s107 p107 => ?_)
    obtain ⟨I107, J107, B107, G107⟩ := u
    dsimp only at Y S s107 p107
    obtain ⟨l107, u107, x107, st107, g107_P1, g107_P2⟩ := p107
    have g107_TF : thF [6] (B101 37) (B101 38) (B107 37) (B107 38) := thF_of st107.1
    refine lv_pop X.1 X.2.1 d_M_opensAuthenticator_45 rfl ?_
    refine lv_aload_n X.1 X.2.1 d_M_opensAuthenticator_46 rfl (lv_at hl 0 rfl) ?_
    refine lv_aload_n X.1 X.2.1 d_M_opensAuthenticator_47 rfl (lv_at hl 0 rfl) ?_
    refine lv_bipush (v := iI 6) X.1 X.2.1 d_M_opensAuthenticator_48 (by decide) ?_
    refine lv_iconst (v := iI 2) X.1 X.2.1 d_M_opensAuthenticator_50 (by decide) ?_
    refine r_ni (m_run (As := [.int (iI 6), .int (iI 2)]) (rest := [.ref h]) (n := 2) X Y hZ hA hml hl.1 (r_M_a l D E h q H.size I107 J107 B107 G107 6 (by omega) (by omega) 2 (by omega) (by omega) S.1) kl_M_a ks_M_a kx_M_a ki_M_a ini_M hd_M_a ⟨Nat.le_of_ble_eq_true rfl, Nat.le_of_ble_eq_true rfl⟩ rfl (Nat.le_of_ble_eq_true rfl) d_M_opensAuthenticator_51 ⟨Nat.le_refl _, Nat.le_refl _⟩) X Y hA S (by decide) (by decide) (fun z108 u H locs Y S s108 p108 => ?_)
    obtain ⟨I108, J108, B108, G108⟩ := u
    dsimp only at Y S s108 p108
    have i108 : I107 = I108 := (funext (fun j => s108.2.1 j (by simp))).symm
    subst i108
    have b108 : B107 = B108 := (funext (fun j => s108.2.2 j (by simp))).symm
    subst b108
    obtain ⟨l108, u108, x108⟩ := p108
    refine lv_aload_n X.1 X.2.1 d_M_opensAuthenticator_54 rfl (lv_at hl 0 rfl) ?_
    refine lv_bipush (v := iI 6) X.1 X.2.1 d_M_opensAuthenticator_55 (by decide) ?_
    refine lv_iconst (v := iI 2) X.1 X.2.1 d_M_opensAuthenticator_57 (by decide) ?_
    refine r_ni (m_run (As := [.int (iI 6), .int (iI 2)]) (rest := [.int (iI z108), .ref h]) (n := 2) X Y hZ hA hml hl.1 (r_M_b l D E h q H.size I107 J108 B107 G108 6 (by omega) (by omega) 2 (by omega) (by omega) S.1) kl_M_b ks_M_b kx_M_b ki_M_b ini_M hd_M_b ⟨Nat.le_of_ble_eq_true rfl, Nat.le_of_ble_eq_true rfl⟩ rfl (Nat.le_of_ble_eq_true rfl) d_M_opensAuthenticator_58 ⟨Nat.le_refl _, Nat.le_refl _⟩) X Y hA S (by decide) (by decide) (fun z109 u H locs Y S s109 p109 => ?_)
    obtain ⟨I109, J109, B109, G109⟩ := u
    dsimp only at Y S s109 p109
    have i109 : I107 = I109 := (funext (fun j => s109.2.1 j (by simp))).symm
    subst i109
    have b109 : B107 = B109 := (funext (fun j => s109.2.2 j (by simp))).symm
    subst b109
    obtain ⟨l109, u109, x109⟩ := p109
    have p110 : pr z108 z109 := by rw [x108, x109]; exact (pG2_cg rfl rfl (pG2_cg rfl rfl g107_P2)) (16 * 6 + 2 : Int).toNat (by omega)
    unfold pr at p110
    refine lv_iconst (v := iI 4) X.1 X.2.1 d_M_opensAuthenticator_61 (by decide) ?_
    refine r_ni (m_run (As := [.int (iI z108), .int (iI z109), .int (iI 4)]) (rest := []) (n := 3) X Y hZ hA hml hl.1 (r_M_element l D E h q H.size I107 J109 B107 G109 z108 (by omega) (by omega) z109 (by omega) (by omega) 4 (by omega) (by omega) S.1 (B107 0) rfl (pG1_cg rfl rfl (pG1_cg rfl rfl g107_P1)) (by omega) (by omega)) kl_M_element ks_M_element kx_M_element ki_M_element ini_M hd_M_element ⟨Nat.le_of_ble_eq_true rfl, Nat.le_of_ble_eq_true rfl⟩ rfl (Nat.le_of_ble_eq_true rfl) d_M_opensAuthenticator_62 ⟨Nat.le_refl _, Nat.le_refl _⟩) X Y hA S (by decide) (by decide) (fun z111 u H locs Y S s111 p111 => ?_)
    obtain ⟨I111, J111, B111, G111⟩ := u
    dsimp only at Y S s111 p111
    have b111 : B107 = B111 := (funext (fun j => s111.2.2 j (by simp))).symm
    subst b111
    obtain ⟨l111, u111, x111, st111⟩ := p111
    obtain ⟨x112, y112, ex112, ey112, lx112, ly112, uy112, dy112, iy112, ky112⟩ := st111
    refine lv_pop X.1 X.2.1 d_M_opensAuthenticator_65 rfl ?_
    refine lv_aload_n X.1 X.2.1 d_M_opensAuthenticator_66 rfl (lv_at hl 0 rfl) ?_
    refine r_get0 X Y (by decide) lk_inside (gf_inside _ _ _) rfl ex112 d_M_opensAuthenticator_67 ?_
    refine lv_istore_n (lv' := [(2, .int (iI x112)), (0, .ref h), (1, .int (iI a1))]) X.1 X.2.1 d_M_opensAuthenticator_70 rfl hl (by decide) rfl (fun ls hl => ?_)
    refine lv_aload_n X.1 X.2.1 d_M_opensAuthenticator_71 rfl (lv_at hl 1 rfl) ?_
    refine r_get0 X Y (by decide) lk_behind (gf_behind _ _ _) rfl ey112 d_M_opensAuthenticator_72 ?_
    refine lv_istore_n (lv' := [(3, .int (iI y112)), (2, .int (iI x112)), (0, .ref h), (1, .int (iI a1))]) X.1 X.2.1 d_M_opensAuthenticator_75 rfl hl (by decide) rfl (fun ls hl => ?_)
    refine lv_aload_n X.1 X.2.1 d_M_opensAuthenticator_76 rfl (lv_at hl 2 rfl) ?_
    refine lv_bipush (v := iI 6) X.1 X.2.1 d_M_opensAuthenticator_77 (by decide) ?_
    refine lv_iconst (v := iI 0) X.1 X.2.1 d_M_opensAuthenticator_79 (by decide) ?_
    refine r_nl (m_run (As := [.int (iI 6), .int (iI 0)]) (rest := []) (n := 2) X Y hZ hA hml hl.1 (r_M_numberAt l D E h q H.size I111 J111 B107 G111 6 (by omega) (by omega) 0 (by omega) (by omega) S.1 (show pG1 I111 from ⟨x112, y112, ex112, ey112, by omega, by omega, by omega, by omega⟩) (pG2_cg rfl rfl (pG2_cg rfl rfl (pG2_cg rfl rfl g107_P2)))) kl_M_numberAt ks_M_numberAt kx_M_numberAt ki_M_numberAt ini_M hd_M_numberAt ⟨Nat.le_of_ble_eq_true rfl, Nat.le_of_ble_eq_true rfl⟩ rfl (Nat.le_of_ble_eq_true rfl) d_M_opensAuthenticator_80 ⟨Nat.le_refl _, Nat.le_refl _⟩) X Y hA S (by decide) (by decide) (fun v113 u H locs Y S s113 p113 => ?_)
    obtain ⟨I113, J113, B113, G113⟩ := u
    dsimp only at Y S s113 p113
    have b113 : B107 = B113 := (funext (fun j => s113.2.2 j (by simp))).symm
    subst b113
    have g113_P1 := p113
    refine lv_aload_n X.1 X.2.1 d_M_opensAuthenticator_83 rfl (lv_at hl 2 rfl) ?_
    refine r_get0 X Y (by decide) lk_ticketType (gf_ticketType _ _ _) rfl ((s113.2.1 79 (by decide)).trans ((s111.2.1 79 (by decide)).trans ((s107.2.1 79 (by decide)).trans w102.1))) d_M_opensAuthenticator_84 ?_
    refine z_i2lx X.1 X.2.1 ⟨by omega, by omega⟩ d_M_opensAuthenticator_87 (fun v114 tv114 => ?_)
    refine z_lcmp X.1 X.2.1 d_M_opensAuthenticator_88 (fun z115 l115 u115 x115 y115 => ?_)
    refine z_if_eq (tgt := 95) X.1 X.2.1 d_M_opensAuthenticator_89 (by decide) ⟨by omega, by omega⟩ (fun h116 => ?_) (fun h116 => ?_)
    · refine lv_aload_n X.1 X.2.1 d_M_opensAuthenticator_95 rfl (lv_at hl 2 rfl) ?_
      refine lv_aload_n X.1 X.2.1 d_M_opensAuthenticator_96 rfl (lv_at hl 2 rfl) ?_
      refine m_get X Y 58 (by decide) lk_key (gf_key _ _ _) rfl d_M_opensAuthenticator_97 ?_
      refine lv_aload_n X.1 X.2.1 d_M_opensAuthenticator_100 rfl (lv_at hl 2 rfl) ?_
      refine r_get0 X Y (by decide) lk_ticketType (gf_ticketType _ _ _) rfl ((s113.2.1 79 (by decide)).trans ((s111.2.1 79 (by decide)).trans ((s107.2.1 79 (by decide)).trans w102.1))) d_M_opensAuthenticator_101 ?_
      refine lv_iload_n X.1 X.2.1 d_M_opensAuthenticator_104 rfl (lv_at hl 3 rfl) ?_
      refine lv_iload_n X.1 X.2.1 d_M_opensAuthenticator_105 rfl (lv_at hl 1 rfl) ?_
      refine lv_iload_n X.1 X.2.1 d_M_opensAuthenticator_106 rfl (lv_at hl 0 rfl) ?_
      refine lv_sipush (v := iI 13200) X.1 X.2.1 d_M_opensAuthenticator_107 (by decide) ?_
      refine r_ni (m_run (As := [.ref ((q 58)), .int (iI z101), .int (iI a1), .int (iI x112), .int (iI y112), .int (iI 13200)]) (rest := []) (n := 6) X Y hZ hA hml hl.1 (r_M_open_key l D E h q H.size I113 J113 B107 G113 z101 (by omega) (by omega) a1 (by omega) (by omega) x112 (by omega) (by omega) y112 (by omega) (by omega) 13200 (by omega) (by omega) S.1 (by omega) (by omega)) kl_M_open ks_M_open kx_M_open ki_M_open ini_M hd_M_open ⟨Nat.le_of_ble_eq_true rfl, Nat.le_of_ble_eq_true rfl⟩ rfl (Nat.le_of_ble_eq_true rfl) d_M_opensAuthenticator_110 ⟨Nat.le_refl _, Nat.le_refl _⟩) X Y hA S (by decide) (by decide) (fun z117 u H locs Y S s117 p117 => ?_)
      obtain ⟨I117, J117, B117, G117⟩ := u
      dsimp only at Y S s117 p117
      obtain ⟨l117, u117, x117, g117_MF⟩ := p117
      refine lv_istore (lv' := [(4, .int (iI z117)), (3, .int (iI y112)), (2, .int (iI x112)), (0, .ref h), (1, .int (iI a1))]) X.1 X.2.1 d_M_opensAuthenticator_113 hl (by decide) rfl (fun ls hl => ?_)
      refine lv_iload X.1 X.2.1 d_M_opensAuthenticator_115 (lv_at hl 0 rfl) ?_
      refine z_if_ge (tgt := 123) X.1 X.2.1 d_M_opensAuthenticator_117 (by decide) ⟨by omega, by omega⟩ (fun h118 => ?_) (fun h118 => ?_)
      · refine lv_aload_n X.1 X.2.1 d_M_opensAuthenticator_123 rfl (lv_at hl 3 rfl) ?_
        refine lv_iconst (v := iI 2) X.1 X.2.1 d_M_opensAuthenticator_124 (by decide) ?_
        refine m_ldcSW (i := 16) X (by decide) (by decide) d_M_opensAuthenticator_125 ?_
        refine lv_sipush (v := iI 13200) X.1 X.2.1 d_M_opensAuthenticator_128 (by decide) ?_
        refine lv_sipush (v := iI 13200) X.1 X.2.1 d_M_opensAuthenticator_131 (by decide) ?_
        refine lv_iload X.1 X.2.1 d_M_opensAuthenticator_134 (lv_at hl 0 rfl) ?_
        refine z_iadd X.1 X.2.1 d_M_opensAuthenticator_136 ?_
        refine lv_iconst (v := iI 5) X.1 X.2.1 d_M_opensAuthenticator_137 (by decide) ?_
        refine r_ni (m_run (As := [.int (iI 2), .ref ((D.2.1 16)), .int (iI 13200), .int (iI (13200 + z117)), .int (iI 5)]) (rest := []) (n := 5) X Y hZ hA hml hl.1 (r_M_applied_t l D E h q H.size I117 J117 B117 G117 2 (by omega) (by omega) 16 (show 16 < nZ by decide) 13200 (by omega) (by omega) (13200 + z117) (by omega) (by omega) 5 (by omega) (by omega) S.1 5 (B117 0) rfl (isF (B117 0) 5) (by decide) (hisU (show rki 16 ≤ 5 by decide)) (pG1_cg (s117.2.1 39 (by decide)) (s117.2.1 40 (by decide)) g113_P1) (pG2_cg (s117.2.2 37 (by decide)) (s117.2.2 38 (by decide)) (pG2_cg rfl rfl (pG2_cg rfl rfl (pG2_cg rfl rfl (pG2_cg rfl rfl g107_P2))))) (by omega) (by omega)) kl_M_applied ks_M_applied kx_M_applied ki_M_applied ini_M hd_M_applied ⟨Nat.le_of_ble_eq_true rfl, Nat.le_of_ble_eq_true rfl⟩ rfl (Nat.le_of_ble_eq_true rfl) d_M_opensAuthenticator_138 ⟨Nat.le_refl _, Nat.le_refl _⟩) X Y hA S (by decide) (by decide) (fun z119 u H locs Y S s119 p119 => ?_)
        obtain ⟨I119, J119, B119, G119⟩ := u
        dsimp only at Y S s119 p119
        obtain ⟨l119, u119, x119, st119, g119_P1, g119_P2⟩ := p119
        have g119_TF : thF [5] (B117 37) (B117 38) (B119 37) (B119 38) := thF_of st119.1
        have f120 : thF [5, 6, 7] (B 37) (B 38) (B119 37) (B119 38) := (thF_tr (thF_cg (s117.2.2 37 (by decide)) (s117.2.2 38 (by decide)) (thF_cg rfl rfl (thF_cg rfl rfl (thF_cg rfl rfl (thF_cg rfl rfl (thF_tr (thF_cg rfl rfl (thF_cg rfl rfl (thF_cg rfl rfl (thF_tr thF_rf g101_TF (by decide))))) g107_TF (by decide))))))) g119_TF (by decide))
        refine z_if_ne (tgt := 147) X.1 X.2.1 d_M_opensAuthenticator_141 (by decide) ⟨by omega, by omega⟩ (fun h121 => ?_) (fun h121 => ?_)
        · have wa122 := (x119.mp (by omega)).1
          unfold whP at wa122
          have ra122 := el_rng (B117 0) (a := 13200) (b := 13200 + z117) (.inl (by omega))
          have a122 := auth_N (m := (B117 0)) (x119.mp (by omega)).2 (by omega) (st119.2 (by omega))
          rw [← s119.2.2 0 (by decide)] at a122
          have wa123 := (x119.mp (by omega)).1
          unfold whP at wa123
          have ra123 := el_rng (B117 0) (a := 13200) (b := 13200 + z117) (.inl (by omega))
          have a123 := auth_N (m := (B117 0)) (x119.mp (by omega)).2 (by omega) (st119.2 (by omega))
          rw [← s119.2.2 0 (by decide)] at a123
          refine lv_iconst (v := iI 0) X.1 X.2.1 d_M_opensAuthenticator_147 (by decide) ?_
          exact m_reti hQQ X Y hr hlk ⟨S, 0, rfl, ⟨by omega, by omega, ⟨z101, ((s119.2.1 79 (by decide)).trans ((s117.2.1 79 (by decide)).trans ((s113.2.1 79 (by decide)).trans ((s111.2.1 79 (by decide)).trans ((s107.2.1 79 (by decide)).trans w102.1))))), by omega, by omega, by omega⟩, fun h9 => a123, g119_P1, g119_P2, f120, (mmF_cg (s119.2.2 0 (by decide)) (mmF_tr (mmF_cg rfl (mmF_cg rfl (mmF_cg rfl (mmF_cg rfl (mmF_cg (s107.2.2 0 (by decide)) (mmF_cg rfl (mmF_cg rfl (mmF_cg rfl (mmF_cg (s101.2.2 0 (by decide)) mmF_rf))))))))) g117_MF (by decide)))⟩⟩ d_M_opensAuthenticator_148
        · refine lv_bipush (v := iI 60) X.1 X.2.1 d_M_opensAuthenticator_144 (by decide) ?_
          exact m_reti hQQ X Y hr hlk ⟨S, 60, rfl, ⟨by omega, by omega, ⟨z101, ((s119.2.1 79 (by decide)).trans ((s117.2.1 79 (by decide)).trans ((s113.2.1 79 (by decide)).trans ((s111.2.1 79 (by decide)).trans ((s107.2.1 79 (by decide)).trans w102.1))))), by omega, by omega, by omega⟩, fun h9 => absurd h9 (by decide), g119_P1, g119_P2, f120, (mmF_cg (s119.2.2 0 (by decide)) (mmF_tr (mmF_cg rfl (mmF_cg rfl (mmF_cg rfl (mmF_cg rfl (mmF_cg (s107.2.2 0 (by decide)) (mmF_cg rfl (mmF_cg rfl (mmF_cg rfl (mmF_cg (s101.2.2 0 (by decide)) mmF_rf))))))))) g117_MF (by decide)))⟩⟩ d_M_opensAuthenticator_146
      · refine lv_bipush (v := iI 31) X.1 X.2.1 d_M_opensAuthenticator_120 (by decide) ?_
        exact m_reti hQQ X Y hr hlk ⟨S, 31, rfl, ⟨by omega, by omega, ⟨z101, ((s117.2.1 79 (by decide)).trans ((s113.2.1 79 (by decide)).trans ((s111.2.1 79 (by decide)).trans ((s107.2.1 79 (by decide)).trans w102.1)))), by omega, by omega, by omega⟩, fun h9 => absurd h9 (by decide), (pG1_cg (s117.2.1 39 (by decide)) (s117.2.1 40 (by decide)) g113_P1), (pG2_cg (s117.2.2 37 (by decide)) (s117.2.2 38 (by decide)) (pG2_cg rfl rfl (pG2_cg rfl rfl (pG2_cg rfl rfl (pG2_cg rfl rfl g107_P2))))), (thF_cg (s117.2.2 37 (by decide)) (s117.2.2 38 (by decide)) (thF_cg rfl rfl (thF_cg rfl rfl (thF_cg rfl rfl (thF_cg rfl rfl (thF_tr (thF_cg rfl rfl (thF_cg rfl rfl (thF_cg rfl rfl (thF_tr thF_rf g101_TF (by decide))))) g107_TF (by decide))))))), (mmF_tr (mmF_cg rfl (mmF_cg rfl (mmF_cg rfl (mmF_cg rfl (mmF_cg (s107.2.2 0 (by decide)) (mmF_cg rfl (mmF_cg rfl (mmF_cg rfl (mmF_cg (s101.2.2 0 (by decide)) mmF_rf))))))))) g117_MF (by decide))⟩⟩ d_M_opensAuthenticator_122
    · refine lv_bipush (v := iI 31) X.1 X.2.1 d_M_opensAuthenticator_92 (by decide) ?_
      exact m_reti hQQ X Y hr hlk ⟨S, 31, rfl, ⟨by omega, by omega, ⟨z101, ((s113.2.1 79 (by decide)).trans ((s111.2.1 79 (by decide)).trans ((s107.2.1 79 (by decide)).trans w102.1))), by omega, by omega, by omega⟩, fun h9 => absurd h9 (by decide), g113_P1, (pG2_cg rfl rfl (pG2_cg rfl rfl (pG2_cg rfl rfl (pG2_cg rfl rfl g107_P2)))), (thF_cg rfl rfl (thF_cg rfl rfl (thF_cg rfl rfl (thF_cg rfl rfl (thF_tr (thF_cg rfl rfl (thF_cg rfl rfl (thF_cg rfl rfl (thF_tr thF_rf g101_TF (by decide))))) g107_TF (by decide)))))), (mmF_cg rfl (mmF_cg rfl (mmF_cg rfl (mmF_cg rfl (mmF_cg (s107.2.2 0 (by decide)) (mmF_cg rfl (mmF_cg rfl (mmF_cg rfl (mmF_cg (s101.2.2 0 (by decide)) mmF_rf)))))))))⟩⟩ d_M_opensAuthenticator_94
  · refine lv_bipush (v := iI 14) X.1 X.2.1 d_M_opensAuthenticator_21 (by decide) ?_
    exact m_reti hQQ X Y hr hlk ⟨S, 14, rfl, ⟨by omega, by omega, ⟨z101, w102.1, by omega, by omega, by omega⟩, fun h9 => absurd h9 (by decide), (pG1_cg (w102.2 39 (by decide)) (w102.2 40 (by decide)) g101_P1), (pG2_cg rfl rfl g101_P2), (thF_cg rfl rfl (thF_tr thF_rf g101_TF (by decide))), (mmF_cg rfl (mmF_cg (s101.2.2 0 (by decide)) mmF_rf))⟩⟩ d_M_opensAuthenticator_23
set_option maxHeartbeats 4000000 in
set_option maxRecDepth 100000 in
theorem r_M_sameTime (l : Launch) (D : mD) (E : mE) (h : Nat) (q : Nat → Nat) (sz : Nat) (I : Nat → Int32) (J : Nat → Int64) (B : Nat → Nat → Int32) (G : Nat → Nat → Int64) (a1 : Int) (l_a1 : 0 ≤ a1) (u_a1 : a1 ≤ 12) (hT : rT I B) (f_P1 : pG1 I) (f_P2 : pG2 (B 37) (B 38)) (f_TK : tkA (B 37) (B 38) (B 0)) (f_AU : auA (B 37) (B 38) (B 0)) : Met l y_M_sameTime (k_M_sameTime :: lw_tg) (mR 45 2047) (va_Pc [.ref h, .int (iI a1)] (mPre D E h q (I, J, B, G) sz)) (va_Qi (rPi [39, 40] [37, 38, 61, 62, 63, 64] I B (fun (z : Int) (u : mS) => 0 ≤ z ∧ z ≤ 60 ∧ pG1 u.1 ∧ pG2 (u.2.2.1 37) (u.2.2.1 38) ∧ thF [11] (B 37) (B 38) (u.2.2.1 37) (u.2.2.1 38))) (mPost D E h q (mA E h q sz)) (mA E h q sz)) 0 0 (mA E h q sz) := by
  refine m_enter (by decide) rfl (Nat.le_of_ble_eq_true rfl) (fun p e s m below meth c ls AV QQ H locs hQQ X Y hZ hA hr hlk hml hl => ?_)
  have Y : mH D E (mA E h q sz) s.heap h q I J B G H locs := Y
  have S : rS [39, 40] [37, 38, 61, 62, 63, 64] I B I B := rS_rf hT
  have hl : lv_has ls 2 [(0, .ref h), (1, .int (iI a1))] := hl
  refine lv_aload_n X.1 X.2.1 d_M_sameTime_0 rfl (lv_at hl 0 rfl) ?_
  refine lv_aload_n X.1 X.2.1 d_M_sameTime_1 rfl (lv_at hl 0 rfl) ?_
  refine lv_iconst (v := iI 5) X.1 X.2.1 d_M_sameTime_2 (by decide) ?_
  refine lv_iconst (v := iI 1) X.1 X.2.1 d_M_sameTime_3 (by decide) ?_
  refine r_ni (m_run (As := [.int (iI 5), .int (iI 1)]) (rest := [.ref h]) (n := 2) X Y hZ hA hml hl.1 (r_M_a l D E h q H.size I J B G 5 (by omega) (by omega) 1 (by omega) (by omega) S.1) kl_M_a ks_M_a kx_M_a ki_M_a ini_M hd_M_a ⟨Nat.le_of_ble_eq_true rfl, Nat.le_of_ble_eq_true rfl⟩ rfl (Nat.le_of_ble_eq_true rfl) d_M_sameTime_4 ⟨Nat.le_refl _, Nat.le_refl _⟩) X Y hA S (by decide) (by decide) (fun z101 u H locs Y S s101 p101 => ?_)
  obtain ⟨I101, J101, B101, G101⟩ := u
  dsimp only at Y S s101 p101
  have i101 : I = I101 := (funext (fun j => s101.2.1 j (by simp))).symm
  subst i101
  have b101 : B = B101 := (funext (fun j => s101.2.2 j (by simp))).symm
  subst b101
  obtain ⟨l101, u101, x101⟩ := p101
  refine lv_aload_n X.1 X.2.1 d_M_sameTime_7 rfl (lv_at hl 0 rfl) ?_
  refine lv_iconst (v := iI 5) X.1 X.2.1 d_M_sameTime_8 (by decide) ?_
  refine lv_iconst (v := iI 1) X.1 X.2.1 d_M_sameTime_9 (by decide) ?_
  refine r_ni (m_run (As := [.int (iI 5), .int (iI 1)]) (rest := [.int (iI z101), .ref h]) (n := 2) X Y hZ hA hml hl.1 (r_M_b l D E h q H.size I J101 B G101 5 (by omega) (by omega) 1 (by omega) (by omega) S.1) kl_M_b ks_M_b kx_M_b ki_M_b ini_M hd_M_b ⟨Nat.le_of_ble_eq_true rfl, Nat.le_of_ble_eq_true rfl⟩ rfl (Nat.le_of_ble_eq_true rfl) d_M_sameTime_10 ⟨Nat.le_refl _, Nat.le_refl _⟩) X Y hA S (by decide) (by decide) (fun z102 u H locs Y S s102 p102 => ?_)
  obtain ⟨I102, J102, B102, G102⟩ := u
  dsimp only at Y S s102 p102
  have i102 : I = I102 := (funext (fun j => s102.2.1 j (by simp))).symm
  subst i102
  have b102 : B = B102 := (funext (fun j => s102.2.2 j (by simp))).symm
  subst b102
  obtain ⟨l102, u102, x102⟩ := p102
  have p103 : pr z101 z102 := by rw [x101, x102]; exact (pG2_cg rfl rfl (pG2_cg rfl rfl f_P2)) (16 * 5 + 1 : Int).toNat (by omega)
  unfold pr at p103
  refine lv_aload_n X.1 X.2.1 d_M_sameTime_13 rfl (lv_at hl 0 rfl) ?_
  refine lv_iconst (v := iI 4) X.1 X.2.1 d_M_sameTime_14 (by decide) ?_
  refine lv_iconst (v := iI 2) X.1 X.2.1 d_M_sameTime_15 (by decide) ?_
  refine r_ni (m_run (As := [.int (iI 4), .int (iI 2)]) (rest := [.int (iI z102), .int (iI z101), .ref h]) (n := 2) X Y hZ hA hml hl.1 (r_M_a l D E h q H.size I J102 B G102 4 (by omega) (by omega) 2 (by omega) (by omega) S.1) kl_M_a ks_M_a kx_M_a ki_M_a ini_M hd_M_a ⟨Nat.le_of_ble_eq_true rfl, Nat.le_of_ble_eq_true rfl⟩ rfl (Nat.le_of_ble_eq_true rfl) d_M_sameTime_16 ⟨Nat.le_refl _, Nat.le_refl _⟩) X Y hA S (by decide) (by decide) (fun z104 u H locs Y S s104 p104 => ?_)
  obtain ⟨I104, J104, B104, G104⟩ := u
  dsimp only at Y S s104 p104
  have i104 : I = I104 := (funext (fun j => s104.2.1 j (by simp))).symm
  subst i104
  have b104 : B = B104 := (funext (fun j => s104.2.2 j (by simp))).symm
  subst b104
  obtain ⟨l104, u104, x104⟩ := p104
  refine lv_aload_n X.1 X.2.1 d_M_sameTime_19 rfl (lv_at hl 0 rfl) ?_
  refine lv_iconst (v := iI 4) X.1 X.2.1 d_M_sameTime_20 (by decide) ?_
  refine lv_iconst (v := iI 2) X.1 X.2.1 d_M_sameTime_21 (by decide) ?_
  refine r_ni (m_run (As := [.int (iI 4), .int (iI 2)]) (rest := [.int (iI z104), .int (iI z102), .int (iI z101), .ref h]) (n := 2) X Y hZ hA hml hl.1 (r_M_b l D E h q H.size I J104 B G104 4 (by omega) (by omega) 2 (by omega) (by omega) S.1) kl_M_b ks_M_b kx_M_b ki_M_b ini_M hd_M_b ⟨Nat.le_of_ble_eq_true rfl, Nat.le_of_ble_eq_true rfl⟩ rfl (Nat.le_of_ble_eq_true rfl) d_M_sameTime_22 ⟨Nat.le_refl _, Nat.le_refl _⟩) X Y hA S (by decide) (by decide) (fun z105 u H locs Y S s105 p105 => ?_)
  obtain ⟨I105, J105, B105, G105⟩ := u
  dsimp only at Y S s105 p105
  have i105 : I = I105 := (funext (fun j => s105.2.1 j (by simp))).symm
  subst i105
  have b105 : B = B105 := (funext (fun j => s105.2.2 j (by simp))).symm
  subst b105
  obtain ⟨l105, u105, x105⟩ := p105
  have p106 : pr z104 z105 := by rw [x104, x105]; exact (pG2_cg rfl rfl (pG2_cg rfl rfl (pG2_cg rfl rfl (pG2_cg rfl rfl f_P2)))) (16 * 4 + 2 : Int).toNat (by omega)
  unfold pr at p106
  refine r_ni (m_run (As := [.int (iI z101), .int (iI z102), .int (iI z104), .int (iI z105)]) (rest := []) (n := 4) X Y hZ hA hml hl.1 (r_M_isSame l D E h q H.size I J105 B G105 z101 (by omega) (by omega) z102 (by omega) (by omega) z104 (by omega) (by omega) z105 (by omega) (by omega) S.1 (by omega) (by omega)) kl_M_isSame ks_M_isSame kx_M_isSame ki_M_isSame ini_M hd_M_isSame ⟨Nat.le_of_ble_eq_true rfl, Nat.le_of_ble_eq_true rfl⟩ rfl (Nat.le_of_ble_eq_true rfl) d_M_sameTime_25 ⟨Nat.le_refl _, Nat.le_refl _⟩) X Y hA S (by decide) (by decide) (fun z107 u H locs Y S s107 p107 => ?_)
  obtain ⟨I107, J107, B107, G107⟩ := u
  dsimp only at Y S s107 p107
  have i107 : I = I107 := (funext (fun j => s107.2.1 j (by simp))).symm
  subst i107
  have b107 : B = B107 := (funext (fun j => s107.2.2 j (by simp))).symm
  subst b107
  obtain ⟨l107, u107, x107⟩ := p107
  refine z_if_eq (tgt := 62) X.1 X.2.1 d_M_sameTime_28 (by decide) ⟨by omega, by omega⟩ (fun h108 => ?_) (fun h108 => ?_)
  · refine lv_bipush (v := iI 36) X.1 X.2.1 d_M_sameTime_62 (by decide) ?_
    exact m_reti hQQ X Y hr hlk ⟨S, 36, rfl, ⟨by omega, by omega, (pG1_cg rfl rfl (pG1_cg rfl rfl (pG1_cg rfl rfl (pG1_cg rfl rfl (pG1_cg rfl rfl f_P1))))), (pG2_cg rfl rfl (pG2_cg rfl rfl (pG2_cg rfl rfl (pG2_cg rfl rfl (pG2_cg rfl rfl f_P2))))), (thF_cg rfl rfl (thF_cg rfl rfl (thF_cg rfl rfl (thF_cg rfl rfl (thF_cg rfl rfl thF_rf)))))⟩⟩ d_M_sameTime_64
  · refine lv_aload_n X.1 X.2.1 d_M_sameTime_31 rfl (lv_at hl 0 rfl) ?_
    refine lv_aload_n X.1 X.2.1 d_M_sameTime_32 rfl (lv_at hl 0 rfl) ?_
    refine lv_iconst (v := iI 5) X.1 X.2.1 d_M_sameTime_33 (by decide) ?_
    refine lv_iconst (v := iI 2) X.1 X.2.1 d_M_sameTime_34 (by decide) ?_
    refine r_ni (m_run (As := [.int (iI 5), .int (iI 2)]) (rest := [.ref h]) (n := 2) X Y hZ hA hml hl.1 (r_M_a l D E h q H.size I J107 B G107 5 (by omega) (by omega) 2 (by omega) (by omega) S.1) kl_M_a ks_M_a kx_M_a ki_M_a ini_M hd_M_a ⟨Nat.le_of_ble_eq_true rfl, Nat.le_of_ble_eq_true rfl⟩ rfl (Nat.le_of_ble_eq_true rfl) d_M_sameTime_35 ⟨Nat.le_refl _, Nat.le_refl _⟩) X Y hA S (by decide) (by decide) (fun z109 u H locs Y S s109 p109 => ?_)
    obtain ⟨I109, J109, B109, G109⟩ := u
    dsimp only at Y S s109 p109
    have i109 : I = I109 := (funext (fun j => s109.2.1 j (by simp))).symm
    subst i109
    have b109 : B = B109 := (funext (fun j => s109.2.2 j (by simp))).symm
    subst b109
    obtain ⟨l109, u109, x109⟩ := p109
    refine lv_aload_n X.1 X.2.1 d_M_sameTime_38 rfl (lv_at hl 0 rfl) ?_
    refine lv_iconst (v := iI 5) X.1 X.2.1 d_M_sameTime_39 (by decide) ?_
    refine lv_iconst (v := iI 2) X.1 X.2.1 d_M_sameTime_40 (by decide) ?_
    refine r_ni (m_run (As := [.int (iI 5), .int (iI 2)]) (rest := [.int (iI z109), .ref h]) (n := 2) X Y hZ hA hml hl.1 (r_M_b l D E h q H.size I J109 B G109 5 (by omega) (by omega) 2 (by omega) (by omega) S.1) kl_M_b ks_M_b kx_M_b ki_M_b ini_M hd_M_b ⟨Nat.le_of_ble_eq_true rfl, Nat.le_of_ble_eq_true rfl⟩ rfl (Nat.le_of_ble_eq_true rfl) d_M_sameTime_41 ⟨Nat.le_refl _, Nat.le_refl _⟩) X Y hA S (by decide) (by decide) (fun z110 u H locs Y S s110 p110 => ?_)
    obtain ⟨I110, J110, B110, G110⟩ := u
    dsimp only at Y S s110 p110
    have i110 : I = I110 := (funext (fun j => s110.2.1 j (by simp))).symm
    subst i110
    have b110 : B = B110 := (funext (fun j => s110.2.2 j (by simp))).symm
    subst b110
    obtain ⟨l110, u110, x110⟩ := p110
    have p111 : pr z109 z110 := by rw [x109, x110]; exact (pG2_cg rfl rfl (pG2_cg rfl rfl (pG2_cg rfl rfl (pG2_cg rfl rfl (pG2_cg rfl rfl (pG2_cg rfl rfl (pG2_cg rfl rfl f_P2))))))) (16 * 5 + 2 : Int).toNat (by omega)
    unfold pr at p111
    refine lv_aload_n X.1 X.2.1 d_M_sameTime_44 rfl (lv_at hl 0 rfl) ?_
    refine lv_iconst (v := iI 4) X.1 X.2.1 d_M_sameTime_45 (by decide) ?_
    refine lv_iconst (v := iI 3) X.1 X.2.1 d_M_sameTime_46 (by decide) ?_
    refine r_ni (m_run (As := [.int (iI 4), .int (iI 3)]) (rest := [.int (iI z110), .int (iI z109), .ref h]) (n := 2) X Y hZ hA hml hl.1 (r_M_a l D E h q H.size I J110 B G110 4 (by omega) (by omega) 3 (by omega) (by omega) S.1) kl_M_a ks_M_a kx_M_a ki_M_a ini_M hd_M_a ⟨Nat.le_of_ble_eq_true rfl, Nat.le_of_ble_eq_true rfl⟩ rfl (Nat.le_of_ble_eq_true rfl) d_M_sameTime_47 ⟨Nat.le_refl _, Nat.le_refl _⟩) X Y hA S (by decide) (by decide) (fun z112 u H locs Y S s112 p112 => ?_)
    obtain ⟨I112, J112, B112, G112⟩ := u
    dsimp only at Y S s112 p112
    have i112 : I = I112 := (funext (fun j => s112.2.1 j (by simp))).symm
    subst i112
    have b112 : B = B112 := (funext (fun j => s112.2.2 j (by simp))).symm
    subst b112
    obtain ⟨l112, u112, x112⟩ := p112
    refine lv_aload_n X.1 X.2.1 d_M_sameTime_50 rfl (lv_at hl 0 rfl) ?_
    refine lv_iconst (v := iI 4) X.1 X.2.1 d_M_sameTime_51 (by decide) ?_
    refine lv_iconst (v := iI 3) X.1 X.2.1 d_M_sameTime_52 (by decide) ?_
    refine r_ni (m_run (As := [.int (iI 4), .int (iI 3)]) (rest := [.int (iI z112), .int (iI z110), .int (iI z109), .ref h]) (n := 2) X Y hZ hA hml hl.1 (r_M_b l D E h q H.size I J112 B G112 4 (by omega) (by omega) 3 (by omega) (by omega) S.1) kl_M_b ks_M_b kx_M_b ki_M_b ini_M hd_M_b ⟨Nat.le_of_ble_eq_true rfl, Nat.le_of_ble_eq_true rfl⟩ rfl (Nat.le_of_ble_eq_true rfl) d_M_sameTime_53 ⟨Nat.le_refl _, Nat.le_refl _⟩) X Y hA S (by decide) (by decide) (fun z113 u H locs Y S s113 p113 => ?_)
    obtain ⟨I113, J113, B113, G113⟩ := u
    dsimp only at Y S s113 p113
    have i113 : I = I113 := (funext (fun j => s113.2.1 j (by simp))).symm
    subst i113
    have b113 : B = B113 := (funext (fun j => s113.2.2 j (by simp))).symm
    subst b113
    obtain ⟨l113, u113, x113⟩ := p113
    have p114 : pr z112 z113 := by rw [x112, x113]; exact (pG2_cg rfl rfl (pG2_cg rfl rfl (pG2_cg rfl rfl (pG2_cg rfl rfl (pG2_cg rfl rfl (pG2_cg rfl rfl (pG2_cg rfl rfl (pG2_cg rfl rfl (pG2_cg rfl rfl f_P2))))))))) (16 * 4 + 3 : Int).toNat (by omega)
    unfold pr at p114
    refine r_ni (m_run (As := [.int (iI z109), .int (iI z110), .int (iI z112), .int (iI z113)]) (rest := []) (n := 4) X Y hZ hA hml hl.1 (r_M_sameNames l D E h q H.size I J113 B G113 z109 (by omega) (by omega) z110 (by omega) (by omega) z112 (by omega) (by omega) z113 (by omega) (by omega) S.1 (pG1_cg rfl rfl (pG1_cg rfl rfl (pG1_cg rfl rfl (pG1_cg rfl rfl (pG1_cg rfl rfl (pG1_cg rfl rfl (pG1_cg rfl rfl (pG1_cg rfl rfl (pG1_cg rfl rfl f_P1))))))))) (pG2_cg rfl rfl (pG2_cg rfl rfl (pG2_cg rfl rfl (pG2_cg rfl rfl (pG2_cg rfl rfl (pG2_cg rfl rfl (pG2_cg rfl rfl (pG2_cg rfl rfl (pG2_cg rfl rfl f_P2))))))))) (by omega) (by omega) (by omega) (by omega)) kl_M_sameNames ks_M_sameNames kx_M_sameNames ki_M_sameNames ini_M hd_M_sameNames ⟨Nat.le_of_ble_eq_true rfl, Nat.le_of_ble_eq_true rfl⟩ rfl (Nat.le_of_ble_eq_true rfl) d_M_sameTime_56 ⟨Nat.le_refl _, Nat.le_refl _⟩) X Y hA S (by decide) (by decide) (fun z115 u H locs Y S s115 p115 => ?_)
    obtain ⟨I115, J115, B115, G115⟩ := u
    dsimp only at Y S s115 p115
    obtain ⟨l115, u115, x115, g115_P1, g115_P2, g115_TF⟩ := p115
    have f116 : tkA (B115 37) (B115 38) (B115 0) := (tkA_cg (s115.2.2 0 (by decide)) rfl rfl (tkA_T g115_TF (by decide) (by decide) (tkA_cg rfl rfl rfl (tkA_cg rfl rfl rfl (tkA_cg rfl rfl rfl (tkA_cg rfl rfl rfl (tkA_cg rfl rfl rfl (tkA_cg rfl rfl rfl (tkA_cg rfl rfl rfl (tkA_cg rfl rfl rfl (tkA_cg rfl rfl rfl f_TK)))))))))))
    have f117 : auA (B115 37) (B115 38) (B115 0) := (auA_cg (s115.2.2 0 (by decide)) rfl rfl (auA_T g115_TF (by decide) (by decide) (auA_cg rfl rfl rfl (auA_cg rfl rfl rfl (auA_cg rfl rfl rfl (auA_cg rfl rfl rfl (auA_cg rfl rfl rfl (auA_cg rfl rfl rfl (auA_cg rfl rfl rfl (auA_cg rfl rfl rfl (auA_cg rfl rfl rfl f_AU)))))))))))
    have a118 : z115 ≠ 0 → asA (B115 37) (B115 38) (B115 0) := fun h9 => asA_cg (s115.2.2 0 (by decide)) rfl rfl (asA_T g115_TF (by decide) (by decide) (as_of (tkA_cg rfl rfl rfl (tkA_cg rfl rfl rfl (tkA_cg rfl rfl rfl (tkA_cg rfl rfl rfl (tkA_cg rfl rfl rfl (tkA_cg rfl rfl rfl (tkA_cg rfl rfl rfl (tkA_cg rfl rfl rfl (tkA_cg rfl rfl rfl f_TK))))))))) (auA_cg rfl rfl rfl (auA_cg rfl rfl rfl (auA_cg rfl rfl rfl (auA_cg rfl rfl rfl (auA_cg rfl rfl rfl (auA_cg rfl rfl rfl (auA_cg rfl rfl rfl (auA_cg rfl rfl rfl (auA_cg rfl rfl rfl f_AU))))))))) x109 x110 x112 x113 (x115.resolve_left h9)))
    refine z_if_ne (tgt := 65) X.1 X.2.1 d_M_sameTime_59 (by decide) ⟨by omega, by omega⟩ (fun h119 => ?_) (fun h119 => ?_)
    · refine lv_aload_n X.1 X.2.1 d_M_sameTime_65 rfl (lv_at hl 0 rfl) ?_
      refine lv_aload_n X.1 X.2.1 d_M_sameTime_66 rfl (lv_at hl 0 rfl) ?_
      refine lv_iconst (v := iI 5) X.1 X.2.1 d_M_sameTime_67 (by decide) ?_
      refine lv_iconst (v := iI 5) X.1 X.2.1 d_M_sameTime_68 (by decide) ?_
      refine r_nl (m_run (As := [.int (iI 5), .int (iI 5)]) (rest := [.ref h]) (n := 2) X Y hZ hA hml hl.1 (r_M_timeOf l D E h q H.size I115 J115 B115 G115 5 (by omega) (by omega) 5 (by omega) (by omega) S.1 g115_P1 g115_P2) kl_M_timeOf ks_M_timeOf kx_M_timeOf ki_M_timeOf ini_M hd_M_timeOf ⟨Nat.le_of_ble_eq_true rfl, Nat.le_of_ble_eq_true rfl⟩ rfl (Nat.le_of_ble_eq_true rfl) d_M_sameTime_69 ⟨Nat.le_refl _, Nat.le_refl _⟩) X Y hA S (by decide) (by decide) (fun v120 u H locs Y S s120 p120 => ?_)
      obtain ⟨I120, J120, B120, G120⟩ := u
      dsimp only at Y S s120 p120
      have b120 : B115 = B120 := (funext (fun j => s120.2.2 j (by simp))).symm
      subst b120
      have g120_P1 := p120
      refine lv_aload_n X.1 X.2.1 d_M_sameTime_72 rfl (lv_at hl 0 rfl) ?_
      refine r_geti (k := 4) X Y S (by decide) lk_now (gf_now _ _ _) rfl rfl d_M_sameTime_73 (fun z121 e121 l121 u121 => ?_)
      refine z_i2lx X.1 X.2.1 ⟨by omega, by omega⟩ d_M_sameTime_76 (fun v122 tv122 => ?_)
      refine r_ni (m_run (As := [.long v120, .long v122]) (rest := []) (n := 2) X Y hZ hA hml hl.1 (r_M_isFar l D E h q H.size I120 J120 B115 G120 v120 v122 S.1) kl_M_isFar ks_M_isFar kx_M_isFar ki_M_isFar ini_M hd_M_isFar ⟨Nat.le_of_ble_eq_true rfl, Nat.le_of_ble_eq_true rfl⟩ rfl (Nat.le_of_ble_eq_true rfl) d_M_sameTime_77 ⟨Nat.le_refl _, Nat.le_refl _⟩) X Y hA S (by decide) (by decide) (fun z123 u H locs Y S s123 p123 => ?_)
      obtain ⟨I123, J123, B123, G123⟩ := u
      dsimp only at Y S s123 p123
      have i123 : I120 = I123 := (funext (fun j => s123.2.1 j (by simp))).symm
      subst i123
      have b123 : B115 = B123 := (funext (fun j => s123.2.2 j (by simp))).symm
      subst b123
      obtain ⟨l123, u123⟩ := p123
      refine z_if_eq (tgt := 86) X.1 X.2.1 d_M_sameTime_80 (by decide) ⟨by omega, by omega⟩ (fun h124 => ?_) (fun h124 => ?_)
      · refine lv_aload_n X.1 X.2.1 d_M_sameTime_86 rfl (lv_at hl 0 rfl) ?_
        refine lv_iload_n X.1 X.2.1 d_M_sameTime_87 rfl (lv_at hl 1 rfl) ?_
        refine lv_aload_n X.1 X.2.1 d_M_sameTime_88 rfl (lv_at hl 0 rfl) ?_
        refine lv_iconst (v := iI 5) X.1 X.2.1 d_M_sameTime_89 (by decide) ?_
        refine lv_iconst (v := iI 2) X.1 X.2.1 d_M_sameTime_90 (by decide) ?_
        refine r_ni (m_run (As := [.int (iI 5), .int (iI 2)]) (rest := [.int (iI a1), .ref h]) (n := 2) X Y hZ hA hml hl.1 (r_M_a l D E h q H.size I120 J123 B115 G123 5 (by omega) (by omega) 2 (by omega) (by omega) S.1) kl_M_a ks_M_a kx_M_a ki_M_a ini_M hd_M_a ⟨Nat.le_of_ble_eq_true rfl, Nat.le_of_ble_eq_true rfl⟩ rfl (Nat.le_of_ble_eq_true rfl) d_M_sameTime_91 ⟨Nat.le_refl _, Nat.le_refl _⟩) X Y hA S (by decide) (by decide) (fun z125 u H locs Y S s125 p125 => ?_)
        obtain ⟨I125, J125, B125, G125⟩ := u
        dsimp only at Y S s125 p125
        have i125 : I120 = I125 := (funext (fun j => s125.2.1 j (by simp))).symm
        subst i125
        have b125 : B115 = B125 := (funext (fun j => s125.2.2 j (by simp))).symm
        subst b125
        obtain ⟨l125, u125, x125⟩ := p125
        refine lv_aload_n X.1 X.2.1 d_M_sameTime_94 rfl (lv_at hl 0 rfl) ?_
        refine lv_iconst (v := iI 5) X.1 X.2.1 d_M_sameTime_95 (by decide) ?_
        refine lv_iconst (v := iI 2) X.1 X.2.1 d_M_sameTime_96 (by decide) ?_
        refine r_ni (m_run (As := [.int (iI 5), .int (iI 2)]) (rest := [.int (iI z125), .int (iI a1), .ref h]) (n := 2) X Y hZ hA hml hl.1 (r_M_b l D E h q H.size I120 J125 B115 G125 5 (by omega) (by omega) 2 (by omega) (by omega) S.1) kl_M_b ks_M_b kx_M_b ki_M_b ini_M hd_M_b ⟨Nat.le_of_ble_eq_true rfl, Nat.le_of_ble_eq_true rfl⟩ rfl (Nat.le_of_ble_eq_true rfl) d_M_sameTime_97 ⟨Nat.le_refl _, Nat.le_refl _⟩) X Y hA S (by decide) (by decide) (fun z126 u H locs Y S s126 p126 => ?_)
        obtain ⟨I126, J126, B126, G126⟩ := u
        dsimp only at Y S s126 p126
        have i126 : I120 = I126 := (funext (fun j => s126.2.1 j (by simp))).symm
        subst i126
        have b126 : B115 = B126 := (funext (fun j => s126.2.2 j (by simp))).symm
        subst b126
        have f127 : thF [11] (B 37) (B 38) (B115 37) (B115 38) := (thF_cg rfl rfl (thF_cg rfl rfl (thF_cg rfl rfl (thF_cg rfl rfl (thF_tr (thF_cg rfl rfl (thF_cg rfl rfl (thF_cg rfl rfl (thF_cg rfl rfl (thF_cg rfl rfl (thF_cg rfl rfl (thF_cg rfl rfl (thF_cg rfl rfl (thF_cg rfl rfl thF_rf))))))))) g115_TF (by decide))))))
        obtain ⟨l126, u126, x126⟩ := p126
        have p128 : pr z125 z126 := by rw [x125, x126]; exact (pG2_cg rfl rfl (pG2_cg rfl rfl (pG2_cg rfl rfl (pG2_cg rfl rfl g115_P2)))) (16 * 5 + 2 : Int).toNat (by omega)
        unfold pr at p128
        refine lv_aload_n X.1 X.2.1 d_M_sameTime_100 rfl (lv_at hl 0 rfl) ?_
        refine lv_iconst (v := iI 5) X.1 X.2.1 d_M_sameTime_101 (by decide) ?_
        refine lv_iconst (v := iI 5) X.1 X.2.1 d_M_sameTime_102 (by decide) ?_
        refine r_nl (m_run (As := [.int (iI 5), .int (iI 5)]) (rest := [.int (iI z126), .int (iI z125), .int (iI a1), .ref h]) (n := 2) X Y hZ hA hml hl.1 (r_M_timeOf l D E h q H.size I120 J126 B115 G126 5 (by omega) (by omega) 5 (by omega) (by omega) S.1 (pG1_cg rfl rfl (pG1_cg rfl rfl (pG1_cg rfl rfl g120_P1))) (pG2_cg rfl rfl (pG2_cg rfl rfl (pG2_cg rfl rfl (pG2_cg rfl rfl g115_P2))))) kl_M_timeOf ks_M_timeOf kx_M_timeOf ki_M_timeOf ini_M hd_M_timeOf ⟨Nat.le_of_ble_eq_true rfl, Nat.le_of_ble_eq_true rfl⟩ rfl (Nat.le_of_ble_eq_true rfl) d_M_sameTime_103 ⟨Nat.le_refl _, Nat.le_refl _⟩) X Y hA S (by decide) (by decide) (fun v129 u H locs Y S s129 p129 => ?_)
        obtain ⟨I129, J129, B129, G129⟩ := u
        dsimp only at Y S s129 p129
        have b129 : B115 = B129 := (funext (fun j => s129.2.2 j (by simp))).symm
        subst b129
        have g129_P1 := p129
        refine lv_aload_n X.1 X.2.1 d_M_sameTime_106 rfl (lv_at hl 0 rfl) ?_
        refine lv_iconst (v := iI 5) X.1 X.2.1 d_M_sameTime_107 (by decide) ?_
        refine lv_iconst (v := iI 4) X.1 X.2.1 d_M_sameTime_108 (by decide) ?_
        refine r_nl (m_run (As := [.int (iI 5), .int (iI 4)]) (rest := [.long v129, .int (iI z126), .int (iI z125), .int (iI a1), .ref h]) (n := 2) X Y hZ hA hml hl.1 (r_M_numberAt l D E h q H.size I129 J129 B115 G129 5 (by omega) (by omega) 4 (by omega) (by omega) S.1 g129_P1 (pG2_cg rfl rfl (pG2_cg rfl rfl (pG2_cg rfl rfl (pG2_cg rfl rfl (pG2_cg rfl rfl g115_P2)))))) kl_M_numberAt ks_M_numberAt kx_M_numberAt ki_M_numberAt ini_M hd_M_numberAt ⟨Nat.le_of_ble_eq_true rfl, Nat.le_of_ble_eq_true rfl⟩ rfl (Nat.le_of_ble_eq_true rfl) d_M_sameTime_109 ⟨Nat.le_refl _, Nat.le_refl _⟩) X Y hA S (by decide) (by decide) (fun v130 u H locs Y S s130 p130 => ?_)
        obtain ⟨I130, J130, B130, G130⟩ := u
        dsimp only at Y S s130 p130
        have b130 : B115 = B130 := (funext (fun j => s130.2.2 j (by simp))).symm
        subst b130
        have g130_P1 := p130
        refine z_l2i X.1 X.2.1 d_M_sameTime_112 (fun z131 l131 u131 x131 => ?_)
        refine r_ni (m_run (As := [.int (iI a1), .int (iI z125), .int (iI z126), .long v129, .int (iI z131)]) (rest := []) (n := 5) X Y hZ hA hml hl.1 (r_M_seen l D E h q H.size I130 J130 B115 G130 a1 (by omega) (by omega) z125 (by omega) (by omega) z126 (by omega) (by omega) v129 z131 (by omega) (by omega) S.1 (by rw [x125, x126]; exact ((asA_cg rfl rfl rfl (asA_cg rfl rfl rfl (asA_cg rfl rfl rfl (asA_cg rfl rfl rfl (asA_cg rfl rfl rfl (asA_cg rfl rfl rfl (a118 (by omega))))))))).1) (by rw [x125, x126]; exact ((asA_cg rfl rfl rfl (asA_cg rfl rfl rfl (asA_cg rfl rfl rfl (asA_cg rfl rfl rfl (asA_cg rfl rfl rfl (asA_cg rfl rfl rfl (a118 (by omega))))))))).2) g130_P1 (pG2_cg rfl rfl (pG2_cg rfl rfl (pG2_cg rfl rfl (pG2_cg rfl rfl (pG2_cg rfl rfl (pG2_cg rfl rfl g115_P2)))))) (by omega) (by omega)) kl_M_seen ks_M_seen kx_M_seen ki_M_seen ini_M hd_M_seen ⟨Nat.le_of_ble_eq_true rfl, Nat.le_of_ble_eq_true rfl⟩ rfl (Nat.le_of_ble_eq_true rfl) d_M_sameTime_113 ⟨Nat.le_refl _, Nat.le_refl _⟩) X Y hA S (by decide) (by decide) (fun z132 u H locs Y S s132 p132 => ?_)
        obtain ⟨I132, J132, B132, G132⟩ := u
        dsimp only at Y S s132 p132
        obtain ⟨l132, u132, g132_P1, g132_P2, g132_TF⟩ := p132
        have f133 : tkA (B132 37) (B132 38) (B132 0) := (tkA_cg (s132.2.2 0 (by decide)) rfl rfl (tkA_T g132_TF (by decide) (by decide) (tkA_cg rfl rfl rfl (tkA_cg rfl rfl rfl (tkA_cg rfl rfl rfl (tkA_cg rfl rfl rfl (tkA_cg rfl rfl rfl (tkA_cg rfl rfl rfl f116))))))))
        have f134 : auA (B132 37) (B132 38) (B132 0) := (auA_cg (s132.2.2 0 (by decide)) rfl rfl (auA_T g132_TF (by decide) (by decide) (auA_cg rfl rfl rfl (auA_cg rfl rfl rfl (auA_cg rfl rfl rfl (auA_cg rfl rfl rfl (auA_cg rfl rfl rfl (auA_cg rfl rfl rfl f117))))))))
        have f135 : asA (B132 37) (B132 38) (B132 0) := (asA_cg (s132.2.2 0 (by decide)) rfl rfl (asA_T g132_TF (by decide) (by decide) (asA_cg rfl rfl rfl (asA_cg rfl rfl rfl (asA_cg rfl rfl rfl (asA_cg rfl rfl rfl (asA_cg rfl rfl rfl (asA_cg rfl rfl rfl (a118 (by omega))))))))))
        exact m_reti hQQ X Y hr hlk ⟨S, z132, rfl, ⟨by omega, by omega, g132_P1, g132_P2, (thF_tr (thF_cg rfl rfl (thF_cg rfl rfl f127)) g132_TF (by decide))⟩⟩ d_M_sameTime_116
      · refine lv_bipush (v := iI 37) X.1 X.2.1 d_M_sameTime_83 (by decide) ?_
        exact m_reti hQQ X Y hr hlk ⟨S, 37, rfl, ⟨by omega, by omega, (pG1_cg rfl rfl g120_P1), (pG2_cg rfl rfl (pG2_cg rfl rfl g115_P2)), (thF_cg rfl rfl (thF_cg rfl rfl (thF_tr (thF_cg rfl rfl (thF_cg rfl rfl (thF_cg rfl rfl (thF_cg rfl rfl (thF_cg rfl rfl (thF_cg rfl rfl (thF_cg rfl rfl (thF_cg rfl rfl (thF_cg rfl rfl thF_rf))))))))) g115_TF (by decide))))⟩⟩ d_M_sameTime_85
    · refine lv_bipush (v := iI 36) X.1 X.2.1 d_M_sameTime_62 (by decide) ?_
      exact m_reti hQQ X Y hr hlk ⟨S, 36, rfl, ⟨by omega, by omega, g115_P1, g115_P2, (thF_tr (thF_cg rfl rfl (thF_cg rfl rfl (thF_cg rfl rfl (thF_cg rfl rfl (thF_cg rfl rfl (thF_cg rfl rfl (thF_cg rfl rfl (thF_cg rfl rfl (thF_cg rfl rfl thF_rf))))))))) g115_TF (by decide))⟩⟩ d_M_sameTime_64
set_option maxHeartbeats 4000000 in
set_option maxRecDepth 100000 in
theorem r_M_shownAhead (l : Launch) (D : mD) (E : mE) (h : Nat) (q : Nat → Nat) (sz : Nat) (I : Nat → Int32) (J : Nat → Int64) (B : Nat → Nat → Int32) (G : Nat → Nat → Int64) (hT : rT I B) (cl : Int) (gcl : I 75 = iI cl) (lcl : 0 ≤ cl) (ucl : cl ≤ 11) (f_P1 : pG1 I) (f_P2 : pG2 (B 37) (B 38)) (f_R3 : rwO (16 * 0 + 3 : Int).toNat (B 37) (B 38) (B 0)) (f_R24 : rwA (16 * 1 + 8 : Int).toNat (B 37) (B 38) (B 0)) (f_HD : hD I) : Met l y_M_shownAhead (k_M_shownAhead :: lw_tg) (mR 44 2014) (va_Pc [.ref h] (mPre D E h q (I, J, B, G) sz)) (va_Qi (rPi [8, 14, 18, 39, 40, 68, 70, 71, 72, 73, 74] [0, 5, 6, 7, 9, 10, 11, 12, 13, 15, 16, 17, 19, 20, 21, 22, 23, 34, 37, 38, 58] I B (fun (z : Int) (u : mS) => 0 ≤ z ∧ z ≤ 60 ∧ pG1 u.1 ∧ pG2 (u.2.2.1 37) (u.2.2.1 38) ∧ hD u.1 ∧ thF [6, 8, 10] (B 37) (B 38) (u.2.2.1 37) (u.2.2.1 38) ∧ mmF 4200 8400 (B 0) (u.2.2.1 0))) (mPost D E h q (mA E h q sz)) (mA E h q sz)) 0 0 (mA E h q sz) := by
  refine m_enter (by decide) rfl (Nat.le_of_ble_eq_true rfl) (fun p e s m below meth c ls AV QQ H locs hQQ X Y hZ hA hr hlk hml hl => ?_)
  have Y : mH D E (mA E h q sz) s.heap h q I J B G H locs := Y
  have S : rS [8, 14, 18, 39, 40, 68, 70, 71, 72, 73, 74] [0, 5, 6, 7, 9, 10, 11, 12, 13, 15, 16, 17, 19, 20, 21, 22, 23, 34, 37, 38, 58] I B I B := rS_rf hT
  have hl : lv_has ls 6 [(0, .ref h)] := hl
  refine lv_aload_n X.1 X.2.1 d_M_shownAhead_0 rfl (lv_at hl 0 rfl) ?_
  refine lv_iconst (v := iI 2) X.1 X.2.1 d_M_shownAhead_1 (by decide) ?_
  refine r_ni (m_run (As := [.int (iI 2)]) (rest := []) (n := 1) X Y hZ hA hml hl.1 (r_M_padata l D E h q H.size I J B G 2 (by omega) (by omega) S.1 f_P1 f_P2 f_R3) kl_M_padata ks_M_padata kx_M_padata ki_M_padata ini_M hd_M_padata ⟨Nat.le_of_ble_eq_true rfl, Nat.le_of_ble_eq_true rfl⟩ rfl (Nat.le_of_ble_eq_true rfl) d_M_shownAhead_2 ⟨Nat.le_refl _, Nat.le_refl _⟩) X Y hA S (by decide) (by decide) (fun z101 u H locs Y S s101 p101 => ?_)
  obtain ⟨I101, J101, B101, G101⟩ := u
  dsimp only at Y S s101 p101
  obtain ⟨l101, u101, g101_P1, g101_P2, g101_TF⟩ := p101
  have f102 : rwO (16 * 0 + 3 : Int).toNat (B101 37) (B101 38) (B101 0) := (rwO_cg (s101.2.2 0 (by decide)) rfl rfl (rwO_T g101_TF (by decide) (by decide) f_R3))
  have f103 : rwA (16 * 1 + 8 : Int).toNat (B101 37) (B101 38) (B101 0) := (rwA_cg (s101.2.2 0 (by decide)) rfl rfl (rwA_T g101_TF (by decide) (by decide) f_R24))
  refine z_if_ne (tgt := 52) X.1 X.2.1 d_M_shownAhead_5 (by decide) ⟨by omega, by omega⟩ (fun h104 => ?_) (fun h104 => ?_)
  · refine lv_aload_n X.1 X.2.1 d_M_shownAhead_52 rfl (lv_at hl 0 rfl) ?_
    obtain ⟨x105, y105, ex105, ey105, lx105, ly105, uy105, dy105⟩ := g101_P1
    refine r_get0 X Y (by decide) lk_inside (gf_inside _ _ _) rfl ex105 d_M_shownAhead_53 ?_
    refine lv_istore_n (lv' := [(1, .int (iI x105)), (0, .ref h)]) X.1 X.2.1 d_M_shownAhead_56 rfl hl (by decide) rfl (fun ls hl => ?_)
    refine lv_aload_n X.1 X.2.1 d_M_shownAhead_57 rfl (lv_at hl 1 rfl) ?_
    refine r_get0 X Y (by decide) lk_behind (gf_behind _ _ _) rfl ey105 d_M_shownAhead_58 ?_
    refine lv_istore_n (lv' := [(2, .int (iI y105)), (1, .int (iI x105)), (0, .ref h)]) X.1 X.2.1 d_M_shownAhead_61 rfl hl (by decide) rfl (fun ls hl => ?_)
    refine lv_aload_n X.1 X.2.1 d_M_shownAhead_62 rfl (lv_at hl 2 rfl) ?_
    refine m_ldcSW (i := 5) X (by decide) (by decide) d_M_shownAhead_63 ?_
    refine lv_iload_n X.1 X.2.1 d_M_shownAhead_66 rfl (lv_at hl 1 rfl) ?_
    refine lv_iload_n X.1 X.2.1 d_M_shownAhead_67 rfl (lv_at hl 0 rfl) ?_
    refine lv_bipush (v := iI 6) X.1 X.2.1 d_M_shownAhead_68 (by decide) ?_
    refine r_ni (m_run (As := [.ref ((D.2.1 5)), .int (iI x105), .int (iI y105), .int (iI 6)]) (rest := []) (n := 4) X Y hZ hA hml hl.1 (r_M_sequence_t l D E h q H.size I101 J101 B101 G101 5 (show 5 < nZ by decide) x105 (by omega) (by omega) y105 (by omega) (by omega) 6 (by omega) (by omega) S.1 5 (B101 0) rfl (isF (B101 0) 5) (by decide) (hisU (show rki 5 ≤ 5 by decide)) (show pG1 I101 from ⟨x105, y105, ex105, ey105, by omega, by omega, by omega, by omega⟩) g101_P2 (by omega) (by omega)) kl_M_sequence ks_M_sequence kx_M_sequence ki_M_sequence ini_M hd_M_sequence ⟨Nat.le_of_ble_eq_true rfl, Nat.le_of_ble_eq_true rfl⟩ rfl (Nat.le_of_ble_eq_true rfl) d_M_shownAhead_70 ⟨Nat.le_refl _, Nat.le_refl _⟩) X Y hA S (by decide) (by decide) (fun z106 u H locs Y S s106 p106 => ?_)
    obtain ⟨I106, J106, B106, G106⟩ := u
    dsimp only at Y S s106 p106
    obtain ⟨l106, u106, x106, st106, g106_P1, g106_P2⟩ := p106
    have g106_TF : thF [6] (B101 37) (B101 38) (B106 37) (B106 38) := thF_of st106.1
    have f107 : rwO (16 * 0 + 3 : Int).toNat (B106 37) (B106 38) (B106 0) := (rwO_cg (s106.2.2 0 (by decide)) rfl rfl (rwO_T g106_TF (by decide) (by decide) f102))
    have f108 : rwA (16 * 1 + 8 : Int).toNat (B106 37) (B106 38) (B106 0) := (rwA_cg (s106.2.2 0 (by decide)) rfl rfl (rwA_T g106_TF (by decide) (by decide) f103))
    refine z_if_ne (tgt := 79) X.1 X.2.1 d_M_shownAhead_73 (by decide) ⟨by omega, by omega⟩ (fun h109 => ?_) (fun h109 => ?_)
    · refine lv_aload_n X.1 X.2.1 d_M_shownAhead_79 rfl (lv_at hl 2 rfl) ?_
      refine lv_bipush (v := iI 6) X.1 X.2.1 d_M_shownAhead_80 (by decide) ?_
      refine lv_iconst (v := iI 0) X.1 X.2.1 d_M_shownAhead_82 (by decide) ?_
      refine r_nl (m_run (As := [.int (iI 6), .int (iI 0)]) (rest := []) (n := 2) X Y hZ hA hml hl.1 (r_M_numberAt l D E h q H.size I106 J106 B106 G106 6 (by omega) (by omega) 0 (by omega) (by omega) S.1 g106_P1 g106_P2) kl_M_numberAt ks_M_numberAt kx_M_numberAt ki_M_numberAt ini_M hd_M_numberAt ⟨Nat.le_of_ble_eq_true rfl, Nat.le_of_ble_eq_true rfl⟩ rfl (Nat.le_of_ble_eq_true rfl) d_M_shownAhead_83 ⟨Nat.le_refl _, Nat.le_refl _⟩) X Y hA S (by decide) (by decide) (fun v110 u H locs Y S s110 p110 => ?_)
      obtain ⟨I110, J110, B110, G110⟩ := u
      dsimp only at Y S s110 p110
      have b110 : B106 = B110 := (funext (fun j => s110.2.2 j (by simp))).symm
      subst b110
      have g110_P1 := p110
      refine lv_lstore_n (lv' := [(3, .long v110), (2, .int (iI y105)), (1, .int (iI x105)), (0, .ref h)]) X.1 X.2.1 d_M_shownAhead_86 rfl hl (by decide) rfl (fun ls hl => ?_)
      refine lv_lload_n X.1 X.2.1 d_M_shownAhead_87 rfl (lv_at hl 0 rfl) ?_
      refine lv_ldc2 (v := (17)) X.1 X.2.1 X.2.2.2.1 (X.2.2.1 _ cl_M_697) d_M_shownAhead_88 ?_
      refine z_lcmp X.1 X.2.1 d_M_shownAhead_91 (fun z111 l111 u111 x111 y111 => ?_)
      have c111 : ((17) : Int64).toInt = (17) := by decide
      refine z_if_eq (tgt := 106) X.1 X.2.1 d_M_shownAhead_92 (by decide) ⟨by omega, by omega⟩ (fun h112 => ?_) (fun h112 => ?_)
      · refine lv_aload_n X.1 X.2.1 d_M_shownAhead_106 rfl (lv_at hl 3 rfl) ?_
        refine lv_aload_n X.1 X.2.1 d_M_shownAhead_107 rfl (lv_at hl 3 rfl) ?_
        refine r_get0 X Y (by decide) lk_client (gf_client _ _ _) rfl ((s110.2.1 75 (by decide)).trans ((s106.2.1 75 (by decide)).trans ((s101.2.1 75 (by decide)).trans gcl))) d_M_shownAhead_108 ?_
        refine lv_aload_n X.1 X.2.1 d_M_shownAhead_111 rfl (lv_at hl 3 rfl) ?_
        refine m_get X Y 46 (by decide) lk_versions (gf_versions _ _ _) rfl d_M_shownAhead_112 ?_
        refine lv_aload_n X.1 X.2.1 d_M_shownAhead_115 rfl (lv_at hl 3 rfl) ?_
        refine r_get0 X Y (by decide) lk_client (gf_client _ _ _) rfl ((s110.2.1 75 (by decide)).trans ((s106.2.1 75 (by decide)).trans ((s101.2.1 75 (by decide)).trans gcl))) d_M_shownAhead_116 ?_
        refine r_iald X Y S (aw_versions _ _ _ _ _ _ _) rfl (by omega) (show cl < ((12 : Nat) : Int) by omega) (by omega) d_M_shownAhead_119 (fun z113 q113 l113 u113 => ?_)
        refine lv_lload_n X.1 X.2.1 d_M_shownAhead_120 rfl (lv_at hl 0 rfl) ?_
        refine z_l2i X.1 X.2.1 d_M_shownAhead_121 (fun z114 l114 u114 x114 => ?_)
        refine lv_aload_n X.1 X.2.1 d_M_shownAhead_122 rfl (lv_at hl 3 rfl) ?_
        refine m_get X Y 58 (by decide) lk_key (gf_key _ _ _) rfl d_M_shownAhead_123 ?_
        refine r_nv (m_run (As := [.int (iI cl), .int (iI z113), .int (iI z114), .ref ((q 58))]) (rest := []) (n := 4) X Y hZ hA hml hl.1 (r_M_keyOf_key l D E h q H.size I110 J110 B106 G110 cl (by omega) (by omega) z113 (by omega) (by omega) z114 (by omega) (by omega) S.1) kl_M_keyOf ks_M_keyOf kx_M_keyOf ki_M_keyOf ini_M hd_M_keyOf ⟨Nat.le_of_ble_eq_true rfl, Nat.le_of_ble_eq_true rfl⟩ rfl (Nat.le_of_ble_eq_true rfl) d_M_shownAhead_126 ⟨Nat.le_refl _, Nat.le_refl _⟩) X Y hA S (by decide) (by decide) (fun u H locs Y S s115 p115 => ?_)
        obtain ⟨I115, J115, B115, G115⟩ := u
        dsimp only at Y S s115 p115
        have i115 : I110 = I115 := (funext (fun j => s115.2.1 j (by simp))).symm
        subst i115
        refine lv_aload_n X.1 X.2.1 d_M_shownAhead_129 rfl (lv_at hl 3 rfl) ?_
        refine lv_aload_n X.1 X.2.1 d_M_shownAhead_130 rfl (lv_at hl 3 rfl) ?_
        refine lv_bipush (v := iI 6) X.1 X.2.1 d_M_shownAhead_131 (by decide) ?_
        refine lv_iconst (v := iI 2) X.1 X.2.1 d_M_shownAhead_133 (by decide) ?_
        refine r_ni (m_run (As := [.int (iI 6), .int (iI 2)]) (rest := [.ref h]) (n := 2) X Y hZ hA hml hl.1 (r_M_a l D E h q H.size I110 J115 B115 G115 6 (by omega) (by omega) 2 (by omega) (by omega) S.1) kl_M_a ks_M_a kx_M_a ki_M_a ini_M hd_M_a ⟨Nat.le_of_ble_eq_true rfl, Nat.le_of_ble_eq_true rfl⟩ rfl (Nat.le_of_ble_eq_true rfl) d_M_shownAhead_134 ⟨Nat.le_refl _, Nat.le_refl _⟩) X Y hA S (by decide) (by decide) (fun z116 u H locs Y S s116 p116 => ?_)
        obtain ⟨I116, J116, B116, G116⟩ := u
        dsimp only at Y S s116 p116
        have i116 : I110 = I116 := (funext (fun j => s116.2.1 j (by simp))).symm
        subst i116
        have b116 : B115 = B116 := (funext (fun j => s116.2.2 j (by simp))).symm
        subst b116
        obtain ⟨l116, u116, x116⟩ := p116
        refine lv_aload_n X.1 X.2.1 d_M_shownAhead_137 rfl (lv_at hl 3 rfl) ?_
        refine lv_bipush (v := iI 6) X.1 X.2.1 d_M_shownAhead_138 (by decide) ?_
        refine lv_iconst (v := iI 2) X.1 X.2.1 d_M_shownAhead_140 (by decide) ?_
        refine r_ni (m_run (As := [.int (iI 6), .int (iI 2)]) (rest := [.int (iI z116), .ref h]) (n := 2) X Y hZ hA hml hl.1 (r_M_b l D E h q H.size I110 J116 B115 G116 6 (by omega) (by omega) 2 (by omega) (by omega) S.1) kl_M_b ks_M_b kx_M_b ki_M_b ini_M hd_M_b ⟨Nat.le_of_ble_eq_true rfl, Nat.le_of_ble_eq_true rfl⟩ rfl (Nat.le_of_ble_eq_true rfl) d_M_shownAhead_141 ⟨Nat.le_refl _, Nat.le_refl _⟩) X Y hA S (by decide) (by decide) (fun z117 u H locs Y S s117 p117 => ?_)
        obtain ⟨I117, J117, B117, G117⟩ := u
        dsimp only at Y S s117 p117
        have i117 : I110 = I117 := (funext (fun j => s117.2.1 j (by simp))).symm
        subst i117
        have b117 : B115 = B117 := (funext (fun j => s117.2.2 j (by simp))).symm
        subst b117
        obtain ⟨l117, u117, x117⟩ := p117
        have p118 : pr z116 z117 := by rw [x116, x117]; exact (pG2_cg rfl rfl (pG2_cg rfl rfl (pG2_cg (s115.2.2 37 (by decide)) (s115.2.2 38 (by decide)) (pG2_cg rfl rfl g106_P2)))) (16 * 6 + 2 : Int).toNat (by omega)
        unfold pr at p118
        refine lv_iconst (v := iI 4) X.1 X.2.1 d_M_shownAhead_144 (by decide) ?_
        refine r_ni (m_run (As := [.int (iI z116), .int (iI z117), .int (iI 4)]) (rest := []) (n := 3) X Y hZ hA hml hl.1 (r_M_element l D E h q H.size I110 J117 B115 G117 z116 (by omega) (by omega) z117 (by omega) (by omega) 4 (by omega) (by omega) S.1 (B115 0) rfl (pG1_cg rfl rfl (pG1_cg rfl rfl (pG1_cg rfl rfl g110_P1))) (by omega) (by omega)) kl_M_element ks_M_element kx_M_element ki_M_element ini_M hd_M_element ⟨Nat.le_of_ble_eq_true rfl, Nat.le_of_ble_eq_true rfl⟩ rfl (Nat.le_of_ble_eq_true rfl) d_M_shownAhead_145 ⟨Nat.le_refl _, Nat.le_refl _⟩) X Y hA S (by decide) (by decide) (fun z119 u H locs Y S s119 p119 => ?_)
        obtain ⟨I119, J119, B119, G119⟩ := u
        dsimp only at Y S s119 p119
        have b119 : B115 = B119 := (funext (fun j => s119.2.2 j (by simp))).symm
        subst b119
        have f120 : hD I119 := (hD_cg (s119.2.1 68 (by decide)) (s119.2.1 70 (by decide)) (hD_cg rfl rfl (hD_cg rfl rfl (hD_cg rfl rfl (hD_cg (s110.2.1 68 (by decide)) (s110.2.1 70 (by decide)) (hD_cg (s106.2.1 68 (by decide)) (s106.2.1 70 (by decide)) (hD_cg (s101.2.1 68 (by decide)) (s101.2.1 70 (by decide)) f_HD)))))))
        obtain ⟨l119, u119, x119, st119⟩ := p119
        obtain ⟨x121, y121, ex121, ey121, lx121, ly121, uy121, dy121, iy121, ky121⟩ := st119
        refine lv_pop X.1 X.2.1 d_M_shownAhead_148 rfl ?_
        refine lv_aload_n X.1 X.2.1 d_M_shownAhead_149 rfl (lv_at hl 3 rfl) ?_
        refine lv_aload_n X.1 X.2.1 d_M_shownAhead_150 rfl (lv_at hl 3 rfl) ?_
        refine m_get X Y 58 (by decide) lk_key (gf_key _ _ _) rfl d_M_shownAhead_151 ?_
        refine lv_lload_n X.1 X.2.1 d_M_shownAhead_154 rfl (lv_at hl 0 rfl) ?_
        refine z_l2i X.1 X.2.1 d_M_shownAhead_155 (fun z122 l122 u122 x122 => ?_)
        refine lv_iconst (v := iI 1) X.1 X.2.1 d_M_shownAhead_156 (by decide) ?_
        refine lv_aload_n X.1 X.2.1 d_M_shownAhead_157 rfl (lv_at hl 3 rfl) ?_
        refine r_get0 X Y (by decide) lk_inside (gf_inside _ _ _) rfl ex121 d_M_shownAhead_158 ?_
        refine lv_aload_n X.1 X.2.1 d_M_shownAhead_161 rfl (lv_at hl 3 rfl) ?_
        refine r_get0 X Y (by decide) lk_behind (gf_behind _ _ _) rfl ey121 d_M_shownAhead_162 ?_
        refine lv_sipush (v := iI 4200) X.1 X.2.1 d_M_shownAhead_165 (by decide) ?_
        refine r_ni (m_run (As := [.ref ((q 58)), .int (iI z122), .int (iI 1), .int (iI x121), .int (iI y121), .int (iI 4200)]) (rest := []) (n := 6) X Y hZ hA hml hl.1 (r_M_open_key l D E h q H.size I119 J119 B115 G119 z122 (by omega) (by omega) 1 (by omega) (by omega) x121 (by omega) (by omega) y121 (by omega) (by omega) 4200 (by omega) (by omega) S.1 (by omega) (by omega)) kl_M_open ks_M_open kx_M_open ki_M_open ini_M hd_M_open ⟨Nat.le_of_ble_eq_true rfl, Nat.le_of_ble_eq_true rfl⟩ rfl (Nat.le_of_ble_eq_true rfl) d_M_shownAhead_168 ⟨Nat.le_refl _, Nat.le_refl _⟩) X Y hA S (by decide) (by decide) (fun z123 u H locs Y S s123 p123 => ?_)
        obtain ⟨I123, J123, B123, G123⟩ := u
        dsimp only at Y S s123 p123
        have f124 : thF [6, 8, 10] (B 37) (B 38) (B123 37) (B123 38) := (thF_cg (s123.2.2 37 (by decide)) (s123.2.2 38 (by decide)) (thF_cg rfl rfl (thF_cg rfl rfl (thF_cg rfl rfl (thF_cg (s115.2.2 37 (by decide)) (s115.2.2 38 (by decide)) (thF_cg rfl rfl (thF_tr (thF_tr thF_rf g101_TF (by decide)) g106_TF (by decide))))))))
        obtain ⟨l123, u123, x123, g123_MF⟩ := p123
        have f125 : rwO (16 * 0 + 3 : Int).toNat (B123 37) (B123 38) (B123 0) := (rwO_cg rfl (s123.2.2 37 (by decide)) (s123.2.2 38 (by decide)) (rwO_M g123_MF (by decide) (rwO_cg rfl rfl rfl (rwO_cg rfl rfl rfl (rwO_cg rfl rfl rfl (rwO_cg (s115.2.2 0 (by decide)) (s115.2.2 37 (by decide)) (s115.2.2 38 (by decide)) (rwO_cg rfl rfl rfl f107)))))))
        have f126 : rwA (16 * 1 + 8 : Int).toNat (B123 37) (B123 38) (B123 0) := (rwA_cg rfl (s123.2.2 37 (by decide)) (s123.2.2 38 (by decide)) (rwA_M g123_MF (by decide) (rwA_cg rfl rfl rfl (rwA_cg rfl rfl rfl (rwA_cg rfl rfl rfl (rwA_cg (s115.2.2 0 (by decide)) (s115.2.2 37 (by decide)) (s115.2.2 38 (by decide)) (rwA_cg rfl rfl rfl f108)))))))
        refine lv_istore (lv' := [(5, .int (iI z123)), (3, .long v110), (2, .int (iI y105)), (1, .int (iI x105)), (0, .ref h)]) X.1 X.2.1 d_M_shownAhead_171 hl (by decide) rfl (fun ls hl => ?_)
        refine lv_iload X.1 X.2.1 d_M_shownAhead_173 (lv_at hl 0 rfl) ?_
        refine z_if_lt (tgt := 199) X.1 X.2.1 d_M_shownAhead_175 (by decide) ⟨by omega, by omega⟩ (fun h127 => ?_) (fun h127 => ?_)
        · refine lv_bipush (v := iI 24) X.1 X.2.1 d_M_shownAhead_199 (by decide) ?_
          exact m_reti hQQ X Y hr hlk ⟨S, 24, rfl, ⟨by omega, by omega, (pG1_cg (s123.2.1 39 (by decide)) (s123.2.1 40 (by decide)) (show pG1 I119 from ⟨x121, y121, ex121, ey121, by omega, by omega, by omega, by omega⟩)), (pG2_cg (s123.2.2 37 (by decide)) (s123.2.2 38 (by decide)) (pG2_cg rfl rfl (pG2_cg rfl rfl (pG2_cg rfl rfl (pG2_cg (s115.2.2 37 (by decide)) (s115.2.2 38 (by decide)) (pG2_cg rfl rfl g106_P2)))))), (hD_cg (s123.2.1 68 (by decide)) (s123.2.1 70 (by decide)) f120), f124, (mmF_tr (mmF_cg rfl (mmF_cg rfl (mmF_cg rfl (mmF_cg (s115.2.2 0 (by decide)) (mmF_cg rfl (mmF_cg (s106.2.2 0 (by decide)) (mmF_cg (s101.2.2 0 (by decide)) mmF_rf))))))) g123_MF (by decide))⟩⟩ d_M_shownAhead_201
        · refine lv_aload_n X.1 X.2.1 d_M_shownAhead_178 rfl (lv_at hl 4 rfl) ?_
          refine m_ldcSW (i := 13) X (by decide) (by decide) d_M_shownAhead_179 ?_
          refine lv_sipush (v := iI 4200) X.1 X.2.1 d_M_shownAhead_182 (by decide) ?_
          refine lv_sipush (v := iI 4200) X.1 X.2.1 d_M_shownAhead_185 (by decide) ?_
          refine lv_iload X.1 X.2.1 d_M_shownAhead_188 (lv_at hl 0 rfl) ?_
          refine z_iadd X.1 X.2.1 d_M_shownAhead_190 ?_
          refine lv_bipush (v := iI 8) X.1 X.2.1 d_M_shownAhead_191 (by decide) ?_
          refine r_ni (m_run (As := [.ref ((D.2.1 13)), .int (iI 4200), .int (iI (4200 + z123)), .int (iI 8)]) (rest := []) (n := 4) X Y hZ hA hml hl.1 (r_M_sequence_t l D E h q H.size I123 J123 B123 G123 13 (show 13 < nZ by decide) 4200 (by omega) (by omega) (4200 + z123) (by omega) (by omega) 8 (by omega) (by omega) S.1 5 (B123 0) rfl (isF (B123 0) 5) (by decide) (hisU (show rki 13 ≤ 5 by decide)) (pG1_cg (s123.2.1 39 (by decide)) (s123.2.1 40 (by decide)) (show pG1 I119 from ⟨x121, y121, ex121, ey121, by omega, by omega, by omega, by omega⟩)) (pG2_cg (s123.2.2 37 (by decide)) (s123.2.2 38 (by decide)) (pG2_cg rfl rfl (pG2_cg rfl rfl (pG2_cg rfl rfl (pG2_cg (s115.2.2 37 (by decide)) (s115.2.2 38 (by decide)) (pG2_cg rfl rfl g106_P2)))))) (by omega) (by omega)) kl_M_sequence ks_M_sequence kx_M_sequence ki_M_sequence ini_M hd_M_sequence ⟨Nat.le_of_ble_eq_true rfl, Nat.le_of_ble_eq_true rfl⟩ rfl (Nat.le_of_ble_eq_true rfl) d_M_shownAhead_193 ⟨Nat.le_refl _, Nat.le_refl _⟩) X Y hA S (by decide) (by decide) (fun z128 u H locs Y S s128 p128 => ?_)
          obtain ⟨I128, J128, B128, G128⟩ := u
          dsimp only at Y S s128 p128
          obtain ⟨l128, u128, x128, st128, g128_P1, g128_P2⟩ := p128
          have g128_TF : thF [8] (B123 37) (B123 38) (B128 37) (B128 38) := thF_of st128.1
          have f129 : rwO (16 * 0 + 3 : Int).toNat (B128 37) (B128 38) (B128 0) := (rwO_cg (s128.2.2 0 (by decide)) rfl rfl (rwO_T g128_TF (by decide) (by decide) f125))
          have f130 : rwA (16 * 1 + 8 : Int).toNat (B128 37) (B128 38) (B128 0) := (rwA_cg (s128.2.2 0 (by decide)) rfl rfl (rwA_T g128_TF (by decide) (by decide) f126))
          refine z_if_ne (tgt := 202) X.1 X.2.1 d_M_shownAhead_196 (by decide) ⟨by omega, by omega⟩ (fun h131 => ?_) (fun h131 => ?_)
          · refine lv_aload_n X.1 X.2.1 d_M_shownAhead_202 rfl (lv_at hl 4 rfl) ?_
            refine lv_aload_n X.1 X.2.1 d_M_shownAhead_203 rfl (lv_at hl 4 rfl) ?_
            refine lv_bipush (v := iI 8) X.1 X.2.1 d_M_shownAhead_204 (by decide) ?_
            refine lv_iconst (v := iI 0) X.1 X.2.1 d_M_shownAhead_206 (by decide) ?_
            refine r_nl (m_run (As := [.int (iI 8), .int (iI 0)]) (rest := [.ref h]) (n := 2) X Y hZ hA hml hl.1 (r_M_timeOf l D E h q H.size I128 J128 B128 G128 8 (by omega) (by omega) 0 (by omega) (by omega) S.1 g128_P1 g128_P2) kl_M_timeOf ks_M_timeOf kx_M_timeOf ki_M_timeOf ini_M hd_M_timeOf ⟨Nat.le_of_ble_eq_true rfl, Nat.le_of_ble_eq_true rfl⟩ rfl (Nat.le_of_ble_eq_true rfl) d_M_shownAhead_207 ⟨Nat.le_refl _, Nat.le_refl _⟩) X Y hA S (by decide) (by decide) (fun v132 u H locs Y S s132 p132 => ?_)
            obtain ⟨I132, J132, B132, G132⟩ := u
            dsimp only at Y S s132 p132
            have b132 : B128 = B132 := (funext (fun j => s132.2.2 j (by simp))).symm
            subst b132
            have g132_P1 := p132
            refine lv_aload_n X.1 X.2.1 d_M_shownAhead_210 rfl (lv_at hl 4 rfl) ?_
            refine r_geti (k := 4) X Y S (by decide) lk_now (gf_now _ _ _) rfl rfl d_M_shownAhead_211 (fun z133 e133 l133 u133 => ?_)
            refine z_i2lx X.1 X.2.1 ⟨by omega, by omega⟩ d_M_shownAhead_214 (fun v134 tv134 => ?_)
            refine r_ni (m_run (As := [.long v132, .long v134]) (rest := []) (n := 2) X Y hZ hA hml hl.1 (r_M_isFar l D E h q H.size I132 J132 B128 G132 v132 v134 S.1) kl_M_isFar ks_M_isFar kx_M_isFar ki_M_isFar ini_M hd_M_isFar ⟨Nat.le_of_ble_eq_true rfl, Nat.le_of_ble_eq_true rfl⟩ rfl (Nat.le_of_ble_eq_true rfl) d_M_shownAhead_215 ⟨Nat.le_refl _, Nat.le_refl _⟩) X Y hA S (by decide) (by decide) (fun z135 u H locs Y S s135 p135 => ?_)
            obtain ⟨I135, J135, B135, G135⟩ := u
            dsimp only at Y S s135 p135
            have i135 : I132 = I135 := (funext (fun j => s135.2.1 j (by simp))).symm
            subst i135
            have b135 : B128 = B135 := (funext (fun j => s135.2.2 j (by simp))).symm
            subst b135
            obtain ⟨l135, u135⟩ := p135
            refine z_if_eq (tgt := 226) X.1 X.2.1 d_M_shownAhead_218 (by decide) ⟨by omega, by omega⟩ (fun h136 => ?_) (fun h136 => ?_)
            · refine lv_iconst (v := iI 0) X.1 X.2.1 d_M_shownAhead_226 (by decide) ?_
              exact m_reti hQQ X Y hr hlk ⟨S, 0, rfl, ⟨by omega, by omega, (pG1_cg rfl rfl g132_P1), (pG2_cg rfl rfl (pG2_cg rfl rfl g128_P2)), (hD_cg rfl rfl (hD_cg (s132.2.1 68 (by decide)) (s132.2.1 70 (by decide)) (hD_cg (s128.2.1 68 (by decide)) (s128.2.1 70 (by decide)) (hD_cg (s123.2.1 68 (by decide)) (s123.2.1 70 (by decide)) f120)))), (thF_cg rfl rfl (thF_cg rfl rfl (thF_tr f124 g128_TF (by decide)))), (mmF_cg rfl (mmF_cg rfl (mmF_cg (s128.2.2 0 (by decide)) (mmF_tr (mmF_cg rfl (mmF_cg rfl (mmF_cg rfl (mmF_cg (s115.2.2 0 (by decide)) (mmF_cg rfl (mmF_cg (s106.2.2 0 (by decide)) (mmF_cg (s101.2.2 0 (by decide)) mmF_rf))))))) g123_MF (by decide)))))⟩⟩ d_M_shownAhead_227
            · refine lv_bipush (v := iI 37) X.1 X.2.1 d_M_shownAhead_221 (by decide) ?_
              refine lv_goto (tgt := 227) X.1 X.2.1 d_M_shownAhead_223 (by decide) ?_
              exact m_reti hQQ X Y hr hlk ⟨S, 37, rfl, ⟨by omega, by omega, (pG1_cg rfl rfl g132_P1), (pG2_cg rfl rfl (pG2_cg rfl rfl g128_P2)), (hD_cg rfl rfl (hD_cg (s132.2.1 68 (by decide)) (s132.2.1 70 (by decide)) (hD_cg (s128.2.1 68 (by decide)) (s128.2.1 70 (by decide)) (hD_cg (s123.2.1 68 (by decide)) (s123.2.1 70 (by decide)) f120)))), (thF_cg rfl rfl (thF_cg rfl rfl (thF_tr f124 g128_TF (by decide)))), (mmF_cg rfl (mmF_cg rfl (mmF_cg (s128.2.2 0 (by decide)) (mmF_tr (mmF_cg rfl (mmF_cg rfl (mmF_cg rfl (mmF_cg (s115.2.2 0 (by decide)) (mmF_cg rfl (mmF_cg (s106.2.2 0 (by decide)) (mmF_cg (s101.2.2 0 (by decide)) mmF_rf))))))) g123_MF (by decide)))))⟩⟩ d_M_shownAhead_227
          · refine lv_bipush (v := iI 24) X.1 X.2.1 d_M_shownAhead_199 (by decide) ?_
            exact m_reti hQQ X Y hr hlk ⟨S, 24, rfl, ⟨by omega, by omega, g128_P1, g128_P2, (hD_cg (s128.2.1 68 (by decide)) (s128.2.1 70 (by decide)) (hD_cg (s123.2.1 68 (by decide)) (s123.2.1 70 (by decide)) f120)), (thF_tr f124 g128_TF (by decide)), (mmF_cg (s128.2.2 0 (by decide)) (mmF_tr (mmF_cg rfl (mmF_cg rfl (mmF_cg rfl (mmF_cg (s115.2.2 0 (by decide)) (mmF_cg rfl (mmF_cg (s106.2.2 0 (by decide)) (mmF_cg (s101.2.2 0 (by decide)) mmF_rf))))))) g123_MF (by decide)))⟩⟩ d_M_shownAhead_201
      · refine lv_lload_n X.1 X.2.1 d_M_shownAhead_95 rfl (lv_at hl 0 rfl) ?_
        refine lv_ldc2 (v := (18)) X.1 X.2.1 X.2.2.2.1 (X.2.2.1 _ cl_M_699) d_M_shownAhead_96 ?_
        refine z_lcmp X.1 X.2.1 d_M_shownAhead_99 (fun z137 l137 u137 x137 y137 => ?_)
        have c137 : ((18) : Int64).toInt = (18) := by decide
        refine z_if_eq (tgt := 106) X.1 X.2.1 d_M_shownAhead_100 (by decide) ⟨by omega, by omega⟩ (fun h138 => ?_) (fun h138 => ?_)
        · refine lv_aload_n X.1 X.2.1 d_M_shownAhead_106 rfl (lv_at hl 3 rfl) ?_
          refine lv_aload_n X.1 X.2.1 d_M_shownAhead_107 rfl (lv_at hl 3 rfl) ?_
          refine r_get0 X Y (by decide) lk_client (gf_client _ _ _) rfl ((s110.2.1 75 (by decide)).trans ((s106.2.1 75 (by decide)).trans ((s101.2.1 75 (by decide)).trans gcl))) d_M_shownAhead_108 ?_
          refine lv_aload_n X.1 X.2.1 d_M_shownAhead_111 rfl (lv_at hl 3 rfl) ?_
          refine m_get X Y 46 (by decide) lk_versions (gf_versions _ _ _) rfl d_M_shownAhead_112 ?_
          refine lv_aload_n X.1 X.2.1 d_M_shownAhead_115 rfl (lv_at hl 3 rfl) ?_
          refine r_get0 X Y (by decide) lk_client (gf_client _ _ _) rfl ((s110.2.1 75 (by decide)).trans ((s106.2.1 75 (by decide)).trans ((s101.2.1 75 (by decide)).trans gcl))) d_M_shownAhead_116 ?_
          refine r_iald X Y S (aw_versions _ _ _ _ _ _ _) rfl (by omega) (show cl < ((12 : Nat) : Int) by omega) (by omega) d_M_shownAhead_119 (fun z139 q139 l139 u139 => ?_)
          refine lv_lload_n X.1 X.2.1 d_M_shownAhead_120 rfl (lv_at hl 0 rfl) ?_
          refine z_l2i X.1 X.2.1 d_M_shownAhead_121 (fun z140 l140 u140 x140 => ?_)
          refine lv_aload_n X.1 X.2.1 d_M_shownAhead_122 rfl (lv_at hl 3 rfl) ?_
          refine m_get X Y 58 (by decide) lk_key (gf_key _ _ _) rfl d_M_shownAhead_123 ?_
          refine r_nv (m_run (As := [.int (iI cl), .int (iI z139), .int (iI z140), .ref ((q 58))]) (rest := []) (n := 4) X Y hZ hA hml hl.1 (r_M_keyOf_key l D E h q H.size I110 J110 B106 G110 cl (by omega) (by omega) z139 (by omega) (by omega) z140 (by omega) (by omega) S.1) kl_M_keyOf ks_M_keyOf kx_M_keyOf ki_M_keyOf ini_M hd_M_keyOf ⟨Nat.le_of_ble_eq_true rfl, Nat.le_of_ble_eq_true rfl⟩ rfl (Nat.le_of_ble_eq_true rfl) d_M_shownAhead_126 ⟨Nat.le_refl _, Nat.le_refl _⟩) X Y hA S (by decide) (by decide) (fun u H locs Y S s141 p141 => ?_)
          obtain ⟨I141, J141, B141, G141⟩ := u
          dsimp only at Y S s141 p141
          have i141 : I110 = I141 := (funext (fun j => s141.2.1 j (by simp))).symm
          subst i141
          refine lv_aload_n X.1 X.2.1 d_M_shownAhead_129 rfl (lv_at hl 3 rfl) ?_
          refine lv_aload_n X.1 X.2.1 d_M_shownAhead_130 rfl (lv_at hl 3 rfl) ?_
          refine lv_bipush (v := iI 6) X.1 X.2.1 d_M_shownAhead_131 (by decide) ?_
          refine lv_iconst (v := iI 2) X.1 X.2.1 d_M_shownAhead_133 (by decide) ?_
          refine r_ni (m_run (As := [.int (iI 6), .int (iI 2)]) (rest := [.ref h]) (n := 2) X Y hZ hA hml hl.1 (r_M_a l D E h q H.size I110 J141 B141 G141 6 (by omega) (by omega) 2 (by omega) (by omega) S.1) kl_M_a ks_M_a kx_M_a ki_M_a ini_M hd_M_a ⟨Nat.le_of_ble_eq_true rfl, Nat.le_of_ble_eq_true rfl⟩ rfl (Nat.le_of_ble_eq_true rfl) d_M_shownAhead_134 ⟨Nat.le_refl _, Nat.le_refl _⟩) X Y hA S (by decide) (by decide) (fun z142 u H locs Y S s142 p142 => ?_)
          obtain ⟨I142, J142, B142, G142⟩ := u
          dsimp only at Y S s142 p142
          have i142 : I110 = I142 := (funext (fun j => s142.2.1 j (by simp))).symm
          subst i142
          have b142 : B141 = B142 := (funext (fun j => s142.2.2 j (by simp))).symm
          subst b142
          obtain ⟨l142, u142, x142⟩ := p142
          refine lv_aload_n X.1 X.2.1 d_M_shownAhead_137 rfl (lv_at hl 3 rfl) ?_
          refine lv_bipush (v := iI 6) X.1 X.2.1 d_M_shownAhead_138 (by decide) ?_
          refine lv_iconst (v := iI 2) X.1 X.2.1 d_M_shownAhead_140 (by decide) ?_
          refine r_ni (m_run (As := [.int (iI 6), .int (iI 2)]) (rest := [.int (iI z142), .ref h]) (n := 2) X Y hZ hA hml hl.1 (r_M_b l D E h q H.size I110 J142 B141 G142 6 (by omega) (by omega) 2 (by omega) (by omega) S.1) kl_M_b ks_M_b kx_M_b ki_M_b ini_M hd_M_b ⟨Nat.le_of_ble_eq_true rfl, Nat.le_of_ble_eq_true rfl⟩ rfl (Nat.le_of_ble_eq_true rfl) d_M_shownAhead_141 ⟨Nat.le_refl _, Nat.le_refl _⟩) X Y hA S (by decide) (by decide) (fun z143 u H locs Y S s143 p143 => ?_)
          obtain ⟨I143, J143, B143, G143⟩ := u
          dsimp only at Y S s143 p143
          have i143 : I110 = I143 := (funext (fun j => s143.2.1 j (by simp))).symm
          subst i143
          have b143 : B141 = B143 := (funext (fun j => s143.2.2 j (by simp))).symm
          subst b143
          obtain ⟨l143, u143, x143⟩ := p143
          have p144 : pr z142 z143 := by rw [x142, x143]; exact (pG2_cg rfl rfl (pG2_cg rfl rfl (pG2_cg (s141.2.2 37 (by decide)) (s141.2.2 38 (by decide)) (pG2_cg rfl rfl g106_P2)))) (16 * 6 + 2 : Int).toNat (by omega)
          unfold pr at p144
          refine lv_iconst (v := iI 4) X.1 X.2.1 d_M_shownAhead_144 (by decide) ?_
          refine r_ni (m_run (As := [.int (iI z142), .int (iI z143), .int (iI 4)]) (rest := []) (n := 3) X Y hZ hA hml hl.1 (r_M_element l D E h q H.size I110 J143 B141 G143 z142 (by omega) (by omega) z143 (by omega) (by omega) 4 (by omega) (by omega) S.1 (B141 0) rfl (pG1_cg rfl rfl (pG1_cg rfl rfl (pG1_cg rfl rfl g110_P1))) (by omega) (by omega)) kl_M_element ks_M_element kx_M_element ki_M_element ini_M hd_M_element ⟨Nat.le_of_ble_eq_true rfl, Nat.le_of_ble_eq_true rfl⟩ rfl (Nat.le_of_ble_eq_true rfl) d_M_shownAhead_145 ⟨Nat.le_refl _, Nat.le_refl _⟩) X Y hA S (by decide) (by decide) (fun z145 u H locs Y S s145 p145 => ?_)
          obtain ⟨I145, J145, B145, G145⟩ := u
          dsimp only at Y S s145 p145
          have b145 : B141 = B145 := (funext (fun j => s145.2.2 j (by simp))).symm
          subst b145
          have f146 : hD I145 := (hD_cg (s145.2.1 68 (by decide)) (s145.2.1 70 (by decide)) (hD_cg rfl rfl (hD_cg rfl rfl (hD_cg rfl rfl (hD_cg (s110.2.1 68 (by decide)) (s110.2.1 70 (by decide)) (hD_cg (s106.2.1 68 (by decide)) (s106.2.1 70 (by decide)) (hD_cg (s101.2.1 68 (by decide)) (s101.2.1 70 (by decide)) f_HD)))))))
          obtain ⟨l145, u145, x145, st145⟩ := p145
          obtain ⟨x147, y147, ex147, ey147, lx147, ly147, uy147, dy147, iy147, ky147⟩ := st145
          refine lv_pop X.1 X.2.1 d_M_shownAhead_148 rfl ?_
          refine lv_aload_n X.1 X.2.1 d_M_shownAhead_149 rfl (lv_at hl 3 rfl) ?_
          refine lv_aload_n X.1 X.2.1 d_M_shownAhead_150 rfl (lv_at hl 3 rfl) ?_
          refine m_get X Y 58 (by decide) lk_key (gf_key _ _ _) rfl d_M_shownAhead_151 ?_
          refine lv_lload_n X.1 X.2.1 d_M_shownAhead_154 rfl (lv_at hl 0 rfl) ?_
          refine z_l2i X.1 X.2.1 d_M_shownAhead_155 (fun z148 l148 u148 x148 => ?_)
          refine lv_iconst (v := iI 1) X.1 X.2.1 d_M_shownAhead_156 (by decide) ?_
          refine lv_aload_n X.1 X.2.1 d_M_shownAhead_157 rfl (lv_at hl 3 rfl) ?_
          refine r_get0 X Y (by decide) lk_inside (gf_inside _ _ _) rfl ex147 d_M_shownAhead_158 ?_
          refine lv_aload_n X.1 X.2.1 d_M_shownAhead_161 rfl (lv_at hl 3 rfl) ?_
          refine r_get0 X Y (by decide) lk_behind (gf_behind _ _ _) rfl ey147 d_M_shownAhead_162 ?_
          refine lv_sipush (v := iI 4200) X.1 X.2.1 d_M_shownAhead_165 (by decide) ?_
          refine r_ni (m_run (As := [.ref ((q 58)), .int (iI z148), .int (iI 1), .int (iI x147), .int (iI y147), .int (iI 4200)]) (rest := []) (n := 6) X Y hZ hA hml hl.1 (r_M_open_key l D E h q H.size I145 J145 B141 G145 z148 (by omega) (by omega) 1 (by omega) (by omega) x147 (by omega) (by omega) y147 (by omega) (by omega) 4200 (by omega) (by omega) S.1 (by omega) (by omega)) kl_M_open ks_M_open kx_M_open ki_M_open ini_M hd_M_open ⟨Nat.le_of_ble_eq_true rfl, Nat.le_of_ble_eq_true rfl⟩ rfl (Nat.le_of_ble_eq_true rfl) d_M_shownAhead_168 ⟨Nat.le_refl _, Nat.le_refl _⟩) X Y hA S (by decide) (by decide) (fun z149 u H locs Y S s149 p149 => ?_)
          obtain ⟨I149, J149, B149, G149⟩ := u
          dsimp only at Y S s149 p149
          have f150 : thF [6, 8, 10] (B 37) (B 38) (B149 37) (B149 38) := (thF_cg (s149.2.2 37 (by decide)) (s149.2.2 38 (by decide)) (thF_cg rfl rfl (thF_cg rfl rfl (thF_cg rfl rfl (thF_cg (s141.2.2 37 (by decide)) (s141.2.2 38 (by decide)) (thF_cg rfl rfl (thF_tr (thF_tr thF_rf g101_TF (by decide)) g106_TF (by decide))))))))
          obtain ⟨l149, u149, x149, g149_MF⟩ := p149
          have f151 : rwO (16 * 0 + 3 : Int).toNat (B149 37) (B149 38) (B149 0) := (rwO_cg rfl (s149.2.2 37 (by decide)) (s149.2.2 38 (by decide)) (rwO_M g149_MF (by decide) (rwO_cg rfl rfl rfl (rwO_cg rfl rfl rfl (rwO_cg rfl rfl rfl (rwO_cg (s141.2.2 0 (by decide)) (s141.2.2 37 (by decide)) (s141.2.2 38 (by decide)) (rwO_cg rfl rfl rfl f107)))))))
          have f152 : rwA (16 * 1 + 8 : Int).toNat (B149 37) (B149 38) (B149 0) := (rwA_cg rfl (s149.2.2 37 (by decide)) (s149.2.2 38 (by decide)) (rwA_M g149_MF (by decide) (rwA_cg rfl rfl rfl (rwA_cg rfl rfl rfl (rwA_cg rfl rfl rfl (rwA_cg (s141.2.2 0 (by decide)) (s141.2.2 37 (by decide)) (s141.2.2 38 (by decide)) (rwA_cg rfl rfl rfl f108)))))))
          refine lv_istore (lv' := [(5, .int (iI z149)), (3, .long v110), (2, .int (iI y105)), (1, .int (iI x105)), (0, .ref h)]) X.1 X.2.1 d_M_shownAhead_171 hl (by decide) rfl (fun ls hl => ?_)
          refine lv_iload X.1 X.2.1 d_M_shownAhead_173 (lv_at hl 0 rfl) ?_
          refine z_if_lt (tgt := 199) X.1 X.2.1 d_M_shownAhead_175 (by decide) ⟨by omega, by omega⟩ (fun h153 => ?_) (fun h153 => ?_)
          · refine lv_bipush (v := iI 24) X.1 X.2.1 d_M_shownAhead_199 (by decide) ?_
            exact m_reti hQQ X Y hr hlk ⟨S, 24, rfl, ⟨by omega, by omega, (pG1_cg (s149.2.1 39 (by decide)) (s149.2.1 40 (by decide)) (show pG1 I145 from ⟨x147, y147, ex147, ey147, by omega, by omega, by omega, by omega⟩)), (pG2_cg (s149.2.2 37 (by decide)) (s149.2.2 38 (by decide)) (pG2_cg rfl rfl (pG2_cg rfl rfl (pG2_cg rfl rfl (pG2_cg (s141.2.2 37 (by decide)) (s141.2.2 38 (by decide)) (pG2_cg rfl rfl g106_P2)))))), (hD_cg (s149.2.1 68 (by decide)) (s149.2.1 70 (by decide)) f146), f150, (mmF_tr (mmF_cg rfl (mmF_cg rfl (mmF_cg rfl (mmF_cg (s141.2.2 0 (by decide)) (mmF_cg rfl (mmF_cg (s106.2.2 0 (by decide)) (mmF_cg (s101.2.2 0 (by decide)) mmF_rf))))))) g149_MF (by decide))⟩⟩ d_M_shownAhead_201
          · refine lv_aload_n X.1 X.2.1 d_M_shownAhead_178 rfl (lv_at hl 4 rfl) ?_
            refine m_ldcSW (i := 13) X (by decide) (by decide) d_M_shownAhead_179 ?_
            refine lv_sipush (v := iI 4200) X.1 X.2.1 d_M_shownAhead_182 (by decide) ?_
            refine lv_sipush (v := iI 4200) X.1 X.2.1 d_M_shownAhead_185 (by decide) ?_
            refine lv_iload X.1 X.2.1 d_M_shownAhead_188 (lv_at hl 0 rfl) ?_
            refine z_iadd X.1 X.2.1 d_M_shownAhead_190 ?_
            refine lv_bipush (v := iI 8) X.1 X.2.1 d_M_shownAhead_191 (by decide) ?_
            refine r_ni (m_run (As := [.ref ((D.2.1 13)), .int (iI 4200), .int (iI (4200 + z149)), .int (iI 8)]) (rest := []) (n := 4) X Y hZ hA hml hl.1 (r_M_sequence_t l D E h q H.size I149 J149 B149 G149 13 (show 13 < nZ by decide) 4200 (by omega) (by omega) (4200 + z149) (by omega) (by omega) 8 (by omega) (by omega) S.1 5 (B149 0) rfl (isF (B149 0) 5) (by decide) (hisU (show rki 13 ≤ 5 by decide)) (pG1_cg (s149.2.1 39 (by decide)) (s149.2.1 40 (by decide)) (show pG1 I145 from ⟨x147, y147, ex147, ey147, by omega, by omega, by omega, by omega⟩)) (pG2_cg (s149.2.2 37 (by decide)) (s149.2.2 38 (by decide)) (pG2_cg rfl rfl (pG2_cg rfl rfl (pG2_cg rfl rfl (pG2_cg (s141.2.2 37 (by decide)) (s141.2.2 38 (by decide)) (pG2_cg rfl rfl g106_P2)))))) (by omega) (by omega)) kl_M_sequence ks_M_sequence kx_M_sequence ki_M_sequence ini_M hd_M_sequence ⟨Nat.le_of_ble_eq_true rfl, Nat.le_of_ble_eq_true rfl⟩ rfl (Nat.le_of_ble_eq_true rfl) d_M_shownAhead_193 ⟨Nat.le_refl _, Nat.le_refl _⟩) X Y hA S (by decide) (by decide) (fun z154 u H locs Y S s154 p154 => ?_)
            obtain ⟨I154, J154, B154, G154⟩ := u
            dsimp only at Y S s154 p154
            obtain ⟨l154, u154, x154, st154, g154_P1, g154_P2⟩ := p154
            have g154_TF : thF [8] (B149 37) (B149 38) (B154 37) (B154 38) := thF_of st154.1
            have f155 : rwO (16 * 0 + 3 : Int).toNat (B154 37) (B154 38) (B154 0) := (rwO_cg (s154.2.2 0 (by decide)) rfl rfl (rwO_T g154_TF (by decide) (by decide) f151))
            have f156 : rwA (16 * 1 + 8 : Int).toNat (B154 37) (B154 38) (B154 0) := (rwA_cg (s154.2.2 0 (by decide)) rfl rfl (rwA_T g154_TF (by decide) (by decide) f152))
            refine z_if_ne (tgt := 202) X.1 X.2.1 d_M_shownAhead_196 (by decide) ⟨by omega, by omega⟩ (fun h157 => ?_) (fun h157 => ?_)
            · refine lv_aload_n X.1 X.2.1 d_M_shownAhead_202 rfl (lv_at hl 4 rfl) ?_
              refine lv_aload_n X.1 X.2.1 d_M_shownAhead_203 rfl (lv_at hl 4 rfl) ?_
              refine lv_bipush (v := iI 8) X.1 X.2.1 d_M_shownAhead_204 (by decide) ?_
              refine lv_iconst (v := iI 0) X.1 X.2.1 d_M_shownAhead_206 (by decide) ?_
              refine r_nl (m_run (As := [.int (iI 8), .int (iI 0)]) (rest := [.ref h]) (n := 2) X Y hZ hA hml hl.1 (r_M_timeOf l D E h q H.size I154 J154 B154 G154 8 (by omega) (by omega) 0 (by omega) (by omega) S.1 g154_P1 g154_P2) kl_M_timeOf ks_M_timeOf kx_M_timeOf ki_M_timeOf ini_M hd_M_timeOf ⟨Nat.le_of_ble_eq_true rfl, Nat.le_of_ble_eq_true rfl⟩ rfl (Nat.le_of_ble_eq_true rfl) d_M_shownAhead_207 ⟨Nat.le_refl _, Nat.le_refl _⟩) X Y hA S (by decide) (by decide) (fun v158 u H locs Y S s158 p158 => ?_)
              obtain ⟨I158, J158, B158, G158⟩ := u
              dsimp only at Y S s158 p158
              have b158 : B154 = B158 := (funext (fun j => s158.2.2 j (by simp))).symm
              subst b158
              have g158_P1 := p158
              refine lv_aload_n X.1 X.2.1 d_M_shownAhead_210 rfl (lv_at hl 4 rfl) ?_
              refine r_geti (k := 4) X Y S (by decide) lk_now (gf_now _ _ _) rfl rfl d_M_shownAhead_211 (fun z159 e159 l159 u159 => ?_)
              refine z_i2lx X.1 X.2.1 ⟨by omega, by omega⟩ d_M_shownAhead_214 (fun v160 tv160 => ?_)
              refine r_ni (m_run (As := [.long v158, .long v160]) (rest := []) (n := 2) X Y hZ hA hml hl.1 (r_M_isFar l D E h q H.size I158 J158 B154 G158 v158 v160 S.1) kl_M_isFar ks_M_isFar kx_M_isFar ki_M_isFar ini_M hd_M_isFar ⟨Nat.le_of_ble_eq_true rfl, Nat.le_of_ble_eq_true rfl⟩ rfl (Nat.le_of_ble_eq_true rfl) d_M_shownAhead_215 ⟨Nat.le_refl _, Nat.le_refl _⟩) X Y hA S (by decide) (by decide) (fun z161 u H locs Y S s161 p161 => ?_)
              obtain ⟨I161, J161, B161, G161⟩ := u
              dsimp only at Y S s161 p161
              have i161 : I158 = I161 := (funext (fun j => s161.2.1 j (by simp))).symm
              subst i161
              have b161 : B154 = B161 := (funext (fun j => s161.2.2 j (by simp))).symm
              subst b161
              obtain ⟨l161, u161⟩ := p161
              refine z_if_eq (tgt := 226) X.1 X.2.1 d_M_shownAhead_218 (by decide) ⟨by omega, by omega⟩ (fun h162 => ?_) (fun h162 => ?_)
              · refine lv_iconst (v := iI 0) X.1 X.2.1 d_M_shownAhead_226 (by decide) ?_
                exact m_reti hQQ X Y hr hlk ⟨S, 0, rfl, ⟨by omega, by omega, (pG1_cg rfl rfl g158_P1), (pG2_cg rfl rfl (pG2_cg rfl rfl g154_P2)), (hD_cg rfl rfl (hD_cg (s158.2.1 68 (by decide)) (s158.2.1 70 (by decide)) (hD_cg (s154.2.1 68 (by decide)) (s154.2.1 70 (by decide)) (hD_cg (s149.2.1 68 (by decide)) (s149.2.1 70 (by decide)) f146)))), (thF_cg rfl rfl (thF_cg rfl rfl (thF_tr f150 g154_TF (by decide)))), (mmF_cg rfl (mmF_cg rfl (mmF_cg (s154.2.2 0 (by decide)) (mmF_tr (mmF_cg rfl (mmF_cg rfl (mmF_cg rfl (mmF_cg (s141.2.2 0 (by decide)) (mmF_cg rfl (mmF_cg (s106.2.2 0 (by decide)) (mmF_cg (s101.2.2 0 (by decide)) mmF_rf))))))) g149_MF (by decide)))))⟩⟩ d_M_shownAhead_227
              · refine lv_bipush (v := iI 37) X.1 X.2.1 d_M_shownAhead_221 (by decide) ?_
                refine lv_goto (tgt := 227) X.1 X.2.1 d_M_shownAhead_223 (by decide) ?_
                exact m_reti hQQ X Y hr hlk ⟨S, 37, rfl, ⟨by omega, by omega, (pG1_cg rfl rfl g158_P1), (pG2_cg rfl rfl (pG2_cg rfl rfl g154_P2)), (hD_cg rfl rfl (hD_cg (s158.2.1 68 (by decide)) (s158.2.1 70 (by decide)) (hD_cg (s154.2.1 68 (by decide)) (s154.2.1 70 (by decide)) (hD_cg (s149.2.1 68 (by decide)) (s149.2.1 70 (by decide)) f146)))), (thF_cg rfl rfl (thF_cg rfl rfl (thF_tr f150 g154_TF (by decide)))), (mmF_cg rfl (mmF_cg rfl (mmF_cg (s154.2.2 0 (by decide)) (mmF_tr (mmF_cg rfl (mmF_cg rfl (mmF_cg rfl (mmF_cg (s141.2.2 0 (by decide)) (mmF_cg rfl (mmF_cg (s106.2.2 0 (by decide)) (mmF_cg (s101.2.2 0 (by decide)) mmF_rf))))))) g149_MF (by decide)))))⟩⟩ d_M_shownAhead_227
            · refine lv_bipush (v := iI 24) X.1 X.2.1 d_M_shownAhead_199 (by decide) ?_
              exact m_reti hQQ X Y hr hlk ⟨S, 24, rfl, ⟨by omega, by omega, g154_P1, g154_P2, (hD_cg (s154.2.1 68 (by decide)) (s154.2.1 70 (by decide)) (hD_cg (s149.2.1 68 (by decide)) (s149.2.1 70 (by decide)) f146)), (thF_tr f150 g154_TF (by decide)), (mmF_cg (s154.2.2 0 (by decide)) (mmF_tr (mmF_cg rfl (mmF_cg rfl (mmF_cg rfl (mmF_cg (s141.2.2 0 (by decide)) (mmF_cg rfl (mmF_cg (s106.2.2 0 (by decide)) (mmF_cg (s101.2.2 0 (by decide)) mmF_rf))))))) g149_MF (by decide)))⟩⟩ d_M_shownAhead_201
        · refine lv_bipush (v := iI 24) X.1 X.2.1 d_M_shownAhead_103 (by decide) ?_
          exact m_reti hQQ X Y hr hlk ⟨S, 24, rfl, ⟨by omega, by omega, g110_P1, (pG2_cg rfl rfl g106_P2), (hD_cg (s110.2.1 68 (by decide)) (s110.2.1 70 (by decide)) (hD_cg (s106.2.1 68 (by decide)) (s106.2.1 70 (by decide)) (hD_cg (s101.2.1 68 (by decide)) (s101.2.1 70 (by decide)) f_HD))), (thF_cg rfl rfl (thF_tr (thF_tr thF_rf g101_TF (by decide)) g106_TF (by decide))), (mmF_cg rfl (mmF_cg (s106.2.2 0 (by decide)) (mmF_cg (s101.2.2 0 (by decide)) mmF_rf)))⟩⟩ d_M_shownAhead_105
    · refine lv_bipush (v := iI 24) X.1 X.2.1 d_M_shownAhead_76 (by decide) ?_
      exact m_reti hQQ X Y hr hlk ⟨S, 24, rfl, ⟨by omega, by omega, g106_P1, g106_P2, (hD_cg (s106.2.1 68 (by decide)) (s106.2.1 70 (by decide)) (hD_cg (s101.2.1 68 (by decide)) (s101.2.1 70 (by decide)) f_HD)), (thF_tr (thF_tr thF_rf g101_TF (by decide)) g106_TF (by decide)), (mmF_cg (s106.2.2 0 (by decide)) (mmF_cg (s101.2.2 0 (by decide)) mmF_rf))⟩⟩ d_M_shownAhead_78
  · refine lv_aload_n X.1 X.2.1 d_M_shownAhead_8 rfl (lv_at hl 0 rfl) ?_
    refine lv_iconst (v := iI 1) X.1 X.2.1 d_M_shownAhead_9 (by decide) ?_
    refine r_puti (k := 68) X Y S (by decide) lk_hasData rfl rfl (t_M_ok 68 (by decide)) (iI_bool (by omega) (by omega)).1 (iI_bool (by omega) (by omega)).2 (sf_hasData _ _ _ _) (Nat.le_of_ble_eq_true rfl) rfl (show (0 : Int) ≤ 1 by omega) (show 1 ≤ (1 : Int) by omega) ⟨by omega, by omega⟩ (by decide) d_M_shownAhead_10 (fun I163 H locs Y S w163 => ?_)
    refine lv_aload_n X.1 X.2.1 d_M_shownAhead_13 rfl (lv_at hl 0 rfl) ?_
    refine lv_aload_n X.1 X.2.1 d_M_shownAhead_14 rfl (lv_at hl 0 rfl) ?_
    refine r_get0 X Y (by decide) lk_client (gf_client _ _ _) rfl ((w163.2 75 (by decide)).trans ((s101.2.1 75 (by decide)).trans gcl)) d_M_shownAhead_15 ?_
    refine r_puti (k := 70) X Y S (by decide) lk_dataFor rfl rfl (t_M_ok 70 (by decide)) rfl rfl (sf_dataFor _ _ _ _) (Nat.le_of_ble_eq_true rfl) rfl (show ((-1) : Int) ≤ cl by omega) (show cl ≤ (11 : Int) by omega) ⟨by omega, by omega⟩ (by decide) d_M_shownAhead_18 (fun I164 H locs Y S w164 => ?_)
    refine lv_aload_n X.1 X.2.1 d_M_shownAhead_21 rfl (lv_at hl 0 rfl) ?_
    refine lv_aload_n X.1 X.2.1 d_M_shownAhead_22 rfl (lv_at hl 0 rfl) ?_
    refine r_geti (k := 77) X Y S (by decide) lk_type (gf_type _ _ _) rfl rfl d_M_shownAhead_23 (fun z165 e165 l165 u165 => ?_)
    refine r_puti (k := 71) X Y S (by decide) lk_dataFirst rfl rfl (t_M_ok 71 (by decide)) rfl rfl (sf_dataFirst _ _ _ _) (Nat.le_of_ble_eq_true rfl) rfl (show ((-2147483648) : Int) ≤ z165 by omega) (show z165 ≤ (2147483647 : Int) by omega) ⟨by omega, by omega⟩ (by decide) d_M_shownAhead_26 (fun I166 H locs Y S w166 => ?_)
    refine lv_aload_n X.1 X.2.1 d_M_shownAhead_29 rfl (lv_at hl 0 rfl) ?_
    refine lv_aload_n X.1 X.2.1 d_M_shownAhead_30 rfl (lv_at hl 0 rfl) ?_
    refine lv_aload_n X.1 X.2.1 d_M_shownAhead_31 rfl (lv_at hl 0 rfl) ?_
    refine r_get0 X Y (by decide) lk_type (gf_type _ _ _) rfl ((w166.2 77 (by decide)).trans e165) d_M_shownAhead_32 ?_
    refine r_ni (m_run (As := [.int (iI z165)]) (rest := [.ref h]) (n := 1) X Y hZ hA hml hl.1 (r_M_typeAsked l D E h q H.size I166 J101 B101 G101 z165 (by omega) (by omega) S.1 (pG1_cg (w166.2 39 (by decide)) (w166.2 40 (by decide)) (pG1_cg (w164.2 39 (by decide)) (w164.2 40 (by decide)) (pG1_cg (w163.2 39 (by decide)) (w163.2 40 (by decide)) g101_P1))) (pG2_cg rfl rfl (pG2_cg rfl rfl (pG2_cg rfl rfl g101_P2))) (rwA_cg rfl rfl rfl (rwA_cg rfl rfl rfl (rwA_cg rfl rfl rfl f103)))) kl_M_typeAsked ks_M_typeAsked kx_M_typeAsked ki_M_typeAsked ini_M hd_M_typeAsked ⟨Nat.le_of_ble_eq_true rfl, Nat.le_of_ble_eq_true rfl⟩ rfl (Nat.le_of_ble_eq_true rfl) d_M_shownAhead_35 ⟨Nat.le_refl _, Nat.le_refl _⟩) X Y hA S (by decide) (by decide) (fun z167 u H locs Y S s167 p167 => ?_)
    obtain ⟨I167, J167, B167, G167⟩ := u
    dsimp only at Y S s167 p167
    have b167 : B101 = B167 := (funext (fun j => s167.2.2 j (by simp))).symm
    subst b167
    obtain ⟨l167, u167, x167, g167_P1⟩ := p167
    refine z_if_eq (tgt := 45) X.1 X.2.1 d_M_shownAhead_38 (by decide) ⟨by omega, by omega⟩ (fun h168 => ?_) (fun h168 => ?_)
    · refine lv_iconst (v := iI 0) X.1 X.2.1 d_M_shownAhead_45 (by decide) ?_
      refine r_puti (k := 72) X Y S (by decide) lk_dataBoth rfl rfl (t_M_ok 72 (by decide)) (iI_bool (by omega) (by omega)).1 (iI_bool (by omega) (by omega)).2 (sf_dataBoth _ _ _ _) (Nat.le_of_ble_eq_true rfl) rfl (show (0 : Int) ≤ 0 by omega) (show 0 ≤ (1 : Int) by omega) ⟨by omega, by omega⟩ (by decide) d_M_shownAhead_46 (fun I169 H locs Y S w169 => ?_)
      refine lv_bipush (v := iI 25) X.1 X.2.1 d_M_shownAhead_49 (by decide) ?_
      exact m_reti hQQ X Y hr hlk ⟨S, 25, rfl, ⟨by omega, by omega, (pG1_cg (w169.2 39 (by decide)) (w169.2 40 (by decide)) g167_P1), (pG2_cg rfl rfl (pG2_cg rfl rfl (pG2_cg rfl rfl (pG2_cg rfl rfl (pG2_cg rfl rfl g101_P2))))), (Or.inr ⟨cl, ((w169.2 70 (by decide)).trans ((s167.2.1 70 (by decide)).trans ((w166.2 70 (by decide)).trans w164.1))), by omega, by omega⟩), (thF_cg rfl rfl (thF_cg rfl rfl (thF_cg rfl rfl (thF_cg rfl rfl (thF_cg rfl rfl (thF_tr thF_rf g101_TF (by decide))))))), (mmF_cg rfl (mmF_cg rfl (mmF_cg rfl (mmF_cg rfl (mmF_cg rfl (mmF_cg (s101.2.2 0 (by decide)) mmF_rf))))))⟩⟩ d_M_shownAhead_51
    · refine lv_iconst (v := iI 1) X.1 X.2.1 d_M_shownAhead_41 (by decide) ?_
      refine lv_goto (tgt := 46) X.1 X.2.1 d_M_shownAhead_42 (by decide) ?_
      refine r_puti (k := 72) X Y S (by decide) lk_dataBoth rfl rfl (t_M_ok 72 (by decide)) (iI_bool (by omega) (by omega)).1 (iI_bool (by omega) (by omega)).2 (sf_dataBoth _ _ _ _) (Nat.le_of_ble_eq_true rfl) rfl (show (0 : Int) ≤ 1 by omega) (show 1 ≤ (1 : Int) by omega) ⟨by omega, by omega⟩ (by decide) d_M_shownAhead_46 (fun I170 H locs Y S w170 => ?_)
      refine lv_bipush (v := iI 25) X.1 X.2.1 d_M_shownAhead_49 (by decide) ?_
      exact m_reti hQQ X Y hr hlk ⟨S, 25, rfl, ⟨by omega, by omega, (pG1_cg (w170.2 39 (by decide)) (w170.2 40 (by decide)) g167_P1), (pG2_cg rfl rfl (pG2_cg rfl rfl (pG2_cg rfl rfl (pG2_cg rfl rfl (pG2_cg rfl rfl g101_P2))))), (Or.inr ⟨cl, ((w170.2 70 (by decide)).trans ((s167.2.1 70 (by decide)).trans ((w166.2 70 (by decide)).trans w164.1))), by omega, by omega⟩), (thF_cg rfl rfl (thF_cg rfl rfl (thF_cg rfl rfl (thF_cg rfl rfl (thF_cg rfl rfl (thF_tr thF_rf g101_TF (by decide))))))), (mmF_cg rfl (mmF_cg rfl (mmF_cg rfl (mmF_cg rfl (mmF_cg rfl (mmF_cg (s101.2.2 0 (by decide)) mmF_rf))))))⟩⟩ d_M_shownAhead_51
set_option maxHeartbeats 4000000 in
set_option maxRecDepth 100000 in
theorem r_M_both (l : Launch) (D : mD) (E : mE) (h : Nat) (q : Nat → Nat) (sz : Nat) (I : Nat → Int32) (J : Nat → Int64) (B : Nat → Nat → Int32) (G : Nat → Nat → Int64) (a1 : Int) (l_a1 : (-2147483648) ≤ a1) (u_a1 : a1 ≤ 2147483647) (a2 : Int) (l_a2 : (-2147483648) ≤ a2) (u_a2 : a2 ≤ 2147483647) (hT : rT I B) (cl : Int) (gcl : I 75 = iI cl) (lcl : 0 ≤ cl) (ucl : cl ≤ 11) (sv : Int) (gsv : I 76 = iI sv) (lsv : 0 ≤ sv) (usv : sv ≤ 11) (f_P1 : pG1 I) (f_P2 : pG2 (B 37) (B 38)) : Met l y_M_both (k_M_both :: lw_tg) (mR 3 110) (va_Pc [.ref h, .int (iI a1), .int (iI a2)] (mPre D E h q (I, J, B, G) sz)) (va_Qi (rPi [39, 40] [] I B (fun (z : Int) (u : mS) => 0 ≤ z ∧ z ≤ 1 ∧ pG1 u.1)) (mPost D E h q (mA E h q sz)) (mA E h q sz)) 0 0 (mA E h q sz) := by
  refine m_enter (by decide) rfl (Nat.le_of_ble_eq_true rfl) (fun p e s m below meth c ls AV QQ H locs hQQ X Y hZ hA hr hlk hml hl => ?_)
  have Y : mH D E (mA E h q sz) s.heap h q I J B G H locs := Y
  have S : rS [39, 40] [] I B I B := rS_rf hT
  have hl : lv_has ls 3 [(0, .ref h), (1, .int (iI a1)), (2, .int (iI a2))] := hl
  refine lv_aload_n X.1 X.2.1 d_M_both_0 rfl (lv_at hl 0 rfl) ?_
  refine lv_aload_n X.1 X.2.1 d_M_both_1 rfl (lv_at hl 0 rfl) ?_
  refine r_get0 X Y (by decide) lk_service (gf_service _ _ _) rfl gsv d_M_both_2 ?_
  refine lv_iload_n X.1 X.2.1 d_M_both_5 rfl (lv_at hl 1 rfl) ?_
  refine r_ni (m_run (As := [.int (iI sv), .int (iI a1)]) (rest := []) (n := 2) X Y hZ hA hml hl.1 (r_M_says l D E h q H.size I J B G sv (by omega) (by omega) a1 (by omega) (by omega) S.1) kl_M_says ks_M_says kx_M_says ki_M_says ini_M hd_M_says ⟨Nat.le_of_ble_eq_true rfl, Nat.le_of_ble_eq_true rfl⟩ rfl (Nat.le_of_ble_eq_true rfl) d_M_both_6 ⟨Nat.le_refl _, Nat.le_refl _⟩) X Y hA S (by decide) (by decide) (fun z101 u H locs Y S s101 p101 => ?_)
  obtain ⟨I101, J101, B101, G101⟩ := u
  dsimp only at Y S s101 p101
  have i101 : I = I101 := (funext (fun j => s101.2.1 j (by simp))).symm
  subst i101
  have b101 : B = B101 := (funext (fun j => s101.2.2 j (by simp))).symm
  subst b101
  obtain ⟨l101, u101⟩ := p101
  refine z_if_eq (tgt := 52) X.1 X.2.1 d_M_both_9 (by decide) ⟨by omega, by omega⟩ (fun h102 => ?_) (fun h102 => ?_)
  · refine lv_iconst (v := iI 0) X.1 X.2.1 d_M_both_52 (by decide) ?_
    exact m_retz hQQ X Y hr hlk (iI_bool (by omega) (by omega)).1 ⟨S, 0, rfl, ⟨by omega, by omega, (pG1_cg rfl rfl f_P1)⟩⟩ d_M_both_53
  · refine lv_aload_n X.1 X.2.1 d_M_both_12 rfl (lv_at hl 0 rfl) ?_
    refine r_geti (k := 69) X Y S (by decide) lk_isAs (gf_isAs _ _ _) rfl rfl d_M_both_13 (fun z103 e103 l103 u103 => ?_)
    refine z_if_eq (tgt := 34) X.1 X.2.1 d_M_both_16 (by decide) ⟨by omega, by omega⟩ (fun h104 => ?_) (fun h104 => ?_)
    · refine lv_aload_n X.1 X.2.1 d_M_both_34 rfl (lv_at hl 0 rfl) ?_
      refine lv_aload_n X.1 X.2.1 d_M_both_35 rfl (lv_at hl 0 rfl) ?_
      refine lv_iconst (v := iI 4) X.1 X.2.1 d_M_both_36 (by decide) ?_
      refine lv_iconst (v := iI 0) X.1 X.2.1 d_M_both_37 (by decide) ?_
      refine r_ni (m_run (As := [.int (iI 4), .int (iI 0)]) (rest := [.ref h]) (n := 2) X Y hZ hA hml hl.1 (r_M_flagsAt l D E h q H.size I J101 B G101 4 (by omega) (by omega) 0 (by omega) (by omega) S.1 (pG1_cg rfl rfl f_P1) (pG2_cg rfl rfl f_P2)) kl_M_flagsAt ks_M_flagsAt kx_M_flagsAt ki_M_flagsAt ini_M hd_M_flagsAt ⟨Nat.le_of_ble_eq_true rfl, Nat.le_of_ble_eq_true rfl⟩ rfl (Nat.le_of_ble_eq_true rfl) d_M_both_38 ⟨Nat.le_refl _, Nat.le_refl _⟩) X Y hA S (by decide) (by decide) (fun z105 u H locs Y S s105 p105 => ?_)
      obtain ⟨I105, J105, B105, G105⟩ := u
      dsimp only at Y S s105 p105
      have b105 : B = B105 := (funext (fun j => s105.2.2 j (by simp))).symm
      subst b105
      obtain ⟨l105, u105, g105_P1⟩ := p105
      refine lv_iload_n X.1 X.2.1 d_M_both_41 rfl (lv_at hl 2 rfl) ?_
      refine r_ni (m_run (As := [.int (iI z105), .int (iI a2)]) (rest := []) (n := 2) X Y hZ hA hml hl.1 (r_M_bit l D E h q H.size I105 J105 B G105 z105 (by omega) (by omega) a2 (by omega) (by omega) S.1) kl_M_bit ks_M_bit kx_M_bit ki_M_bit ini_M hd_M_bit ⟨Nat.le_of_ble_eq_true rfl, Nat.le_of_ble_eq_true rfl⟩ rfl (Nat.le_of_ble_eq_true rfl) d_M_both_42 ⟨Nat.le_refl _, Nat.le_refl _⟩) X Y hA S (by decide) (by decide) (fun z106 u H locs Y S s106 p106 => ?_)
      obtain ⟨I106, J106, B106, G106⟩ := u
      dsimp only at Y S s106 p106
      have i106 : I105 = I106 := (funext (fun j => s106.2.1 j (by simp))).symm
      subst i106
      have b106 : B = B106 := (funext (fun j => s106.2.2 j (by simp))).symm
      subst b106
      obtain ⟨l106, u106⟩ := p106
      refine z_if_eq (tgt := 52) X.1 X.2.1 d_M_both_45 (by decide) ⟨by omega, by omega⟩ (fun h107 => ?_) (fun h107 => ?_)
      · refine lv_iconst (v := iI 0) X.1 X.2.1 d_M_both_52 (by decide) ?_
        exact m_retz hQQ X Y hr hlk (iI_bool (by omega) (by omega)).1 ⟨S, 0, rfl, ⟨by omega, by omega, (pG1_cg rfl rfl g105_P1)⟩⟩ d_M_both_53
      · refine lv_iconst (v := iI 1) X.1 X.2.1 d_M_both_48 (by decide) ?_
        refine lv_goto (tgt := 53) X.1 X.2.1 d_M_both_49 (by decide) ?_
        exact m_retz hQQ X Y hr hlk (iI_bool (by omega) (by omega)).1 ⟨S, 1, rfl, ⟨by omega, by omega, (pG1_cg rfl rfl g105_P1)⟩⟩ d_M_both_53
    · refine lv_aload_n X.1 X.2.1 d_M_both_19 rfl (lv_at hl 0 rfl) ?_
      refine lv_aload_n X.1 X.2.1 d_M_both_20 rfl (lv_at hl 0 rfl) ?_
      refine r_get0 X Y (by decide) lk_client (gf_client _ _ _) rfl gcl d_M_both_21 ?_
      refine lv_iload_n X.1 X.2.1 d_M_both_24 rfl (lv_at hl 1 rfl) ?_
      refine r_ni (m_run (As := [.int (iI cl), .int (iI a1)]) (rest := []) (n := 2) X Y hZ hA hml hl.1 (r_M_says l D E h q H.size I J101 B G101 cl (by omega) (by omega) a1 (by omega) (by omega) S.1) kl_M_says ks_M_says kx_M_says ki_M_says ini_M hd_M_says ⟨Nat.le_of_ble_eq_true rfl, Nat.le_of_ble_eq_true rfl⟩ rfl (Nat.le_of_ble_eq_true rfl) d_M_both_25 ⟨Nat.le_refl _, Nat.le_refl _⟩) X Y hA S (by decide) (by decide) (fun z108 u H locs Y S s108 p108 => ?_)
      obtain ⟨I108, J108, B108, G108⟩ := u
      dsimp only at Y S s108 p108
      have i108 : I = I108 := (funext (fun j => s108.2.1 j (by simp))).symm
      subst i108
      have b108 : B = B108 := (funext (fun j => s108.2.2 j (by simp))).symm
      subst b108
      obtain ⟨l108, u108⟩ := p108
      refine z_if_eq (tgt := 52) X.1 X.2.1 d_M_both_28 (by decide) ⟨by omega, by omega⟩ (fun h109 => ?_) (fun h109 => ?_)
      · refine lv_iconst (v := iI 0) X.1 X.2.1 d_M_both_52 (by decide) ?_
        exact m_retz hQQ X Y hr hlk (iI_bool (by omega) (by omega)).1 ⟨S, 0, rfl, ⟨by omega, by omega, (pG1_cg rfl rfl (pG1_cg rfl rfl f_P1))⟩⟩ d_M_both_53
      · refine lv_goto (tgt := 48) X.1 X.2.1 d_M_both_31 (by decide) ?_
        refine lv_iconst (v := iI 1) X.1 X.2.1 d_M_both_48 (by decide) ?_
        refine lv_goto (tgt := 53) X.1 X.2.1 d_M_both_49 (by decide) ?_
        exact m_retz hQQ X Y hr hlk (iI_bool (by omega) (by omega)).1 ⟨S, 1, rfl, ⟨by omega, by omega, (pG1_cg rfl rfl (pG1_cg rfl rfl f_P1))⟩⟩ d_M_both_53
set_option maxHeartbeats 4000000 in
set_option maxRecDepth 100000 in
theorem r_M_putBytes_made (l : Launch) (D : mD) (E : mE) (h : Nat) (q : Nat → Nat) (sz : Nat) (I : Nat → Int32) (J : Nat → Int64) (B : Nat → Nat → Int32) (G : Nat → Nat → Int64) (a2 : Int) (l_a2 : 0 ≤ a2) (u_a2 : a2 ≤ 32) (a3 : Int) (l_a3 : 0 ≤ a3) (u_a3 : a3 ≤ 32) (hT : rT I B) (wn : Int) (gwn : I 42 = iI wn) (lwn : 30000 ≤ wn) (uwn : wn ≤ 60000) (q0 : a2 + a3 ≤ 32) (q1 : 30000 + a3 ≤ wn) : Met l y_M_putBytes (k_M_putBytes :: lw_tg) (mR 2 81) (va_Pc [.ref h, .ref (q 56), .int (iI a2), .int (iI a3)] (mPre D E h q (I, J, B, G) sz)) (va_Qv (rPv [42] [0] I B (fun (u : mS) => (∃ V2 : Int, u.1 42 = iI V2 ∧ wn - (a3) ≤ V2 ∧ V2 ≤ wn) ∧ mmF 30000 60000 (B 0) (u.2.2.1 0))) (mPost D E h q (mA E h q sz)) (mA E h q sz)) 0 0 (mA E h q sz) := by
  refine m_enter (by decide) rfl (Nat.le_of_ble_eq_true rfl) (fun p e s m below meth c ls AV QQ H locs hQQ X Y hZ hA hr hlk hml hl => ?_)
  have Y : mH D E (mA E h q sz) s.heap h q I J B G H locs := Y
  have S : rS [42] [0] I B I B := rS_rf hT
  have hl : lv_has ls 5 [(0, .ref h), (1, .ref ((q 56))), (2, .int (iI a2)), (3, .int (iI a3))] := hl
  refine lv_iload_n X.1 X.2.1 d_M_putBytes_0 rfl (lv_at hl 3 rfl) ?_
  refine lv_iconst (v := iI 1) X.1 X.2.1 d_M_putBytes_1 (by decide) ?_
  refine z_isub X.1 X.2.1 d_M_putBytes_2 ?_
  have J107 : ∀ (n109 : Nat) (z102 : Int) (z104 : Int) (I101 : Nat → Int32) (J101 : Nat → Int64) (B101 : Nat → Nat → Int32) (G101 : Nat → Nat → Int64) (H : Heap) (locs : List Loc) (ls : Array Slot), (z102 - (-1)).toNat = n109 → ((-1) ≤ z102) → (z102 ≤ 31) → (mmF 30000 60000 (B 0) (B101 0)) → (I101 42 = iI z104) → (0 ≤ z104) → (z104 ≤ 60000) → (z104 = wn - (a3 - 1 - z102)) → (z102 ≤ a3 - 1) → mH D E (mA E h q sz) s.heap h q I101 J101 B101 G101 H locs → rS [42] [0] I B I101 B101 → lv_has ls 5 [(0, .ref h), (1, .ref ((q 56))), (2, .int (iI a2)), (4, .int (iI z102))] → W p l e (mR 2 81) s m AV below meth c H locs 0 0 QQ (F0 m 5 ls []) := by
    intro n109
    induction n109 using Nat.strongRecOn with
    | ind n109 ih108 =>
      intro z102 z104 I101 J101 B101 G101 H locs ls hm110 l102 u102 f103 e104 l104 u104 i105 i106 Y S hl
      refine lv_iload X.1 X.2.1 d_M_putBytes_5 (lv_at hl 3 rfl) ?_
      refine z_if_lt (tgt := 26) X.1 X.2.1 d_M_putBytes_7 (by decide) ⟨by omega, by omega⟩ (fun h111 => ?_) (fun h111 => ?_)
      · exact m_retv hQQ X Y hr hlk ⟨S, ⟨⟨z104, e104, by omega, by omega⟩, f103⟩⟩ d_M_putBytes_26
      · refine lv_aload_n X.1 X.2.1 d_M_putBytes_10 rfl (lv_at hl 0 rfl) ?_
        refine lv_aload_n X.1 X.2.1 d_M_putBytes_11 rfl (lv_at hl 1 rfl) ?_
        refine lv_iload_n X.1 X.2.1 d_M_putBytes_12 rfl (lv_at hl 2 rfl) ?_
        refine lv_iload X.1 X.2.1 d_M_putBytes_13 (lv_at hl 3 rfl) ?_
        refine z_iadd X.1 X.2.1 d_M_putBytes_15 ?_
        refine r_bald X Y S (aw_made _ _ _ _ _ _ _) rfl (by omega) (show a2 + z102 < ((32 : Nat) : Int) by omega) (by omega) d_M_putBytes_16 (fun z112 q112 l112 u112 => ?_)
        refine r_nv (m_run (As := [.int (iI z112)]) (rest := []) (n := 1) X Y hZ hA hml hl.1 (r_M_one l D E h q H.size I101 J101 B101 G101 z112 (by omega) (by omega) S.1 z104 e104 (by omega) (by omega)) kl_M_one ks_M_one kx_M_one ki_M_one ini_M hd_M_one ⟨Nat.le_of_ble_eq_true rfl, Nat.le_of_ble_eq_true rfl⟩ rfl (Nat.le_of_ble_eq_true rfl) d_M_putBytes_17 ⟨Nat.le_refl _, Nat.le_refl _⟩) X Y hA S (by decide) (by decide) (fun u H locs Y S s113 p113 => ?_)
        obtain ⟨I113, J113, B113, G113⟩ := u
        dsimp only at Y S s113 p113
        obtain ⟨x113, g113_MF⟩ := p113
        refine lv_iinc (v := iI (z102 - 1)) (lv' := [(4, .int (iI (z102 - 1))), (0, .ref h), (1, .ref ((q 56))), (2, .int (iI a2))]) X.1 X.2.1 d_M_putBytes_20 hl (k := 3) rfl ((iI_add _ _).trans (congrArg iI (by omega))) (by decide) rfl (fun ls hl => ?_)
        refine lv_goto (tgt := 5) X.1 X.2.1 d_M_putBytes_23 (by decide) ?_
        exact ih108 (((z102 - 1) - (-1)).toNat) (by omega) (z102 - 1) (z104 - 1) I113 J113 B113 G113 _ _ _ rfl (by omega) (by omega) (mmF_tr f103 g113_MF (by decide)) (x113.trans (congrArg iI (show (z104 - 1 : Int) = z104 - 1 by omega))) (by omega) (by omega) (by omega) (by omega) Y S (lv_sub hl [1, 2, 3, 0] rfl)
  refine lv_istore (lv' := [(4, .int (iI (a3 - 1))), (0, .ref h), (1, .ref ((q 56))), (2, .int (iI a2)), (3, .int (iI a3))]) X.1 X.2.1 d_M_putBytes_3 hl (by decide) rfl (fun ls hl => ?_)
  exact J107 _ (a3 - 1) wn I J B G _ _ _ rfl (by omega) (by omega) mmF_rf gwn (by omega) (by omega) (by omega) (by omega) Y S (lv_sub hl [1, 2, 3, 0] rfl)
set_option maxHeartbeats 4000000 in
set_option maxRecDepth 100000 in
theorem r_M_octetField_made (l : Launch) (D : mD) (E : mE) (h : Nat) (q : Nat → Nat) (sz : Nat) (I : Nat → Int32) (J : Nat → Int64) (B : Nat → Nat → Int32) (G : Nat → Nat → Int64) (a1 : Int) (l_a1 : (-2147483648) ≤ a1) (u_a1 : a1 ≤ 2147483647) (a3 : Int) (l_a3 : 0 ≤ a3) (u_a3 : a3 ≤ 32) (a4 : Int) (l_a4 : 0 ≤ a4) (u_a4 : a4 ≤ 32) (hT : rT I B) (wn : Int) (gwn : I 42 = iI wn) (lwn : 30100 ≤ wn) (uwn : wn ≤ 60000) (q0 : a3 + a4 ≤ 32) (q1 : 30100 + a4 ≤ wn) : Met l y_M_octetField (k_M_octetField :: lw_tg) (mR 4 128) (va_Pc [.ref h, .int (iI a1), .ref (q 56), .int (iI a3), .int (iI a4)] (mPre D E h q (I, J, B, G) sz)) (va_Qv (rPv [42] [0] I B (fun (u : mS) => (∃ V2 : Int, u.1 42 = iI V2 ∧ wn - (a4 + 8) ≤ V2 ∧ V2 ≤ wn) ∧ mmF 30000 60000 (B 0) (u.2.2.1 0))) (mPost D E h q (mA E h q sz)) (mA E h q sz)) 0 0 (mA E h q sz) := by
  refine m_enter (by decide) rfl (Nat.le_of_ble_eq_true rfl) (fun p e s m below meth c ls AV QQ H locs hQQ X Y hZ hA hr hlk hml hl => ?_)
  have Y : mH D E (mA E h q sz) s.heap h q I J B G H locs := Y
  have S : rS [42] [0] I B I B := rS_rf hT
  have hl : lv_has ls 6 [(0, .ref h), (1, .int (iI a1)), (2, .ref ((q 56))), (3, .int (iI a3)), (4, .int (iI a4))] := hl
  refine lv_aload_n X.1 X.2.1 d_M_octetField_0 rfl (lv_at hl 0 rfl) ?_
  refine r_get0 X Y (by decide) lk_w0 (gf_w0 _ _ _) rfl gwn d_M_octetField_1 ?_
  refine lv_istore (lv' := [(5, .int (iI wn)), (0, .ref h), (1, .int (iI a1)), (2, .ref ((q 56))), (3, .int (iI a3)), (4, .int (iI a4))]) X.1 X.2.1 d_M_octetField_4 hl (by decide) rfl (fun ls hl => ?_)
  refine lv_aload_n X.1 X.2.1 d_M_octetField_6 rfl (lv_at hl 1 rfl) ?_
  refine lv_aload_n X.1 X.2.1 d_M_octetField_7 rfl (lv_at hl 3 rfl) ?_
  refine lv_iload_n X.1 X.2.1 d_M_octetField_8 rfl (lv_at hl 4 rfl) ?_
  refine lv_iload X.1 X.2.1 d_M_octetField_9 (lv_at hl 5 rfl) ?_
  refine r_nv (m_run (As := [.ref ((q 56)), .int (iI a3), .int (iI a4)]) (rest := []) (n := 3) X Y hZ hA hml hl.1 (r_M_putBytes_made l D E h q H.size I J B G a3 (by omega) (by omega) a4 (by omega) (by omega) S.1 wn gwn (by omega) (by omega) (by omega) (by omega)) kl_M_putBytes ks_M_putBytes kx_M_putBytes ki_M_putBytes ini_M hd_M_putBytes ⟨Nat.le_of_ble_eq_true rfl, Nat.le_of_ble_eq_true rfl⟩ rfl (Nat.le_of_ble_eq_true rfl) d_M_octetField_11 ⟨Nat.le_refl _, Nat.le_refl _⟩) X Y hA S (by decide) (by decide) (fun u H locs Y S s101 p101 => ?_)
  obtain ⟨I101, J101, B101, G101⟩ := u
  dsimp only at Y S s101 p101
  obtain ⟨x101, g101_MF⟩ := p101
  obtain ⟨z102, e102, l102, u102⟩ := x101
  refine lv_aload_n X.1 X.2.1 d_M_octetField_14 rfl (lv_at hl 1 rfl) ?_
  refine lv_iconst (v := iI 4) X.1 X.2.1 d_M_octetField_15 (by decide) ?_
  refine lv_iload X.1 X.2.1 d_M_octetField_16 (lv_at hl 0 rfl) ?_
  refine r_nv (m_run (As := [.int (iI 4), .int (iI wn)]) (rest := []) (n := 2) X Y hZ hA hml hl.1 (r_M_head l D E h q H.size I101 J101 B101 G101 4 (by omega) (by omega) wn (by omega) (by omega) S.1 z102 e102 (by omega) (by omega)) kl_M_head ks_M_head kx_M_head ki_M_head ini_M hd_M_head ⟨Nat.le_of_ble_eq_true rfl, Nat.le_of_ble_eq_true rfl⟩ rfl (Nat.le_of_ble_eq_true rfl) d_M_octetField_18 ⟨Nat.le_refl _, Nat.le_refl _⟩) X Y hA S (by decide) (by decide) (fun u H locs Y S s103 p103 => ?_)
  obtain ⟨I103, J103, B103, G103⟩ := u
  dsimp only at Y S s103 p103
  obtain ⟨x103, g103_MF⟩ := p103
  obtain ⟨z104, e104, l104, u104⟩ := x103
  refine lv_aload_n X.1 X.2.1 d_M_octetField_21 rfl (lv_at hl 1 rfl) ?_
  refine lv_iload_n X.1 X.2.1 d_M_octetField_22 rfl (lv_at hl 2 rfl) ?_
  refine lv_iload X.1 X.2.1 d_M_octetField_23 (lv_at hl 0 rfl) ?_
  refine r_nv (m_run (As := [.int (iI a1), .int (iI wn)]) (rest := []) (n := 2) X Y hZ hA hml hl.1 (r_M_field l D E h q H.size I103 J103 B103 G103 a1 (by omega) (by omega) wn (by omega) (by omega) S.1 z104 e104 (by omega) (by omega)) kl_M_field ks_M_field kx_M_field ki_M_field ini_M hd_M_field ⟨Nat.le_of_ble_eq_true rfl, Nat.le_of_ble_eq_true rfl⟩ rfl (Nat.le_of_ble_eq_true rfl) d_M_octetField_25 ⟨Nat.le_refl _, Nat.le_refl _⟩) X Y hA S (by decide) (by decide) (fun u H locs Y S s105 p105 => ?_)
  obtain ⟨I105, J105, B105, G105⟩ := u
  dsimp only at Y S s105 p105
  obtain ⟨x105, g105_MF⟩ := p105
  obtain ⟨z106, e106, l106, u106⟩ := x105
  exact m_retv hQQ X Y hr hlk ⟨S, ⟨⟨z106, e106, by omega, by omega⟩, (mmF_tr (mmF_tr (mmF_tr mmF_rf g101_MF (by decide)) g103_MF (by decide)) g105_MF (by decide))⟩⟩ d_M_octetField_28
set_option maxHeartbeats 4000000 in
set_option maxRecDepth 100000 in
theorem r_M_part (l : Launch) (D : mD) (E : mE) (h : Nat) (q : Nat → Nat) (sz : Nat) (I : Nat → Int32) (J : Nat → Int64) (B : Nat → Nat → Int32) (G : Nat → Nat → Int64) (hT : rT I B) (wn : Int) (gwn : I 42 = iI wn) (lwn : 59000 ≤ wn) (uwn : wn ≤ 60000) (ty : Int) (gty : I 77 = iI ty) (lty : 17 ≤ ty) (uty : ty ≤ 18) (aa : Int) (gaa : I 86 = iI aa) (laa : (-1) ≤ aa) (uaa : aa ≤ 30000) (ae : Int) (gae : I 87 = iI ae) (lae : (-1) ≤ ae) (uae : ae ≤ 30000) (ca : Int) (gca : I 88 = iI ca) (lca : (-1) ≤ ca) (uca : ca ≤ 30000) (ce : Int) (gce : I 89 = iI ce) (lce : (-1) ≤ ce) (uce : ce ≤ 30000) (ia : Int) (gia : I 69 = iI ia) (lia : 0 ≤ ia) (uia : ia ≤ 1) (rr : Int) (f_P1 : pG1 I) (f_P2 : pG2 (B 37) (B 38)) (f_RR : rrP rr (I 69) (B 37) (B 38)) (q0 : aa ≤ ae) (q1 : 0 ≤ aa ∨ aa = ae) (q2 : ae - aa ≤ 4200) (q3 : ca ≤ ce) (q4 : 0 ≤ ca ∨ ca = ce) (q5 : ce - ca ≤ 4200) : Met l y_M_part (k_M_part :: lw_tg) (mR 6 181) (va_Pc [.ref h] (mPre D E h q (I, J, B, G) sz)) (va_Qv (rPv [39, 40, 42] [0] I B (fun (u : mS) => (∃ V2 : Int, u.1 42 = iI V2 ∧ wn - ((ae - aa) + (ce - ca) + rr + 500) ≤ V2 ∧ V2 ≤ wn) ∧ pG1 u.1 ∧ mmF 30000 60000 (B 0) (u.2.2.1 0))) (mPost D E h q (mA E h q sz)) (mA E h q sz)) 0 0 (mA E h q sz) := by
  refine m_enter (by decide) rfl (Nat.le_of_ble_eq_true rfl) (fun p e s m below meth c ls AV QQ H locs hQQ X Y hZ hA hr hlk hml hl => ?_)
  have Y : mH D E (mA E h q sz) s.heap h q I J B G H locs := Y
  have S : rS [39, 40, 42] [0] I B I B := rS_rf hT
  have hl : lv_has ls 2 [(0, .ref h)] := hl
  have rr9 := f_RR.2
  refine lv_aload_n X.1 X.2.1 d_M_part_0 rfl (lv_at hl 0 rfl) ?_
  refine r_geti (k := 85) X Y S (by decide) lk_hasAddress (gf_hasAddress _ _ _) rfl rfl d_M_part_1 (fun z101 e101 l101 u101 => ?_)
  have J116 : ∀ (z113 : Int) (I102 : Nat → Int32) (J102 : Nat → Int64) (B102 : Nat → Nat → Int32) (G102 : Nat → Nat → Int64) (H : Heap) (locs : List Loc) (ls : Array Slot), (mmF 30000 60000 (B 0) (B102 0)) → (pG1 I102) → (pG2 (B102 37) (B102 38)) → (rrP rr (I102 69) (B102 37) (B102 38)) → (I102 69 = iI ia) → (I102 86 = iI aa) → (I102 87 = iI ae) → (I102 88 = iI ca) → (I102 89 = iI ce) → (I102 77 = iI ty) → (I102 42 = iI z113) → (0 ≤ z113) → (z113 ≤ 60000) → (wn - (ae - aa) - 10 ≤ z113) → (z113 ≤ wn) → mH D E (mA E h q sz) s.heap h q I102 J102 B102 G102 H locs → rS [39, 40, 42] [0] I B I102 B102 → lv_has ls 2 [(0, .ref h)] → W p l e (mR 6 181) s m AV below meth c H locs 0 0 QQ (F0 m 21 ls []) := by
    intro z113 I102 J102 B102 G102 H locs ls f103 f104 f105 f106 e107 e108 e109 e110 e111 e112 e113 l113 u113 i114 i115 Y S hl
    refine lv_aload_n X.1 X.2.1 d_M_part_21 rfl (lv_at hl 0 rfl) ?_
    refine r_geti (k := 84) X Y S (by decide) lk_hasRenew (gf_hasRenew _ _ _) rfl rfl d_M_part_22 (fun z120 e120 l120 u120 => ?_)
    have J135 : ∀ (z132 : Int) (I121 : Nat → Int32) (J121 : Nat → Int64) (B121 : Nat → Nat → Int32) (G121 : Nat → Nat → Int64) (H : Heap) (locs : List Loc) (ls : Array Slot), (mmF 30000 60000 (B 0) (B121 0)) → (pG1 I121) → (pG2 (B121 37) (B121 38)) → (rrP rr (I121 69) (B121 37) (B121 38)) → (I121 69 = iI ia) → (I121 86 = iI aa) → (I121 87 = iI ae) → (I121 88 = iI ca) → (I121 89 = iI ce) → (I121 77 = iI ty) → (I121 42 = iI z132) → (0 ≤ z132) → (z132 ≤ 60000) → (wn - (ae - aa) - 40 ≤ z132) → (z132 ≤ wn) → mH D E (mA E h q sz) s.heap h q I121 J121 B121 G121 H locs → rS [39, 40, 42] [0] I B I121 B121 → lv_has ls 2 [(0, .ref h)] → W p l e (mR 6 181) s m AV below meth c H locs 0 0 QQ (F0 m 38 ls []) := by
      intro z132 I121 J121 B121 G121 H locs ls f122 f123 f124 f125 e126 e127 e128 e129 e130 e131 e132 l132 u132 i133 i134 Y S hl
      refine lv_aload_n X.1 X.2.1 d_M_part_38 rfl (lv_at hl 0 rfl) ?_
      refine lv_bipush (v := iI 7) X.1 X.2.1 d_M_part_39 (by decide) ?_
      refine lv_aload_n X.1 X.2.1 d_M_part_41 rfl (lv_at hl 0 rfl) ?_
      refine m_get X Y 82 (by decide) lk_newEnd (gf_newEnd _ _ _) rfl d_M_part_42 ?_
      refine r_nv (m_run (As := [.int (iI 7), .long ((J121 82))]) (rest := []) (n := 2) X Y hZ hA hml hl.1 (r_M_timeField l D E h q H.size I121 J121 B121 G121 7 (by omega) (by omega) ((J121 82)) S.1 z132 e132 (by omega) (by omega)) kl_M_timeField ks_M_timeField kx_M_timeField ki_M_timeField ini_M hd_M_timeField ⟨Nat.le_of_ble_eq_true rfl, Nat.le_of_ble_eq_true rfl⟩ rfl (Nat.le_of_ble_eq_true rfl) d_M_part_45 ⟨Nat.le_refl _, Nat.le_refl _⟩) X Y hA S (by decide) (by decide) (fun u H locs Y S s139 p139 => ?_)
      obtain ⟨I139, J139, B139, G139⟩ := u
      dsimp only at Y S s139 p139
      obtain ⟨x139, g139_MF⟩ := p139
      obtain ⟨z140, e140, l140, u140⟩ := x139
      refine lv_aload_n X.1 X.2.1 d_M_part_48 rfl (lv_at hl 0 rfl) ?_
      refine lv_bipush (v := iI 6) X.1 X.2.1 d_M_part_49 (by decide) ?_
      refine lv_aload_n X.1 X.2.1 d_M_part_51 rfl (lv_at hl 0 rfl) ?_
      refine r_geti (k := 4) X Y S (by decide) lk_now (gf_now _ _ _) rfl rfl d_M_part_52 (fun z141 e141 l141 u141 => ?_)
      refine lv_i2l X.1 X.2.1 d_M_part_55 rfl ?_
      refine t_anyl (fun v142 => ?_)
      refine r_nv (m_run (As := [.int (iI 6), .long v142]) (rest := []) (n := 2) X Y hZ hA hml hl.1 (r_M_timeField l D E h q H.size I139 J139 B139 G139 6 (by omega) (by omega) v142 S.1 z140 e140 (by omega) (by omega)) kl_M_timeField ks_M_timeField kx_M_timeField ki_M_timeField ini_M hd_M_timeField ⟨Nat.le_of_ble_eq_true rfl, Nat.le_of_ble_eq_true rfl⟩ rfl (Nat.le_of_ble_eq_true rfl) d_M_part_56 ⟨Nat.le_refl _, Nat.le_refl _⟩) X Y hA S (by decide) (by decide) (fun u H locs Y S s143 p143 => ?_)
      obtain ⟨I143, J143, B143, G143⟩ := u
      dsimp only at Y S s143 p143
      obtain ⟨x143, g143_MF⟩ := p143
      obtain ⟨z144, e144, l144, u144⟩ := x143
      refine lv_aload_n X.1 X.2.1 d_M_part_59 rfl (lv_at hl 0 rfl) ?_
      refine lv_iconst (v := iI 5) X.1 X.2.1 d_M_part_60 (by decide) ?_
      refine lv_aload_n X.1 X.2.1 d_M_part_61 rfl (lv_at hl 0 rfl) ?_
      refine r_get0 X Y (by decide) lk_isAs (gf_isAs _ _ _) rfl ((s143.2.1 69 (by decide)).trans ((s139.2.1 69 (by decide)).trans e126)) d_M_part_62 ?_
      have J160 : ∀ (v146 : Int64) (z157 : Int) (I145 : Nat → Int32) (J145 : Nat → Int64) (B145 : Nat → Nat → Int32) (G145 : Nat → Nat → Int64) (H : Heap) (locs : List Loc) (ls : Array Slot), (mmF 30000 60000 (B 0) (B145 0)) → (pG1 I145) → (pG2 (B145 37) (B145 38)) → (rrP rr (I145 69) (B145 37) (B145 38)) → (I145 69 = iI ia) → (I145 86 = iI aa) → (I145 87 = iI ae) → (I145 88 = iI ca) → (I145 89 = iI ce) → (I145 77 = iI ty) → (I145 42 = iI z157) → (0 ≤ z157) → (z157 ≤ 60000) → (wn - (ae - aa) - 110 ≤ z157) → (z157 ≤ wn) → mH D E (mA E h q sz) s.heap h q I145 J145 B145 G145 H locs → rS [39, 40, 42] [0] I B I145 B145 → lv_has ls 2 [(0, .ref h)] → W p l e (mR 6 181) s m AV below meth c H locs 0 0 QQ (F0 m 82 ls [.long v146, .int (iI 5), .ref h]) := by
        intro v146 z157 I145 J145 B145 G145 H locs ls f147 f148 f149 f150 e151 e152 e153 e154 e155 e156 e157 l157 u157 i158 i159 Y S hl
        refine r_nv (m_run (As := [.int (iI 5), .long v146]) (rest := []) (n := 2) X Y hZ hA hml hl.1 (r_M_timeField l D E h q H.size I145 J145 B145 G145 5 (by omega) (by omega) v146 S.1 z157 e157 (by omega) (by omega)) kl_M_timeField ks_M_timeField kx_M_timeField ki_M_timeField ini_M hd_M_timeField ⟨Nat.le_of_ble_eq_true rfl, Nat.le_of_ble_eq_true rfl⟩ rfl (Nat.le_of_ble_eq_true rfl) d_M_part_82 ⟨Nat.le_refl _, Nat.le_refl _⟩) X Y hA S (by decide) (by decide) (fun u H locs Y S s164 p164 => ?_)
        obtain ⟨I164, J164, B164, G164⟩ := u
        dsimp only at Y S s164 p164
        obtain ⟨x164, g164_MF⟩ := p164
        obtain ⟨z165, e165, l165, u165⟩ := x164
        refine lv_aload_n X.1 X.2.1 d_M_part_85 rfl (lv_at hl 0 rfl) ?_
        refine r_get0 X Y (by decide) lk_w0 (gf_w0 _ _ _) rfl e165 d_M_part_86 ?_
        refine lv_istore_n (lv' := [(1, .int (iI z165)), (0, .ref h)]) X.1 X.2.1 d_M_part_89 rfl hl (by decide) rfl (fun ls hl => ?_)
        refine lv_aload_n X.1 X.2.1 d_M_part_90 rfl (lv_at hl 1 rfl) ?_
        refine lv_iconst (v := iI 1) X.1 X.2.1 d_M_part_91 (by decide) ?_
        refine lv_aload_n X.1 X.2.1 d_M_part_92 rfl (lv_at hl 1 rfl) ?_
        refine m_get X Y 56 (by decide) lk_made (gf_made _ _ _) rfl d_M_part_93 ?_
        refine lv_iconst (v := iI 0) X.1 X.2.1 d_M_part_96 (by decide) ?_
        refine lv_iconst (v := iI 0) X.1 X.2.1 d_M_part_97 (by decide) ?_
        refine r_nv (m_run (As := [.int (iI 1), .ref ((q 56)), .int (iI 0), .int (iI 0)]) (rest := []) (n := 4) X Y hZ hA hml hl.1 (r_M_octetField_made l D E h q H.size I164 J164 B164 G164 1 (by omega) (by omega) 0 (by omega) (by omega) 0 (by omega) (by omega) S.1 z165 e165 (by omega) (by omega) (by omega) (by omega)) kl_M_octetField ks_M_octetField kx_M_octetField ki_M_octetField ini_M hd_M_octetField ⟨Nat.le_of_ble_eq_true rfl, Nat.le_of_ble_eq_true rfl⟩ rfl (Nat.le_of_ble_eq_true rfl) d_M_part_98 ⟨Nat.le_refl _, Nat.le_refl _⟩) X Y hA S (by decide) (by decide) (fun u H locs Y S s166 p166 => ?_)
        obtain ⟨I166, J166, B166, G166⟩ := u
        dsimp only at Y S s166 p166
        obtain ⟨x166, g166_MF⟩ := p166
        obtain ⟨z167, e167, l167, u167⟩ := x166
        refine lv_aload_n X.1 X.2.1 d_M_part_101 rfl (lv_at hl 1 rfl) ?_
        refine lv_iconst (v := iI 0) X.1 X.2.1 d_M_part_102 (by decide) ?_
        refine lv_lconst (v := 1) X.1 X.2.1 d_M_part_103 rfl ?_
        refine r_nv (m_run (As := [.int (iI 0), .long 1]) (rest := []) (n := 2) X Y hZ hA hml hl.1 (r_M_numberField l D E h q H.size I166 J166 B166 G166 0 (by omega) (by omega) 1 S.1 z167 e167 (by omega) (by omega)) kl_M_numberField ks_M_numberField kx_M_numberField ki_M_numberField ini_M hd_M_numberField ⟨Nat.le_of_ble_eq_true rfl, Nat.le_of_ble_eq_true rfl⟩ rfl (Nat.le_of_ble_eq_true rfl) d_M_part_104 ⟨Nat.le_refl _, Nat.le_refl _⟩) X Y hA S (by decide) (by decide) (fun u H locs Y S s168 p168 => ?_)
        obtain ⟨I168, J168, B168, G168⟩ := u
        dsimp only at Y S s168 p168
        have f169 : rrP rr (I168 69) (B168 37) (B168 38) := (rrP_cg (s168.2.1 69 (by decide)) (s168.2.2 37 (by decide)) (s168.2.2 38 (by decide)) (rrP_cg (s166.2.1 69 (by decide)) (s166.2.2 37 (by decide)) (s166.2.2 38 (by decide)) (rrP_cg (s164.2.1 69 (by decide)) (s164.2.2 37 (by decide)) (s164.2.2 38 (by decide)) f150)))
        obtain ⟨x168, g168_MF⟩ := p168
        obtain ⟨z170, e170, l170, u170⟩ := x168
        refine lv_aload_n X.1 X.2.1 d_M_part_107 rfl (lv_at hl 1 rfl) ?_
        refine lv_bipush (v := iI 48) X.1 X.2.1 d_M_part_108 (by decide) ?_
        refine lv_iload_n X.1 X.2.1 d_M_part_110 rfl (lv_at hl 0 rfl) ?_
        refine r_nv (m_run (As := [.int (iI 48), .int (iI z165)]) (rest := []) (n := 2) X Y hZ hA hml hl.1 (r_M_head l D E h q H.size I168 J168 B168 G168 48 (by omega) (by omega) z165 (by omega) (by omega) S.1 z170 e170 (by omega) (by omega)) kl_M_head ks_M_head kx_M_head ki_M_head ini_M hd_M_head ⟨Nat.le_of_ble_eq_true rfl, Nat.le_of_ble_eq_true rfl⟩ rfl (Nat.le_of_ble_eq_true rfl) d_M_part_111 ⟨Nat.le_refl _, Nat.le_refl _⟩) X Y hA S (by decide) (by decide) (fun u H locs Y S s171 p171 => ?_)
        obtain ⟨I171, J171, B171, G171⟩ := u
        dsimp only at Y S s171 p171
        obtain ⟨x171, g171_MF⟩ := p171
        obtain ⟨z172, e172, l172, u172⟩ := x171
        refine lv_aload_n X.1 X.2.1 d_M_part_114 rfl (lv_at hl 1 rfl) ?_
        refine lv_iconst (v := iI 4) X.1 X.2.1 d_M_part_115 (by decide) ?_
        refine lv_iload_n X.1 X.2.1 d_M_part_116 rfl (lv_at hl 0 rfl) ?_
        refine r_nv (m_run (As := [.int (iI 4), .int (iI z165)]) (rest := []) (n := 2) X Y hZ hA hml hl.1 (r_M_field l D E h q H.size I171 J171 B171 G171 4 (by omega) (by omega) z165 (by omega) (by omega) S.1 z172 e172 (by omega) (by omega)) kl_M_field ks_M_field kx_M_field ki_M_field ini_M hd_M_field ⟨Nat.le_of_ble_eq_true rfl, Nat.le_of_ble_eq_true rfl⟩ rfl (Nat.le_of_ble_eq_true rfl) d_M_part_117 ⟨Nat.le_refl _, Nat.le_refl _⟩) X Y hA S (by decide) (by decide) (fun u H locs Y S s173 p173 => ?_)
        obtain ⟨I173, J173, B173, G173⟩ := u
        dsimp only at Y S s173 p173
        have f174 : pG1 I173 := (pG1_cg (s173.2.1 39 (by decide)) (s173.2.1 40 (by decide)) (pG1_cg (s171.2.1 39 (by decide)) (s171.2.1 40 (by decide)) (pG1_cg (s168.2.1 39 (by decide)) (s168.2.1 40 (by decide)) (pG1_cg (s166.2.1 39 (by decide)) (s166.2.1 40 (by decide)) (pG1_cg (s164.2.1 39 (by decide)) (s164.2.1 40 (by decide)) f148)))))
        have f175 : pG2 (B173 37) (B173 38) := (pG2_cg (s173.2.2 37 (by decide)) (s173.2.2 38 (by decide)) (pG2_cg (s171.2.2 37 (by decide)) (s171.2.2 38 (by decide)) (pG2_cg (s168.2.2 37 (by decide)) (s168.2.2 38 (by decide)) (pG2_cg (s166.2.2 37 (by decide)) (s166.2.2 38 (by decide)) (pG2_cg (s164.2.2 37 (by decide)) (s164.2.2 38 (by decide)) f149)))))
        obtain ⟨x173, g173_MF⟩ := p173
        obtain ⟨z176, e176, l176, u176⟩ := x173
        refine lv_aload_n X.1 X.2.1 d_M_part_120 rfl (lv_at hl 1 rfl) ?_
        refine lv_iconst (v := iI 3) X.1 X.2.1 d_M_part_121 (by decide) ?_
        refine lv_aload_n X.1 X.2.1 d_M_part_122 rfl (lv_at hl 1 rfl) ?_
        refine r_get0 X Y (by decide) lk_clientAt (gf_clientAt _ _ _) rfl ((s173.2.1 88 (by decide)).trans ((s171.2.1 88 (by decide)).trans ((s168.2.1 88 (by decide)).trans ((s166.2.1 88 (by decide)).trans ((s164.2.1 88 (by decide)).trans e154))))) d_M_part_123 ?_
        refine lv_aload_n X.1 X.2.1 d_M_part_126 rfl (lv_at hl 1 rfl) ?_
        refine r_get0 X Y (by decide) lk_clientEnd (gf_clientEnd _ _ _) rfl ((s173.2.1 89 (by decide)).trans ((s171.2.1 89 (by decide)).trans ((s168.2.1 89 (by decide)).trans ((s166.2.1 89 (by decide)).trans ((s164.2.1 89 (by decide)).trans e155))))) d_M_part_127 ?_
        refine r_nv (m_run (As := [.int (iI 3), .int (iI ca), .int (iI ce)]) (rest := []) (n := 3) X Y hZ hA hml hl.1 (r_M_copyField l D E h q H.size I173 J173 B173 G173 3 (by omega) (by omega) ca (by omega) (by omega) ce (by omega) (by omega) S.1 z176 e176 (by omega) (by omega) (by omega) (by omega) (by omega) (by omega)) kl_M_copyField ks_M_copyField kx_M_copyField ki_M_copyField ini_M hd_M_copyField ⟨Nat.le_of_ble_eq_true rfl, Nat.le_of_ble_eq_true rfl⟩ rfl (Nat.le_of_ble_eq_true rfl) d_M_part_130 ⟨Nat.le_refl _, Nat.le_refl _⟩) X Y hA S (by decide) (by decide) (fun u H locs Y S s177 p177 => ?_)
        obtain ⟨I177, J177, B177, G177⟩ := u
        dsimp only at Y S s177 p177
        have f178 : rrP rr (I177 69) (B177 37) (B177 38) := (rrP_cg (s177.2.1 69 (by decide)) (s177.2.2 37 (by decide)) (s177.2.2 38 (by decide)) (rrP_cg (s173.2.1 69 (by decide)) (s173.2.2 37 (by decide)) (s173.2.2 38 (by decide)) (rrP_cg (s171.2.1 69 (by decide)) (s171.2.2 37 (by decide)) (s171.2.2 38 (by decide)) f169)))
        obtain ⟨x177, g177_MF⟩ := p177
        obtain ⟨z179, e179, l179, u179⟩ := x177
        refine lv_aload_n X.1 X.2.1 d_M_part_133 rfl (lv_at hl 1 rfl) ?_
        refine r_get0 X Y (by decide) lk_isAs (gf_isAs _ _ _) rfl ((s177.2.1 69 (by decide)).trans ((s173.2.1 69 (by decide)).trans ((s171.2.1 69 (by decide)).trans ((s168.2.1 69 (by decide)).trans ((s166.2.1 69 (by decide)).trans ((s164.2.1 69 (by decide)).trans e151)))))) d_M_part_134 ?_
        have J194 : ∀ (z191 : Int) (I180 : Nat → Int32) (J180 : Nat → Int64) (B180 : Nat → Nat → Int32) (G180 : Nat → Nat → Int64) (H : Heap) (locs : List Loc) (ls : Array Slot), (mmF 30000 60000 (B 0) (B180 0)) → (pG1 I180) → (pG2 (B180 37) (B180 38)) → (rrP rr (I180 69) (B180 37) (B180 38)) → (I180 69 = iI ia) → (I180 86 = iI aa) → (I180 87 = iI ae) → (I180 88 = iI ca) → (I180 89 = iI ce) → (I180 77 = iI ty) → (I180 42 = iI z191) → (0 ≤ z191) → (z191 ≤ 60000) → (wn - (ae - aa) - (ce - ca) - rr - 300 ≤ z191) → (z191 ≤ wn) → mH D E (mA E h q sz) s.heap h q I180 J180 B180 G180 H locs → rS [39, 40, 42] [0] I B I180 B180 → lv_has ls 2 [(0, .ref h)] → W p l e (mR 6 181) s m AV below meth c H locs 0 0 QQ (F0 m 168 ls []) := by
          intro z191 I180 J180 B180 G180 H locs ls f181 f182 f183 f184 e185 e186 e187 e188 e189 e190 e191 l191 u191 i192 i193 Y S hl
          refine lv_aload_n X.1 X.2.1 d_M_part_168 rfl (lv_at hl 0 rfl) ?_
          refine lv_iconst (v := iI 1) X.1 X.2.1 d_M_part_169 (by decide) ?_
          refine lv_aload_n X.1 X.2.1 d_M_part_170 rfl (lv_at hl 0 rfl) ?_
          refine r_get0 X Y (by decide) lk_type (gf_type _ _ _) rfl e190 d_M_part_171 ?_
          refine lv_aload_n X.1 X.2.1 d_M_part_174 rfl (lv_at hl 0 rfl) ?_
          refine m_get X Y 60 (by decide) lk_fresh (gf_fresh _ _ _) rfl d_M_part_175 ?_
          refine r_nv (m_run (As := [.int (iI 1), .int (iI ty), .ref ((q 60))]) (rest := []) (n := 3) X Y hZ hA hml hl.1 (r_M_keyField_fresh l D E h q H.size I180 J180 B180 G180 1 (by omega) (by omega) ty (by omega) (by omega) S.1 z191 e191 (by omega) (by omega)) kl_M_keyField ks_M_keyField kx_M_keyField ki_M_keyField ini_M hd_M_keyField ⟨Nat.le_of_ble_eq_true rfl, Nat.le_of_ble_eq_true rfl⟩ rfl (Nat.le_of_ble_eq_true rfl) d_M_part_178 ⟨Nat.le_refl _, Nat.le_refl _⟩) X Y hA S (by decide) (by decide) (fun u H locs Y S s198 p198 => ?_)
          obtain ⟨I198, J198, B198, G198⟩ := u
          dsimp only at Y S s198 p198
          obtain ⟨x198, g198_MF⟩ := p198
          obtain ⟨z199, e199, l199, u199⟩ := x198
          refine lv_aload_n X.1 X.2.1 d_M_part_181 rfl (lv_at hl 0 rfl) ?_
          refine lv_iconst (v := iI 0) X.1 X.2.1 d_M_part_182 (by decide) ?_
          refine lv_aload_n X.1 X.2.1 d_M_part_183 rfl (lv_at hl 0 rfl) ?_
          refine r_geti (k := 81) X Y S (by decide) lk_newFlags (gf_newFlags _ _ _) rfl rfl d_M_part_184 (fun z200 e200 l200 u200 => ?_)
          refine r_nv (m_run (As := [.int (iI 0), .int (iI z200)]) (rest := []) (n := 2) X Y hZ hA hml hl.1 (r_M_flagsField l D E h q H.size I198 J198 B198 G198 0 (by omega) (by omega) z200 (by omega) (by omega) S.1 z199 e199 (by omega) (by omega)) kl_M_flagsField ks_M_flagsField kx_M_flagsField ki_M_flagsField ini_M hd_M_flagsField ⟨Nat.le_of_ble_eq_true rfl, Nat.le_of_ble_eq_true rfl⟩ rfl (Nat.le_of_ble_eq_true rfl) d_M_part_187 ⟨Nat.le_refl _, Nat.le_refl _⟩) X Y hA S (by decide) (by decide) (fun u H locs Y S s201 p201 => ?_)
          obtain ⟨I201, J201, B201, G201⟩ := u
          dsimp only at Y S s201 p201
          obtain ⟨x201, g201_MF⟩ := p201
          obtain ⟨z202, e202, l202, u202⟩ := x201
          refine lv_aload_n X.1 X.2.1 d_M_part_190 rfl (lv_at hl 0 rfl) ?_
          refine lv_bipush (v := iI 48) X.1 X.2.1 d_M_part_191 (by decide) ?_
          refine lv_ldc (v := (60000)) X.1 X.2.1 X.2.2.2.1 (X.2.2.1 _ cn_M_9) d_M_part_193 ?_
          refine t_eq (y := iI 60000) (by decide) ?_
          refine r_nv (m_run (As := [.int (iI 48), .int (iI 60000)]) (rest := []) (n := 2) X Y hZ hA hml hl.1 (r_M_head l D E h q H.size I201 J201 B201 G201 48 (by omega) (by omega) 60000 (by omega) (by omega) S.1 z202 e202 (by omega) (by omega)) kl_M_head ks_M_head kx_M_head ki_M_head ini_M hd_M_head ⟨Nat.le_of_ble_eq_true rfl, Nat.le_of_ble_eq_true rfl⟩ rfl (Nat.le_of_ble_eq_true rfl) d_M_part_195 ⟨Nat.le_refl _, Nat.le_refl _⟩) X Y hA S (by decide) (by decide) (fun u H locs Y S s203 p203 => ?_)
          obtain ⟨I203, J203, B203, G203⟩ := u
          dsimp only at Y S s203 p203
          have f204 : rrP rr (I203 69) (B203 37) (B203 38) := (rrP_cg (s203.2.1 69 (by decide)) (s203.2.2 37 (by decide)) (s203.2.2 38 (by decide)) (rrP_cg (s201.2.1 69 (by decide)) (s201.2.2 37 (by decide)) (s201.2.2 38 (by decide)) (rrP_cg (s198.2.1 69 (by decide)) (s198.2.2 37 (by decide)) (s198.2.2 38 (by decide)) f184)))
          obtain ⟨x203, g203_MF⟩ := p203
          obtain ⟨z205, e205, l205, u205⟩ := x203
          exact m_retv hQQ X Y hr hlk ⟨S, ⟨⟨z205, e205, by omega, by omega⟩, (pG1_cg (s203.2.1 39 (by decide)) (s203.2.1 40 (by decide)) (pG1_cg (s201.2.1 39 (by decide)) (s201.2.1 40 (by decide)) (pG1_cg (s198.2.1 39 (by decide)) (s198.2.1 40 (by decide)) f182))), (mmF_tr (mmF_tr (mmF_tr f181 g198_MF (by decide)) g201_MF (by decide)) g203_MF (by decide))⟩⟩ d_M_part_198
        refine z_if_eq (tgt := 151) X.1 X.2.1 d_M_part_137 (by decide) ⟨by omega, by omega⟩ (fun h206 => ?_) (fun h206 => ?_)
        · refine lv_aload_n X.1 X.2.1 d_M_part_151 rfl (lv_at hl 1 rfl) ?_
          refine lv_iconst (v := iI 2) X.1 X.2.1 d_M_part_152 (by decide) ?_
          refine lv_aload_n X.1 X.2.1 d_M_part_153 rfl (lv_at hl 1 rfl) ?_
          refine lv_iconst (v := iI 4) X.1 X.2.1 d_M_part_154 (by decide) ?_
          refine lv_iconst (v := iI 2) X.1 X.2.1 d_M_part_155 (by decide) ?_
          refine r_ni (m_run (As := [.int (iI 4), .int (iI 2)]) (rest := [.int (iI 2), .ref h]) (n := 2) X Y hZ hA hml hl.1 (r_M_a l D E h q H.size I177 J177 B177 G177 4 (by omega) (by omega) 2 (by omega) (by omega) S.1) kl_M_a ks_M_a kx_M_a ki_M_a ini_M hd_M_a ⟨Nat.le_of_ble_eq_true rfl, Nat.le_of_ble_eq_true rfl⟩ rfl (Nat.le_of_ble_eq_true rfl) d_M_part_156 ⟨Nat.le_refl _, Nat.le_refl _⟩) X Y hA S (by decide) (by decide) (fun z207 u H locs Y S s207 p207 => ?_)
          obtain ⟨I207, J207, B207, G207⟩ := u
          dsimp only at Y S s207 p207
          have i207 : I177 = I207 := (funext (fun j => s207.2.1 j (by simp))).symm
          subst i207
          have b207 : B177 = B207 := (funext (fun j => s207.2.2 j (by simp))).symm
          subst b207
          obtain ⟨l207, u207, x207⟩ := p207
          refine lv_aload_n X.1 X.2.1 d_M_part_159 rfl (lv_at hl 1 rfl) ?_
          refine lv_iconst (v := iI 4) X.1 X.2.1 d_M_part_160 (by decide) ?_
          refine lv_iconst (v := iI 2) X.1 X.2.1 d_M_part_161 (by decide) ?_
          refine r_ni (m_run (As := [.int (iI 4), .int (iI 2)]) (rest := [.int (iI z207), .int (iI 2), .ref h]) (n := 2) X Y hZ hA hml hl.1 (r_M_b l D E h q H.size I177 J207 B177 G207 4 (by omega) (by omega) 2 (by omega) (by omega) S.1) kl_M_b ks_M_b kx_M_b ki_M_b ini_M hd_M_b ⟨Nat.le_of_ble_eq_true rfl, Nat.le_of_ble_eq_true rfl⟩ rfl (Nat.le_of_ble_eq_true rfl) d_M_part_162 ⟨Nat.le_refl _, Nat.le_refl _⟩) X Y hA S (by decide) (by decide) (fun z208 u H locs Y S s208 p208 => ?_)
          obtain ⟨I208, J208, B208, G208⟩ := u
          dsimp only at Y S s208 p208
          have i208 : I177 = I208 := (funext (fun j => s208.2.1 j (by simp))).symm
          subst i208
          have b208 : B177 = B208 := (funext (fun j => s208.2.2 j (by simp))).symm
          subst b208
          obtain ⟨l208, u208, x208⟩ := p208
          have p209 : pr z207 z208 := by rw [x207, x208]; exact (pG2_cg rfl rfl (pG2_cg rfl rfl (pG2_cg (s177.2.2 37 (by decide)) (s177.2.2 38 (by decide)) f175))) (16 * 4 + 2 : Int).toNat (by omega)
          unfold pr at p209
          have r9 := rr_0 (rrP_cg rfl rfl rfl (rrP_cg rfl rfl rfl f178)) ((s177.2.1 69 (by decide)).trans ((s173.2.1 69 (by decide)).trans ((s171.2.1 69 (by decide)).trans ((s168.2.1 69 (by decide)).trans ((s166.2.1 69 (by decide)).trans ((s164.2.1 69 (by decide)).trans e151)))))) (by omega)
          refine r_nv (m_run (As := [.int (iI 2), .int (iI z207), .int (iI z208)]) (rest := []) (n := 3) X Y hZ hA hml hl.1 (r_M_copyField l D E h q H.size I177 J208 B177 G208 2 (by omega) (by omega) z207 (by omega) (by omega) z208 (by omega) (by omega) S.1 z179 e179 (by omega) (by omega) (by omega) (by omega) (by omega) (by omega)) kl_M_copyField ks_M_copyField kx_M_copyField ki_M_copyField ini_M hd_M_copyField ⟨Nat.le_of_ble_eq_true rfl, Nat.le_of_ble_eq_true rfl⟩ rfl (Nat.le_of_ble_eq_true rfl) d_M_part_165 ⟨Nat.le_refl _, Nat.le_refl _⟩) X Y hA S (by decide) (by decide) (fun u H locs Y S s210 p210 => ?_)
          obtain ⟨I210, J210, B210, G210⟩ := u
          dsimp only at Y S s210 p210
          obtain ⟨x210, g210_MF⟩ := p210
          obtain ⟨z211, e211, l211, u211⟩ := x210
          exact J194 z211 I210 J210 B210 G210 _ _ _ (mmF_tr (mmF_cg rfl (mmF_cg rfl (mmF_tr (mmF_tr (mmF_tr (mmF_tr (mmF_tr (mmF_tr f147 g164_MF (by decide)) g166_MF (by decide)) g168_MF (by decide)) g171_MF (by decide)) g173_MF (by decide)) g177_MF (by decide)))) g210_MF (by decide)) (pG1_cg (s210.2.1 39 (by decide)) (s210.2.1 40 (by decide)) (pG1_cg rfl rfl (pG1_cg rfl rfl (pG1_cg (s177.2.1 39 (by decide)) (s177.2.1 40 (by decide)) f174)))) (pG2_cg (s210.2.2 37 (by decide)) (s210.2.2 38 (by decide)) (pG2_cg rfl rfl (pG2_cg rfl rfl (pG2_cg (s177.2.2 37 (by decide)) (s177.2.2 38 (by decide)) f175)))) (rrP_cg (s210.2.1 69 (by decide)) (s210.2.2 37 (by decide)) (s210.2.2 38 (by decide)) (rrP_cg rfl rfl rfl (rrP_cg rfl rfl rfl f178))) ((s210.2.1 69 (by decide)).trans ((s177.2.1 69 (by decide)).trans ((s173.2.1 69 (by decide)).trans ((s171.2.1 69 (by decide)).trans ((s168.2.1 69 (by decide)).trans ((s166.2.1 69 (by decide)).trans ((s164.2.1 69 (by decide)).trans e151))))))) ((s210.2.1 86 (by decide)).trans ((s177.2.1 86 (by decide)).trans ((s173.2.1 86 (by decide)).trans ((s171.2.1 86 (by decide)).trans ((s168.2.1 86 (by decide)).trans ((s166.2.1 86 (by decide)).trans ((s164.2.1 86 (by decide)).trans e152))))))) ((s210.2.1 87 (by decide)).trans ((s177.2.1 87 (by decide)).trans ((s173.2.1 87 (by decide)).trans ((s171.2.1 87 (by decide)).trans ((s168.2.1 87 (by decide)).trans ((s166.2.1 87 (by decide)).trans ((s164.2.1 87 (by decide)).trans e153))))))) ((s210.2.1 88 (by decide)).trans ((s177.2.1 88 (by decide)).trans ((s173.2.1 88 (by decide)).trans ((s171.2.1 88 (by decide)).trans ((s168.2.1 88 (by decide)).trans ((s166.2.1 88 (by decide)).trans ((s164.2.1 88 (by decide)).trans e154))))))) ((s210.2.1 89 (by decide)).trans ((s177.2.1 89 (by decide)).trans ((s173.2.1 89 (by decide)).trans ((s171.2.1 89 (by decide)).trans ((s168.2.1 89 (by decide)).trans ((s166.2.1 89 (by decide)).trans ((s164.2.1 89 (by decide)).trans e155))))))) ((s210.2.1 77 (by decide)).trans ((s177.2.1 77 (by decide)).trans ((s173.2.1 77 (by decide)).trans ((s171.2.1 77 (by decide)).trans ((s168.2.1 77 (by decide)).trans ((s166.2.1 77 (by decide)).trans ((s164.2.1 77 (by decide)).trans e156))))))) e211 (by omega) (by omega) (by omega) (by omega) Y S (lv_sub hl [1] rfl)
        · refine lv_aload_n X.1 X.2.1 d_M_part_140 rfl (lv_at hl 1 rfl) ?_
          refine lv_iconst (v := iI 2) X.1 X.2.1 d_M_part_141 (by decide) ?_
          refine m_ldcSW (i := 2) X (by decide) (by decide) d_M_part_142 ?_
          refine r_nv (m_run (As := [.int (iI 2), .ref ((D.2.1 2))]) (rest := []) (n := 2) X Y hZ hA hml hl.1 (r_M_wordField l D E h q H.size I177 J177 B177 G177 2 (by omega) (by omega) 2 (show 2 < nZ by decide) S.1 z179 e179 (by omega) (by omega)) kl_M_wordField ks_M_wordField kx_M_wordField ki_M_wordField ini_M hd_M_wordField ⟨Nat.le_of_ble_eq_true rfl, Nat.le_of_ble_eq_true rfl⟩ rfl (Nat.le_of_ble_eq_true rfl) d_M_part_145 ⟨Nat.le_refl _, Nat.le_refl _⟩) X Y hA S (by decide) (by decide) (fun u H locs Y S s212 p212 => ?_)
          obtain ⟨I212, J212, B212, G212⟩ := u
          dsimp only at Y S s212 p212
          obtain ⟨x212, g212_MF⟩ := p212
          obtain ⟨z213, e213, l213, u213⟩ := x212
          refine lv_goto (tgt := 168) X.1 X.2.1 d_M_part_148 (by decide) ?_
          exact J194 z213 I212 J212 B212 G212 _ _ _ (mmF_tr (mmF_tr (mmF_tr (mmF_tr (mmF_tr (mmF_tr (mmF_tr f147 g164_MF (by decide)) g166_MF (by decide)) g168_MF (by decide)) g171_MF (by decide)) g173_MF (by decide)) g177_MF (by decide)) g212_MF (by decide)) (pG1_cg (s212.2.1 39 (by decide)) (s212.2.1 40 (by decide)) (pG1_cg (s177.2.1 39 (by decide)) (s177.2.1 40 (by decide)) f174)) (pG2_cg (s212.2.2 37 (by decide)) (s212.2.2 38 (by decide)) (pG2_cg (s177.2.2 37 (by decide)) (s177.2.2 38 (by decide)) f175)) (rrP_cg (s212.2.1 69 (by decide)) (s212.2.2 37 (by decide)) (s212.2.2 38 (by decide)) f178) ((s212.2.1 69 (by decide)).trans ((s177.2.1 69 (by decide)).trans ((s173.2.1 69 (by decide)).trans ((s171.2.1 69 (by decide)).trans ((s168.2.1 69 (by decide)).trans ((s166.2.1 69 (by decide)).trans ((s164.2.1 69 (by decide)).trans e151))))))) ((s212.2.1 86 (by decide)).trans ((s177.2.1 86 (by decide)).trans ((s173.2.1 86 (by decide)).trans ((s171.2.1 86 (by decide)).trans ((s168.2.1 86 (by decide)).trans ((s166.2.1 86 (by decide)).trans ((s164.2.1 86 (by decide)).trans e152))))))) ((s212.2.1 87 (by decide)).trans ((s177.2.1 87 (by decide)).trans ((s173.2.1 87 (by decide)).trans ((s171.2.1 87 (by decide)).trans ((s168.2.1 87 (by decide)).trans ((s166.2.1 87 (by decide)).trans ((s164.2.1 87 (by decide)).trans e153))))))) ((s212.2.1 88 (by decide)).trans ((s177.2.1 88 (by decide)).trans ((s173.2.1 88 (by decide)).trans ((s171.2.1 88 (by decide)).trans ((s168.2.1 88 (by decide)).trans ((s166.2.1 88 (by decide)).trans ((s164.2.1 88 (by decide)).trans e154))))))) ((s212.2.1 89 (by decide)).trans ((s177.2.1 89 (by decide)).trans ((s173.2.1 89 (by decide)).trans ((s171.2.1 89 (by decide)).trans ((s168.2.1 89 (by decide)).trans ((s166.2.1 89 (by decide)).trans ((s164.2.1 89 (by decide)).trans e155))))))) ((s212.2.1 77 (by decide)).trans ((s177.2.1 77 (by decide)).trans ((s173.2.1 77 (by decide)).trans ((s171.2.1 77 (by decide)).trans ((s168.2.1 77 (by decide)).trans ((s166.2.1 77 (by decide)).trans ((s164.2.1 77 (by decide)).trans e156))))))) e213 (by omega) (by omega) (by omega) (by omega) Y S (lv_sub hl [1] rfl)
      refine z_if_eq (tgt := 76) X.1 X.2.1 d_M_part_65 (by decide) ⟨by omega, by omega⟩ (fun h214 => ?_) (fun h214 => ?_)
      · refine lv_aload_n X.1 X.2.1 d_M_part_76 rfl (lv_at hl 0 rfl) ?_
        refine lv_iconst (v := iI 4) X.1 X.2.1 d_M_part_77 (by decide) ?_
        refine lv_iconst (v := iI 5) X.1 X.2.1 d_M_part_78 (by decide) ?_
        refine r_nl (m_run (As := [.int (iI 4), .int (iI 5)]) (rest := [.int (iI 5), .ref h]) (n := 2) X Y hZ hA hml hl.1 (r_M_timeOf l D E h q H.size I143 J143 B143 G143 4 (by omega) (by omega) 5 (by omega) (by omega) S.1 (pG1_cg (s143.2.1 39 (by decide)) (s143.2.1 40 (by decide)) (pG1_cg (s139.2.1 39 (by decide)) (s139.2.1 40 (by decide)) f123)) (pG2_cg (s143.2.2 37 (by decide)) (s143.2.2 38 (by decide)) (pG2_cg (s139.2.2 37 (by decide)) (s139.2.2 38 (by decide)) f124))) kl_M_timeOf ks_M_timeOf kx_M_timeOf ki_M_timeOf ini_M hd_M_timeOf ⟨Nat.le_of_ble_eq_true rfl, Nat.le_of_ble_eq_true rfl⟩ rfl (Nat.le_of_ble_eq_true rfl) d_M_part_79 ⟨Nat.le_refl _, Nat.le_refl _⟩) X Y hA S (by decide) (by decide) (fun v215 u H locs Y S s215 p215 => ?_)
        obtain ⟨I215, J215, B215, G215⟩ := u
        dsimp only at Y S s215 p215
        have b215 : B143 = B215 := (funext (fun j => s215.2.2 j (by simp))).symm
        subst b215
        have g215_P1 := p215
        exact J160 v215 z144 I215 J215 B143 G215 _ _ _ (mmF_cg rfl (mmF_tr (mmF_tr f122 g139_MF (by decide)) g143_MF (by decide))) g215_P1 (pG2_cg rfl rfl (pG2_cg (s143.2.2 37 (by decide)) (s143.2.2 38 (by decide)) (pG2_cg (s139.2.2 37 (by decide)) (s139.2.2 38 (by decide)) f124))) (rrP_cg (s215.2.1 69 (by decide)) rfl rfl (rrP_cg (s143.2.1 69 (by decide)) (s143.2.2 37 (by decide)) (s143.2.2 38 (by decide)) (rrP_cg (s139.2.1 69 (by decide)) (s139.2.2 37 (by decide)) (s139.2.2 38 (by decide)) f125))) ((s215.2.1 69 (by decide)).trans ((s143.2.1 69 (by decide)).trans ((s139.2.1 69 (by decide)).trans e126))) ((s215.2.1 86 (by decide)).trans ((s143.2.1 86 (by decide)).trans ((s139.2.1 86 (by decide)).trans e127))) ((s215.2.1 87 (by decide)).trans ((s143.2.1 87 (by decide)).trans ((s139.2.1 87 (by decide)).trans e128))) ((s215.2.1 88 (by decide)).trans ((s143.2.1 88 (by decide)).trans ((s139.2.1 88 (by decide)).trans e129))) ((s215.2.1 89 (by decide)).trans ((s143.2.1 89 (by decide)).trans ((s139.2.1 89 (by decide)).trans e130))) ((s215.2.1 77 (by decide)).trans ((s143.2.1 77 (by decide)).trans ((s139.2.1 77 (by decide)).trans e131))) ((s215.2.1 42 (by decide)).trans e144) (by omega) (by omega) (by omega) (by omega) Y S (lv_sub hl [0] rfl)
      · refine lv_aload_n X.1 X.2.1 d_M_part_68 rfl (lv_at hl 0 rfl) ?_
        refine r_get0 X Y (by decide) lk_now (gf_now _ _ _) rfl ((s143.2.1 4 (by decide)).trans e141) d_M_part_69 ?_
        refine lv_i2l X.1 X.2.1 d_M_part_72 rfl ?_
        refine t_anyl (fun v216 => ?_)
        refine lv_goto (tgt := 82) X.1 X.2.1 d_M_part_73 (by decide) ?_
        exact J160 v216 z144 I143 J143 B143 G143 _ _ _ (mmF_tr (mmF_tr f122 g139_MF (by decide)) g143_MF (by decide)) (pG1_cg (s143.2.1 39 (by decide)) (s143.2.1 40 (by decide)) (pG1_cg (s139.2.1 39 (by decide)) (s139.2.1 40 (by decide)) f123)) (pG2_cg (s143.2.2 37 (by decide)) (s143.2.2 38 (by decide)) (pG2_cg (s139.2.2 37 (by decide)) (s139.2.2 38 (by decide)) f124)) (rrP_cg (s143.2.1 69 (by decide)) (s143.2.2 37 (by decide)) (s143.2.2 38 (by decide)) (rrP_cg (s139.2.1 69 (by decide)) (s139.2.2 37 (by decide)) (s139.2.2 38 (by decide)) f125)) ((s143.2.1 69 (by decide)).trans ((s139.2.1 69 (by decide)).trans e126)) ((s143.2.1 86 (by decide)).trans ((s139.2.1 86 (by decide)).trans e127)) ((s143.2.1 87 (by decide)).trans ((s139.2.1 87 (by decide)).trans e128)) ((s143.2.1 88 (by decide)).trans ((s139.2.1 88 (by decide)).trans e129)) ((s143.2.1 89 (by decide)).trans ((s139.2.1 89 (by decide)).trans e130)) ((s143.2.1 77 (by decide)).trans ((s139.2.1 77 (by decide)).trans e131)) e144 (by omega) (by omega) (by omega) (by omega) Y S (lv_sub hl [0] rfl)
    refine z_if_eq (tgt := 38) X.1 X.2.1 d_M_part_25 (by decide) ⟨by omega, by omega⟩ (fun h217 => ?_) (fun h217 => ?_)
    · exact J135 z113 I102 J102 B102 G102 _ _ _ f103 f104 f105 f106 e107 e108 e109 e110 e111 e112 e113 (by omega) (by omega) (by omega) (by omega) Y S (lv_sub hl [0] rfl)
    · refine lv_aload_n X.1 X.2.1 d_M_part_28 rfl (lv_at hl 0 rfl) ?_
      refine lv_bipush (v := iI 8) X.1 X.2.1 d_M_part_29 (by decide) ?_
      refine lv_aload_n X.1 X.2.1 d_M_part_31 rfl (lv_at hl 0 rfl) ?_
      refine m_get X Y 83 (by decide) lk_newRenew (gf_newRenew _ _ _) rfl d_M_part_32 ?_
      refine r_nv (m_run (As := [.int (iI 8), .long ((J102 83))]) (rest := []) (n := 2) X Y hZ hA hml hl.1 (r_M_timeField l D E h q H.size I102 J102 B102 G102 8 (by omega) (by omega) ((J102 83)) S.1 z113 e113 (by omega) (by omega)) kl_M_timeField ks_M_timeField kx_M_timeField ki_M_timeField ini_M hd_M_timeField ⟨Nat.le_of_ble_eq_true rfl, Nat.le_of_ble_eq_true rfl⟩ rfl (Nat.le_of_ble_eq_true rfl) d_M_part_35 ⟨Nat.le_refl _, Nat.le_refl _⟩) X Y hA S (by decide) (by decide) (fun u H locs Y S s218 p218 => ?_)
      obtain ⟨I218, J218, B218, G218⟩ := u
      dsimp only at Y S s218 p218
      obtain ⟨x218, g218_MF⟩ := p218
      obtain ⟨z219, e219, l219, u219⟩ := x218
      exact J135 z219 I218 J218 B218 G218 _ _ _ (mmF_tr f103 g218_MF (by decide)) (pG1_cg (s218.2.1 39 (by decide)) (s218.2.1 40 (by decide)) f104) (pG2_cg (s218.2.2 37 (by decide)) (s218.2.2 38 (by decide)) f105) (rrP_cg (s218.2.1 69 (by decide)) (s218.2.2 37 (by decide)) (s218.2.2 38 (by decide)) f106) ((s218.2.1 69 (by decide)).trans e107) ((s218.2.1 86 (by decide)).trans e108) ((s218.2.1 87 (by decide)).trans e109) ((s218.2.1 88 (by decide)).trans e110) ((s218.2.1 89 (by decide)).trans e111) ((s218.2.1 77 (by decide)).trans e112) e219 (by omega) (by omega) (by omega) (by omega) Y S (lv_sub hl [0] rfl)
  refine z_if_eq (tgt := 21) X.1 X.2.1 d_M_part_4 (by decide) ⟨by omega, by omega⟩ (fun h220 => ?_) (fun h220 => ?_)
  · exact J116 wn I J B G _ _ _ mmF_rf f_P1 f_P2 f_RR gia gaa gae gca gce gty gwn (by omega) (by omega) (by omega) (by omega) Y S (lv_sub hl [0] rfl)
  · refine lv_aload_n X.1 X.2.1 d_M_part_7 rfl (lv_at hl 0 rfl) ?_
    refine lv_bipush (v := iI 9) X.1 X.2.1 d_M_part_8 (by decide) ?_
    refine lv_aload_n X.1 X.2.1 d_M_part_10 rfl (lv_at hl 0 rfl) ?_
    refine r_get0 X Y (by decide) lk_addressAt (gf_addressAt _ _ _) rfl gaa d_M_part_11 ?_
    refine lv_aload_n X.1 X.2.1 d_M_part_14 rfl (lv_at hl 0 rfl) ?_
    refine r_get0 X Y (by decide) lk_addressEnd (gf_addressEnd _ _ _) rfl gae d_M_part_15 ?_
    refine r_nv (m_run (As := [.int (iI 9), .int (iI aa), .int (iI ae)]) (rest := []) (n := 3) X Y hZ hA hml hl.1 (r_M_copyField l D E h q H.size I J B G 9 (by omega) (by omega) aa (by omega) (by omega) ae (by omega) (by omega) S.1 wn gwn (by omega) (by omega) (by omega) (by omega) (by omega) (by omega)) kl_M_copyField ks_M_copyField kx_M_copyField ki_M_copyField ini_M hd_M_copyField ⟨Nat.le_of_ble_eq_true rfl, Nat.le_of_ble_eq_true rfl⟩ rfl (Nat.le_of_ble_eq_true rfl) d_M_part_18 ⟨Nat.le_refl _, Nat.le_refl _⟩) X Y hA S (by decide) (by decide) (fun u H locs Y S s221 p221 => ?_)
    obtain ⟨I221, J221, B221, G221⟩ := u
    dsimp only at Y S s221 p221
    obtain ⟨x221, g221_MF⟩ := p221
    obtain ⟨z222, e222, l222, u222⟩ := x221
    exact J116 z222 I221 J221 B221 G221 _ _ _ (mmF_tr mmF_rf g221_MF (by decide)) (pG1_cg (s221.2.1 39 (by decide)) (s221.2.1 40 (by decide)) f_P1) (pG2_cg (s221.2.2 37 (by decide)) (s221.2.2 38 (by decide)) f_P2) (rrP_cg (s221.2.1 69 (by decide)) (s221.2.2 37 (by decide)) (s221.2.2 38 (by decide)) f_RR) ((s221.2.1 69 (by decide)).trans gia) ((s221.2.1 86 (by decide)).trans gaa) ((s221.2.1 87 (by decide)).trans gae) ((s221.2.1 88 (by decide)).trans gca) ((s221.2.1 89 (by decide)).trans gce) ((s221.2.1 77 (by decide)).trans gty) e222 (by omega) (by omega) (by omega) (by omega) Y S (lv_sub hl [0] rfl)
