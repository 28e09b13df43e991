set_option maxHeartbeats 4000000 in
set_option maxRecDepth 100000 in
theorem r_M_isParts_agentNames (l : Launch) (D : mD) (E : mE) (h : Nat) (q : Nat → Nat) (sz : Nat) (I : Nat → Int32) (J : Nat → Int64) (B : Nat → Nat → Int32) (G : Nat → Nat → Int64) (a1 : Int) (l_a1 : (-1) ≤ a1) (u_a1 : a1 ≤ 30000) (a2 : Int) (l_a2 : (-1) ≤ a2) (u_a2 : a2 ≤ 30000) (a4 : Int) (l_a4 : 0 ≤ a4) (u_a4 : a4 ≤ 120) (a5 : Int) (l_a5 : 0 ≤ a5) (u_a5 : a5 ≤ 33) (hT : rT I B) (f_P1 : pG1 I) (f_P2 : pG2 (B 37) (B 38)) (q0 : 0 ≤ a1 ∨ a2 < a1 + 2) (q1 : a2 - a1 ≤ 4200) : Met l y_M_isParts (k_M_isParts :: lw_tg) (mR 44 2014) (va_Pc [.ref h, .int (iI a1), .int (iI a2), .ref (q 92), .int (iI a4), .int (iI a5)] (mPre D E h q (I, J, B, G) sz)) (va_Qi (rPi [39, 40, 42] [0, 37, 38] I B (fun (z : Int) (u : mS) => 0 ≤ z ∧ z ≤ 1 ∧ (z = 0 ∨ (NP (B 0) a1 a2 → a2 - npI (B 0) a1 a2 ≤ 200)) ∧ pG1 u.1 ∧ pG2 (u.2.2.1 37) (u.2.2.1 38) ∧ thF [11] (B 37) (B 38) (u.2.2.1 37) (u.2.2.1 38) ∧ mmF 30000 60000 (B 0) (u.2.2.1 0))) (mPost D E h q (mA E h q sz)) (mA E h q sz)) 0 0 (mA E h q sz) := by
  refine m_enter (by decide) rfl (Nat.le_of_ble_eq_true rfl) (fun p e s m below meth c ls AV QQ H locs hQQ X Y hZ hA hr hlk hml hl => ?_)
  have Y : mH D E (mA E h q sz) s.heap h q I J B G H locs := Y
  have S : rS [39, 40, 42] [0, 37, 38] I B I B := rS_rf hT
  have hl : lv_has ls 8 [(0, .ref h), (1, .int (iI a1)), (2, .int (iI a2)), (3, .ref ((q 92))), (4, .int (iI a4)), (5, .int (iI a5))] := hl
  refine lv_aload_n X.1 X.2.1 d_M_isParts_0 rfl (lv_at hl 0 rfl) ?_
  refine lv_iload_n X.1 X.2.1 d_M_isParts_1 rfl (lv_at hl 1 rfl) ?_
  refine lv_iload_n X.1 X.2.1 d_M_isParts_2 rfl (lv_at hl 2 rfl) ?_
  refine r_ni (m_run (As := [.int (iI a1), .int (iI a2)]) (rest := []) (n := 2) X Y hZ hA hml hl.1 (r_M_partsAt l D E h q H.size I J B G a1 (by omega) (by omega) a2 (by omega) (by omega) S.1 f_P1 f_P2 (by omega) (by omega)) kl_M_partsAt ks_M_partsAt kx_M_partsAt ki_M_partsAt ini_M hd_M_partsAt ⟨Nat.le_of_ble_eq_true rfl, Nat.le_of_ble_eq_true rfl⟩ rfl (Nat.le_of_ble_eq_true rfl) d_M_isParts_3 ⟨Nat.le_refl _, Nat.le_refl _⟩) X Y hA S (by decide) (by decide) (fun z101 u H locs Y S s101 p101 => ?_)
  obtain ⟨I101, J101, B101, G101⟩ := u
  dsimp only at Y S s101 p101
  obtain ⟨l101, u101, x101, st101, g101_P1, g101_P2, g101_TF⟩ := p101
  refine lv_istore (lv' := [(6, .int (iI z101)), (0, .ref h), (1, .int (iI a1)), (2, .int (iI a2)), (3, .ref ((q 92))), (4, .int (iI a4)), (5, .int (iI a5))]) X.1 X.2.1 d_M_isParts_6 hl (by decide) rfl (fun ls hl => ?_)
  refine lv_aload_n X.1 X.2.1 d_M_isParts_8 rfl (lv_at hl 1 rfl) ?_
  refine lv_bipush (v := iI 11) X.1 X.2.1 d_M_isParts_9 (by decide) ?_
  refine lv_iconst (v := iI 1) X.1 X.2.1 d_M_isParts_11 (by decide) ?_
  refine r_ni (m_run (As := [.int (iI 11), .int (iI 1)]) (rest := []) (n := 2) X Y hZ hA hml hl.1 (r_M_b l D E h q H.size I101 J101 B101 G101 11 (by decide) (by decide) 1 (by decide) (by decide) S.1) kl_M_b ks_M_b kx_M_b ki_M_b ini_M hd_M_b ⟨Nat.le_of_ble_eq_true rfl, Nat.le_of_ble_eq_true rfl⟩ rfl (Nat.le_of_ble_eq_true rfl) d_M_isParts_12 ⟨Nat.le_refl _, Nat.le_refl _⟩) X Y hA S (by decide) (by decide) (fun z102 u H locs Y S s102 p102 => ?_)
  obtain ⟨I102, J102, B102, G102⟩ := u
  dsimp only at Y S s102 p102
  have i102 : I101 = I102 := (funext (fun j => s102.2.1 j (by simp))).symm
  subst i102
  have b102 : B101 = B102 := (funext (fun j => s102.2.2 j (by simp))).symm
  subst b102
  obtain ⟨l102, u102, x102⟩ := p102
  have p103 : pr z101 z102 := by rw [x101, x102]; exact (pG2_cg rfl rfl g101_P2) (16 * 11 + 1 : Int).toNat (by omega)
  unfold pr at p103
  refine lv_istore (lv' := [(7, .int (iI z102)), (6, .int (iI z101)), (0, .ref h), (1, .int (iI a1)), (2, .int (iI a2)), (3, .ref ((q 92))), (4, .int (iI a4)), (5, .int (iI a5))]) X.1 X.2.1 d_M_isParts_15 hl (by decide) rfl (fun ls hl => ?_)
  refine lv_aload_n X.1 X.2.1 d_M_isParts_17 rfl (lv_at hl 2 rfl) ?_
  refine r_nv (m_run (As := []) (rest := []) (n := 0) X Y hZ hA hml hl.1 (r_M_start l D E h q H.size I101 J102 B101 G102 S.1) kl_M_start ks_M_start kx_M_start ki_M_start ini_M hd_M_start ⟨Nat.le_of_ble_eq_true rfl, Nat.le_of_ble_eq_true rfl⟩ rfl (Nat.le_of_ble_eq_true rfl) d_M_isParts_18 ⟨Nat.le_refl _, Nat.le_refl _⟩) X Y hA S (by decide) (by decide) (fun u H locs Y S s104 p104 => ?_)
  obtain ⟨I104, J104, B104, G104⟩ := u
  dsimp only at Y S s104 p104
  have b104 : B101 = B104 := (funext (fun j => s104.2.2 j (by simp))).symm
  subst b104
  have x104 := p104
  refine lv_aload_n X.1 X.2.1 d_M_isParts_21 rfl (lv_at hl 2 rfl) ?_
  refine lv_aload_n X.1 X.2.1 d_M_isParts_22 rfl (lv_at hl 5 rfl) ?_
  refine lv_iload X.1 X.2.1 d_M_isParts_23 (lv_at hl 6 rfl) ?_
  refine lv_iload X.1 X.2.1 d_M_isParts_25 (lv_at hl 7 rfl) ?_
  refine r_nv (m_run (As := [.ref ((q 92)), .int (iI a4), .int (iI a5)]) (rest := []) (n := 3) X Y hZ hA hml hl.1 (r_M_putParts_agentNames l D E h q H.size I104 J104 B101 G104 a4 (by omega) (by omega) a5 (by omega) (by omega) S.1 60000 (x104.trans (congrArg iI (show (60000 : Int) = 60000 by omega))) (by omega) (by omega)) kl_M_putParts ks_M_putParts kx_M_putParts ki_M_putParts ini_M hd_M_putParts ⟨Nat.le_of_ble_eq_true rfl, Nat.le_of_ble_eq_true rfl⟩ rfl (Nat.le_of_ble_eq_true rfl) d_M_isParts_27 ⟨Nat.le_refl _, Nat.le_refl _⟩) X Y hA S (by decide) (by decide) (fun u H locs Y S s105 p105 => ?_)
  obtain ⟨I105, J105, B105, G105⟩ := u
  dsimp only at Y S s105 p105
  obtain ⟨x105, g105_MF⟩ := p105
  obtain ⟨z106, e106, l106, u106⟩ := x105
  refine lv_aload_n X.1 X.2.1 d_M_isParts_30 rfl (lv_at hl 2 rfl) ?_
  refine lv_bipush (v := iI 48) X.1 X.2.1 d_M_isParts_31 (by decide) ?_
  refine lv_ldc (v := (60000)) X.1 X.2.1 X.2.2.2.1 (X.2.2.1 _ cn_M_9) d_M_isParts_33 ?_
  refine t_eq (y := iI 60000) (by decide) ?_
  refine r_nv (m_run (As := [.int (iI 48), .int (iI 60000)]) (rest := []) (n := 2) X Y hZ hA hml hl.1 (r_M_head l D E h q H.size I105 J105 B105 G105 48 (by decide) (by decide) 60000 (by decide) (by decide) S.1 z106 e106 (by omega) (by omega)) kl_M_head ks_M_head kx_M_head ki_M_head ini_M hd_M_head ⟨Nat.le_of_ble_eq_true rfl, Nat.le_of_ble_eq_true rfl⟩ rfl (Nat.le_of_ble_eq_true rfl) d_M_isParts_35 ⟨Nat.le_refl _, Nat.le_refl _⟩) X Y hA S (by decide) (by decide) (fun u H locs Y S s107 p107 => ?_)
  obtain ⟨I107, J107, B107, G107⟩ := u
  dsimp only at Y S s107 p107
  obtain ⟨x107, g107_MF⟩ := p107
  obtain ⟨z108, e108, l108, u108⟩ := x107
  refine lv_aload_n X.1 X.2.1 d_M_isParts_38 rfl (lv_at hl 2 rfl) ?_
  refine lv_iload X.1 X.2.1 d_M_isParts_39 (lv_at hl 1 rfl) ?_
  refine lv_iload X.1 X.2.1 d_M_isParts_41 (lv_at hl 0 rfl) ?_
  refine lv_aload_n X.1 X.2.1 d_M_isParts_43 rfl (lv_at hl 2 rfl) ?_
  refine r_get0 X Y (by decide) lk_w0 (gf_w0 _ _ _) rfl e108 d_M_isParts_44 ?_
  refine lv_ldc (v := (60000)) X.1 X.2.1 X.2.2.2.1 (X.2.2.1 _ cn_M_9) d_M_isParts_47 ?_
  refine t_eq (y := iI 60000) (by decide) ?_
  refine r_ni (m_run (As := [.int (iI z101), .int (iI z102), .int (iI z108), .int (iI 60000)]) (rest := []) (n := 4) X Y hZ hA hml hl.1 (r_M_isSame l D E h q H.size I107 J107 B107 G107 z101 (by omega) (by omega) z102 (by omega) (by omega) z108 (by omega) (by omega) 60000 (by decide) (by decide) S.1 (by omega) (by omega)) kl_M_isSame ks_M_isSame kx_M_isSame ki_M_isSame ini_M hd_M_isSame ⟨Nat.le_of_ble_eq_true rfl, Nat.le_of_ble_eq_true rfl⟩ rfl (Nat.le_of_ble_eq_true rfl) d_M_isParts_49 ⟨Nat.le_refl _, Nat.le_refl _⟩) X Y hA S (by decide) (by decide) (fun z109 u H locs Y S s109 p109 => ?_)
  obtain ⟨I109, J109, B109, G109⟩ := u
  dsimp only at Y S s109 p109
  have i109 : I107 = I109 := (funext (fun j => s109.2.1 j (by simp))).symm
  subst i109
  have b109 : B107 = B109 := (funext (fun j => s109.2.2 j (by simp))).symm
  subst b109
  obtain ⟨l109, u109, x109⟩ := p109
  exact m_retz hQQ X Y hr hlk (iI_bool (by omega) (by omega)).1 ⟨S, z109, rfl, ⟨by omega, by omega, by rcases x109 with e | e; (exact .inl e); (refine .inr (fun h9 => ?_); have k1 := st101 h9; omega), (pG1_cg rfl rfl (pG1_cg (s107.2.1 39 (by decide)) (s107.2.1 40 (by decide)) (pG1_cg (s105.2.1 39 (by decide)) (s105.2.1 40 (by decide)) (pG1_cg (s104.2.1 39 (by decide)) (s104.2.1 40 (by decide)) (pG1_cg rfl rfl g101_P1))))), (pG2_cg rfl rfl (pG2_cg (s107.2.2 37 (by decide)) (s107.2.2 38 (by decide)) (pG2_cg (s105.2.2 37 (by decide)) (s105.2.2 38 (by decide)) (pG2_cg rfl rfl (pG2_cg rfl rfl g101_P2))))), (thF_cg rfl rfl (thF_cg (s107.2.2 37 (by decide)) (s107.2.2 38 (by decide)) (thF_cg (s105.2.2 37 (by decide)) (s105.2.2 38 (by decide)) (thF_cg rfl rfl (thF_cg rfl rfl (thF_tr thF_rf g101_TF (by decide))))))), (mmF_cg rfl (mmF_tr (mmF_tr (mmF_cg rfl (mmF_cg rfl (mmF_cg (s101.2.2 0 (by decide)) mmF_rf))) g105_MF (by decide)) g107_MF (by decide)))⟩⟩ d_M_isParts_52
set_option maxHeartbeats 4000000 in
set_option maxRecDepth 100000 in
theorem r_M_isParts_askedNames (l : Launch) (D : mD) (E : mE) (h : Nat) (q : Nat → Nat) (sz : Nat) (I : Nat → Int32) (J : Nat → Int64) (B : Nat → Nat → Int32) (G : Nat → Nat → Int64) (a1 : Int) (l_a1 : (-1) ≤ a1) (u_a1 : a1 ≤ 30000) (a2 : Int) (l_a2 : (-1) ≤ a2) (u_a2 : a2 ≤ 30000) (a4 : Int) (l_a4 : 0 ≤ a4) (u_a4 : a4 ≤ 120) (a5 : Int) (l_a5 : 0 ≤ a5) (u_a5 : a5 ≤ 33) (hT : rT I B) (f_P1 : pG1 I) (f_P2 : pG2 (B 37) (B 38)) (q0 : 0 ≤ a1 ∨ a2 < a1 + 2) (q1 : a2 - a1 ≤ 4200) : Met l y_M_isParts (k_M_isParts :: lw_tg) (mR 44 2014) (va_Pc [.ref h, .int (iI a1), .int (iI a2), .ref (q 117), .int (iI a4), .int (iI a5)] (mPre D E h q (I, J, B, G) sz)) (va_Qi (rPi [39, 40, 42] [0, 37, 38] I B (fun (z : Int) (u : mS) => 0 ≤ z ∧ z ≤ 1 ∧ (z = 0 ∨ (NP (B 0) a1 a2 → a2 - npI (B 0) a1 a2 ≤ 200)) ∧ pG1 u.1 ∧ pG2 (u.2.2.1 37) (u.2.2.1 38) ∧ thF [11] (B 37) (B 38) (u.2.2.1 37) (u.2.2.1 38) ∧ mmF 30000 60000 (B 0) (u.2.2.1 0))) (mPost D E h q (mA E h q sz)) (mA E h q sz)) 0 0 (mA E h q sz) := by
  refine m_enter (by decide) rfl (Nat.le_of_ble_eq_true rfl) (fun p e s m below meth c ls AV QQ H locs hQQ X Y hZ hA hr hlk hml hl => ?_)
  have Y : mH D E (mA E h q sz) s.heap h q I J B G H locs := Y
  have S : rS [39, 40, 42] [0, 37, 38] I B I B := rS_rf hT
  have hl : lv_has ls 8 [(0, .ref h), (1, .int (iI a1)), (2, .int (iI a2)), (3, .ref ((q 117))), (4, .int (iI a4)), (5, .int (iI a5))] := hl
  refine lv_aload_n X.1 X.2.1 d_M_isParts_0 rfl (lv_at hl 0 rfl) ?_
  refine lv_iload_n X.1 X.2.1 d_M_isParts_1 rfl (lv_at hl 1 rfl) ?_
  refine lv_iload_n X.1 X.2.1 d_M_isParts_2 rfl (lv_at hl 2 rfl) ?_
  refine r_ni (m_run (As := [.int (iI a1), .int (iI a2)]) (rest := []) (n := 2) X Y hZ hA hml hl.1 (r_M_partsAt l D E h q H.size I J B G a1 (by omega) (by omega) a2 (by omega) (by omega) S.1 f_P1 f_P2 (by omega) (by omega)) kl_M_partsAt ks_M_partsAt kx_M_partsAt ki_M_partsAt ini_M hd_M_partsAt ⟨Nat.le_of_ble_eq_true rfl, Nat.le_of_ble_eq_true rfl⟩ rfl (Nat.le_of_ble_eq_true rfl) d_M_isParts_3 ⟨Nat.le_refl _, Nat.le_refl _⟩) X Y hA S (by decide) (by decide) (fun z101 u H locs Y S s101 p101 => ?_)
  obtain ⟨I101, J101, B101, G101⟩ := u
  dsimp only at Y S s101 p101
  obtain ⟨l101, u101, x101, st101, g101_P1, g101_P2, g101_TF⟩ := p101
  refine lv_istore (lv' := [(6, .int (iI z101)), (0, .ref h), (1, .int (iI a1)), (2, .int (iI a2)), (3, .ref ((q 117))), (4, .int (iI a4)), (5, .int (iI a5))]) X.1 X.2.1 d_M_isParts_6 hl (by decide) rfl (fun ls hl => ?_)
  refine lv_aload_n X.1 X.2.1 d_M_isParts_8 rfl (lv_at hl 1 rfl) ?_
  refine lv_bipush (v := iI 11) X.1 X.2.1 d_M_isParts_9 (by decide) ?_
  refine lv_iconst (v := iI 1) X.1 X.2.1 d_M_isParts_11 (by decide) ?_
  refine r_ni (m_run (As := [.int (iI 11), .int (iI 1)]) (rest := []) (n := 2) X Y hZ hA hml hl.1 (r_M_b l D E h q H.size I101 J101 B101 G101 11 (by decide) (by decide) 1 (by decide) (by decide) S.1) kl_M_b ks_M_b kx_M_b ki_M_b ini_M hd_M_b ⟨Nat.le_of_ble_eq_true rfl, Nat.le_of_ble_eq_true rfl⟩ rfl (Nat.le_of_ble_eq_true rfl) d_M_isParts_12 ⟨Nat.le_refl _, Nat.le_refl _⟩) X Y hA S (by decide) (by decide) (fun z102 u H locs Y S s102 p102 => ?_)
  obtain ⟨I102, J102, B102, G102⟩ := u
  dsimp only at Y S s102 p102
  have i102 : I101 = I102 := (funext (fun j => s102.2.1 j (by simp))).symm
  subst i102
  have b102 : B101 = B102 := (funext (fun j => s102.2.2 j (by simp))).symm
  subst b102
  obtain ⟨l102, u102, x102⟩ := p102
  have p103 : pr z101 z102 := by rw [x101, x102]; exact (pG2_cg rfl rfl g101_P2) (16 * 11 + 1 : Int).toNat (by omega)
  unfold pr at p103
  refine lv_istore (lv' := [(7, .int (iI z102)), (6, .int (iI z101)), (0, .ref h), (1, .int (iI a1)), (2, .int (iI a2)), (3, .ref ((q 117))), (4, .int (iI a4)), (5, .int (iI a5))]) X.1 X.2.1 d_M_isParts_15 hl (by decide) rfl (fun ls hl => ?_)
  refine lv_aload_n X.1 X.2.1 d_M_isParts_17 rfl (lv_at hl 2 rfl) ?_
  refine r_nv (m_run (As := []) (rest := []) (n := 0) X Y hZ hA hml hl.1 (r_M_start l D E h q H.size I101 J102 B101 G102 S.1) kl_M_start ks_M_start kx_M_start ki_M_start ini_M hd_M_start ⟨Nat.le_of_ble_eq_true rfl, Nat.le_of_ble_eq_true rfl⟩ rfl (Nat.le_of_ble_eq_true rfl) d_M_isParts_18 ⟨Nat.le_refl _, Nat.le_refl _⟩) X Y hA S (by decide) (by decide) (fun u H locs Y S s104 p104 => ?_)
  obtain ⟨I104, J104, B104, G104⟩ := u
  dsimp only at Y S s104 p104
  have b104 : B101 = B104 := (funext (fun j => s104.2.2 j (by simp))).symm
  subst b104
  have x104 := p104
  refine lv_aload_n X.1 X.2.1 d_M_isParts_21 rfl (lv_at hl 2 rfl) ?_
  refine lv_aload_n X.1 X.2.1 d_M_isParts_22 rfl (lv_at hl 5 rfl) ?_
  refine lv_iload X.1 X.2.1 d_M_isParts_23 (lv_at hl 6 rfl) ?_
  refine lv_iload X.1 X.2.1 d_M_isParts_25 (lv_at hl 7 rfl) ?_
  refine r_nv (m_run (As := [.ref ((q 117)), .int (iI a4), .int (iI a5)]) (rest := []) (n := 3) X Y hZ hA hml hl.1 (r_M_putParts_askedNames l D E h q H.size I104 J104 B101 G104 a4 (by omega) (by omega) a5 (by omega) (by omega) S.1 60000 (x104.trans (congrArg iI (show (60000 : Int) = 60000 by omega))) (by omega) (by omega)) kl_M_putParts ks_M_putParts kx_M_putParts ki_M_putParts ini_M hd_M_putParts ⟨Nat.le_of_ble_eq_true rfl, Nat.le_of_ble_eq_true rfl⟩ rfl (Nat.le_of_ble_eq_true rfl) d_M_isParts_27 ⟨Nat.le_refl _, Nat.le_refl _⟩) X Y hA S (by decide) (by decide) (fun u H locs Y S s105 p105 => ?_)
  obtain ⟨I105, J105, B105, G105⟩ := u
  dsimp only at Y S s105 p105
  obtain ⟨x105, g105_MF⟩ := p105
  obtain ⟨z106, e106, l106, u106⟩ := x105
  refine lv_aload_n X.1 X.2.1 d_M_isParts_30 rfl (lv_at hl 2 rfl) ?_
  refine lv_bipush (v := iI 48) X.1 X.2.1 d_M_isParts_31 (by decide) ?_
  refine lv_ldc (v := (60000)) X.1 X.2.1 X.2.2.2.1 (X.2.2.1 _ cn_M_9) d_M_isParts_33 ?_
  refine t_eq (y := iI 60000) (by decide) ?_
  refine r_nv (m_run (As := [.int (iI 48), .int (iI 60000)]) (rest := []) (n := 2) X Y hZ hA hml hl.1 (r_M_head l D E h q H.size I105 J105 B105 G105 48 (by decide) (by decide) 60000 (by decide) (by decide) S.1 z106 e106 (by omega) (by omega)) kl_M_head ks_M_head kx_M_head ki_M_head ini_M hd_M_head ⟨Nat.le_of_ble_eq_true rfl, Nat.le_of_ble_eq_true rfl⟩ rfl (Nat.le_of_ble_eq_true rfl) d_M_isParts_35 ⟨Nat.le_refl _, Nat.le_refl _⟩) X Y hA S (by decide) (by decide) (fun u H locs Y S s107 p107 => ?_)
  obtain ⟨I107, J107, B107, G107⟩ := u
  dsimp only at Y S s107 p107
  obtain ⟨x107, g107_MF⟩ := p107
  obtain ⟨z108, e108, l108, u108⟩ := x107
  refine lv_aload_n X.1 X.2.1 d_M_isParts_38 rfl (lv_at hl 2 rfl) ?_
  refine lv_iload X.1 X.2.1 d_M_isParts_39 (lv_at hl 1 rfl) ?_
  refine lv_iload X.1 X.2.1 d_M_isParts_41 (lv_at hl 0 rfl) ?_
  refine lv_aload_n X.1 X.2.1 d_M_isParts_43 rfl (lv_at hl 2 rfl) ?_
  refine r_get0 X Y (by decide) lk_w0 (gf_w0 _ _ _) rfl e108 d_M_isParts_44 ?_
  refine lv_ldc (v := (60000)) X.1 X.2.1 X.2.2.2.1 (X.2.2.1 _ cn_M_9) d_M_isParts_47 ?_
  refine t_eq (y := iI 60000) (by decide) ?_
  refine r_ni (m_run (As := [.int (iI z101), .int (iI z102), .int (iI z108), .int (iI 60000)]) (rest := []) (n := 4) X Y hZ hA hml hl.1 (r_M_isSame l D E h q H.size I107 J107 B107 G107 z101 (by omega) (by omega) z102 (by omega) (by omega) z108 (by omega) (by omega) 60000 (by decide) (by decide) S.1 (by omega) (by omega)) kl_M_isSame ks_M_isSame kx_M_isSame ki_M_isSame ini_M hd_M_isSame ⟨Nat.le_of_ble_eq_true rfl, Nat.le_of_ble_eq_true rfl⟩ rfl (Nat.le_of_ble_eq_true rfl) d_M_isParts_49 ⟨Nat.le_refl _, Nat.le_refl _⟩) X Y hA S (by decide) (by decide) (fun z109 u H locs Y S s109 p109 => ?_)
  obtain ⟨I109, J109, B109, G109⟩ := u
  dsimp only at Y S s109 p109
  have i109 : I107 = I109 := (funext (fun j => s109.2.1 j (by simp))).symm
  subst i109
  have b109 : B107 = B109 := (funext (fun j => s109.2.2 j (by simp))).symm
  subst b109
  obtain ⟨l109, u109, x109⟩ := p109
  exact m_retz hQQ X Y hr hlk (iI_bool (by omega) (by omega)).1 ⟨S, z109, rfl, ⟨by omega, by omega, by rcases x109 with e | e; (exact .inl e); (refine .inr (fun h9 => ?_); have k1 := st101 h9; omega), (pG1_cg rfl rfl (pG1_cg (s107.2.1 39 (by decide)) (s107.2.1 40 (by decide)) (pG1_cg (s105.2.1 39 (by decide)) (s105.2.1 40 (by decide)) (pG1_cg (s104.2.1 39 (by decide)) (s104.2.1 40 (by decide)) (pG1_cg rfl rfl g101_P1))))), (pG2_cg rfl rfl (pG2_cg (s107.2.2 37 (by decide)) (s107.2.2 38 (by decide)) (pG2_cg (s105.2.2 37 (by decide)) (s105.2.2 38 (by decide)) (pG2_cg rfl rfl (pG2_cg rfl rfl g101_P2))))), (thF_cg rfl rfl (thF_cg (s107.2.2 37 (by decide)) (s107.2.2 38 (by decide)) (thF_cg (s105.2.2 37 (by decide)) (s105.2.2 38 (by decide)) (thF_cg rfl rfl (thF_cg rfl rfl (thF_tr thF_rf g101_TF (by decide))))))), (mmF_cg rfl (mmF_tr (mmF_tr (mmF_cg rfl (mmF_cg rfl (mmF_cg (s101.2.2 0 (by decide)) mmF_rf))) g105_MF (by decide)) g107_MF (by decide)))⟩⟩ d_M_isParts_52
set_option maxHeartbeats 4000000 in
set_option maxRecDepth 100000 in
theorem r_M_drop (l : Launch) (D : mD) (E : mE) (h : Nat) (q : Nat → Nat) (sz : Nat) (I : Nat → Int32) (J : Nat → Int64) (B : Nat → Nat → Int32) (G : Nat → Nat → Int64) (a1 : Int) (l_a1 : (-2147483648) ≤ a1) (u_a1 : a1 ≤ 2147483647) (a2 : Int) (l_a2 : (-2147483648) ≤ a2) (u_a2 : a2 ≤ 2147483647) (hT : rT I B) (f_FT : stT (B 97) (B 98) (B 100) (B 107) (B 108) (B 109)) : Met l y_M_drop (k_M_drop :: lw_tg) (mR 3 103) (va_Pc [.ref h, .int (iI a1), .int (iI a2)] (mPre D E h q (I, J, B, G) sz)) (va_Qi (rPi [] [97] I B (fun (z : Int) (u : mS) => 0 ≤ z ∧ z ≤ 1 ∧ stT (u.2.2.1 97) (u.2.2.1 98) (u.2.2.1 100) (u.2.2.1 107) (u.2.2.1 108) (u.2.2.1 109))) (mPost D E h q (mA E h q sz)) (mA E h q sz)) 0 0 (mA E h q sz) := by
  refine m_enter (by decide) rfl (Nat.le_of_ble_eq_true rfl) (fun p e s m below meth c ls AV QQ H locs hQQ X Y hZ hA hr hlk hml hl => ?_)
  have Y : mH D E (mA E h q sz) s.heap h q I J B G H locs := Y
  have S : rS [] [97] I B I B := rS_rf hT
  have hl : lv_has ls 3 [(0, .ref h), (1, .int (iI a1)), (2, .int (iI a2))] := hl
  refine lv_aload_n X.1 X.2.1 d_M_drop_0 rfl (lv_at hl 0 rfl) ?_
  refine lv_iload_n X.1 X.2.1 d_M_drop_1 rfl (lv_at hl 1 rfl) ?_
  refine lv_iload_n X.1 X.2.1 d_M_drop_2 rfl (lv_at hl 2 rfl) ?_
  refine r_ni (m_run (As := [.int (iI a1), .int (iI a2)]) (rest := []) (n := 2) X Y hZ hA hml hl.1 (r_M_hasTicket l D E h q H.size I J B G a1 (by omega) (by omega) a2 (by omega) (by omega) S.1) kl_M_hasTicket ks_M_hasTicket kx_M_hasTicket ki_M_hasTicket ini_M hd_M_hasTicket ⟨Nat.le_of_ble_eq_true rfl, Nat.le_of_ble_eq_true rfl⟩ rfl (Nat.le_of_ble_eq_true rfl) d_M_drop_3 ⟨Nat.le_refl _, Nat.le_refl _⟩) X Y hA S (by decide) (by decide) (fun z101 u H locs Y S s101 p101 => ?_)
  obtain ⟨I101, J101, B101, G101⟩ := u
  dsimp only at Y S s101 p101
  have i101 : I = I101 := (funext (fun j => s101.2.1 j (by simp))).symm
  subst i101
  have b101 : B = B101 := (funext (fun j => s101.2.2 j (by simp))).symm
  subst b101
  obtain ⟨l101, u101, x101, st101⟩ := p101
  refine z_if_ne (tgt := 11) X.1 X.2.1 d_M_drop_6 (by decide) ⟨by omega, by omega⟩ (fun h102 => ?_) (fun h102 => ?_)
  · refine lv_aload_n X.1 X.2.1 d_M_drop_11 rfl (lv_at hl 0 rfl) ?_
    refine m_get X Y 97 (by decide) lk_isTicket (gf_isTicket _ _ _) rfl d_M_drop_12 ?_
    refine lv_bipush (v := iI 8) X.1 X.2.1 d_M_drop_15 (by decide) ?_
    refine lv_iload_n X.1 X.2.1 d_M_drop_17 rfl (lv_at hl 1 rfl) ?_
    refine z_imul X.1 X.2.1 d_M_drop_18 ?_
    refine lv_iload_n X.1 X.2.1 d_M_drop_19 rfl (lv_at hl 2 rfl) ?_
    refine z_iadd X.1 X.2.1 d_M_drop_20 ?_
    refine lv_iconst (v := iI 0) X.1 X.2.1 d_M_drop_21 (by decide) ?_
    refine r_zast X Y S (aw_isTicket _ _ _ _ _ _ _) (sw_isTicket _ _ _ _ _ _ _) rfl ⟨by omega, by omega⟩ (by omega) (show (8 * a1) + a2 < ((32 : Nat) : Int) by omega) (by omega) (by decide) d_M_drop_22 (fun B103 H locs Y S w103 => ?_)
    have f104 : stT (B103 97) (B103 98) (B103 100) (B103 107) (B103 108) (B103 109) := by rw [w103.1, w103.2 98 (by decide), w103.2 100 (by decide), w103.2 107 (by decide), w103.2 108 (by decide), w103.2 109 (by decide)]; exact stT_off (by decide) (stT_cg rfl rfl rfl rfl rfl rfl f_FT)
    refine lv_iconst (v := iI 1) X.1 X.2.1 d_M_drop_23 (by decide) ?_
    exact m_retz hQQ X Y hr hlk (iI_bool (by omega) (by omega)).1 ⟨S, 1, rfl, ⟨by omega, by omega, f104⟩⟩ d_M_drop_24
  · refine lv_iconst (v := iI 0) X.1 X.2.1 d_M_drop_9 (by decide) ?_
    exact m_retz hQQ X Y hr hlk (iI_bool (by omega) (by omega)).1 ⟨S, 0, rfl, ⟨by omega, by omega, (stT_cg rfl rfl rfl rfl rfl rfl f_FT)⟩⟩ d_M_drop_10
set_option maxHeartbeats 40000000 in
set_option maxRecDepth 100000 in
theorem r_M_agent (l : Launch) (D : mD) (E : mE) (h : Nat) (q : Nat → Nat) (sz : Nat) (I : Nat → Int32) (J : Nat → Int64) (B : Nat → Nat → Int32) (G : Nat → Nat → Int64) (a1 : Int) (l_a1 : (-2147483648) ≤ a1) (u_a1 : a1 ≤ 2147483647) (a2 : Int) (l_a2 : (-2147483648) ≤ a2) (u_a2 : a2 ≤ 2147483647) (hT : rT I B) (f_FT : stT (B 97) (B 98) (B 100) (B 107) (B 108) (B 109)) (f_FA : stA (B 110) (B 118) (B 119) (B 120)) : Met l y_M_agent (k_M_agent :: lw_tg) (mR 7 208) (va_Pc [.ref h, .int (iI a1), .int (iI a2)] (mPre D E h q (I, J, B, G) sz)) (va_Qi (rPi [2, 8, 14, 18, 29, 30, 54, 55] [5, 6, 7, 9, 10, 11, 12, 13, 15, 16, 17, 19, 20, 21, 24, 25, 26, 27, 53, 56, 91, 92, 93, 94, 95, 96, 97, 110, 121, 125, 135] I B (fun (z : Int) (u : mS) => 0 ≤ z ∧ z ≤ 1 ∧ stT (u.2.2.1 97) (u.2.2.1 98) (u.2.2.1 100) (u.2.2.1 107) (u.2.2.1 108) (u.2.2.1 109) ∧ stA (u.2.2.1 110) (u.2.2.1 118) (u.2.2.1 119) (u.2.2.1 120))) (mPost D E h q (mA E h q sz)) (mA E h q sz)) 0 0 (mA E h q sz) := by
  refine m_enter (by decide) rfl (Nat.le_of_ble_eq_true rfl) (fun p e s m below meth c ls AV QQ H locs hQQ X Y hZ hA hr hlk hml hl => ?_)
  have Y : mH D E (mA E h q sz) s.heap h q I J B G H locs := Y
  have S : rS [2, 8, 14, 18, 29, 30, 54, 55] [5, 6, 7, 9, 10, 11, 12, 13, 15, 16, 17, 19, 20, 21, 24, 25, 26, 27, 53, 56, 91, 92, 93, 94, 95, 96, 97, 110, 121, 125, 135] I B I B := rS_rf hT
  have hl : lv_has ls 6 [(0, .ref h), (1, .int (iI a1)), (2, .int (iI a2))] := hl
  refine lv_aload_n X.1 X.2.1 d_M_agent_0 rfl (lv_at hl 0 rfl) ?_
  refine lv_iconst (v := iI 0) X.1 X.2.1 d_M_agent_1 (by decide) ?_
  refine r_ni (m_run (As := [.int (iI 0)]) (rest := []) (n := 1) X Y hZ hA hml hl.1 (r_M_bothRead l D E h q H.size I J B G 0 (by decide) (by decide) S.1) kl_M_bothRead ks_M_bothRead kx_M_bothRead ki_M_bothRead ini_M hd_M_bothRead ⟨Nat.le_of_ble_eq_true rfl, Nat.le_of_ble_eq_true rfl⟩ rfl (Nat.le_of_ble_eq_true rfl) d_M_agent_2 ⟨Nat.le_refl _, Nat.le_refl _⟩) X Y hA S (by decide) (by decide) (fun z101 u H locs Y S s101 p101 => ?_)
  obtain ⟨I101, J101, B101, G101⟩ := u
  dsimp only at Y S s101 p101
  obtain ⟨l101, u101, x101⟩ := p101
  obtain ⟨x101_0, x101_1⟩ := x101
  obtain ⟨z102, e102, x102, y102, y2102⟩ := x101_0
  obtain ⟨z103, e103, x103, y103, y2103⟩ := x101_1
  refine z_if_eq (tgt := 33) X.1 X.2.1 d_M_agent_5 (by decide) ⟨by omega, by omega⟩ (fun h104 => ?_) (fun h104 => ?_)
  · refine lv_iconst (v := iI 0) X.1 X.2.1 d_M_agent_33 (by decide) ?_
    refine lv_istore_n (lv' := [(3, .int (iI 0)), (0, .ref h), (1, .int (iI a1)), (2, .int (iI a2))]) X.1 X.2.1 d_M_agent_34 rfl hl (by decide) rfl (fun ls hl => ?_)
    refine lv_aload_n X.1 X.2.1 d_M_agent_35 rfl (lv_at hl 1 rfl) ?_
    refine lv_iconst (v := iI 0) X.1 X.2.1 d_M_agent_36 (by decide) ?_
    refine r_puti (k := 2) X Y S (by decide) lk_length rfl rfl (t_M_ok 2 (by decide)) rfl rfl (sf_length _ _ _ _) (Nat.le_of_ble_eq_true rfl) rfl (show (0 : Int) ≤ 0 by omega) (show 0 ≤ (4000 : Int) by omega) ⟨by omega, by omega⟩ (by decide) d_M_agent_37 (fun I105 H locs Y S w105 => ?_)
    refine lv_iload_n X.1 X.2.1 d_M_agent_40 rfl (lv_at hl 0 rfl) ?_
    refine z_if_ne (tgt := 46) X.1 X.2.1 d_M_agent_41 (by decide) ⟨by decide, by decide⟩ (fun h106 => False.elim (by omega)) (fun h106 => ?_)
    · refine lv_iconst (v := iI 0) X.1 X.2.1 d_M_agent_44 (by decide) ?_
      exact m_retz hQQ X Y hr hlk (iI_bool (by omega) (by omega)).1 ⟨S, 0, rfl, ⟨by omega, by omega, (stT_cg rfl rfl rfl rfl rfl rfl (stT_cg (s101.2.2 97 (by decide)) (s101.2.2 98 (by decide)) (s101.2.2 100 (by decide)) (s101.2.2 107 (by decide)) (s101.2.2 108 (by decide)) (s101.2.2 109 (by decide)) f_FT)), (stA_cg rfl rfl rfl rfl (stA_cg (s101.2.2 110 (by decide)) (s101.2.2 118 (by decide)) (s101.2.2 119 (by decide)) (s101.2.2 120 (by decide)) f_FA))⟩⟩ d_M_agent_45
  · as_aux_lemma =>
      refine lv_iload_n X.1 X.2.1 d_M_agent_8 rfl (lv_at hl 1 rfl) ?_
      refine z_if_lt (tgt := 33) X.1 X.2.1 d_M_agent_9 (by decide) ⟨by omega, by omega⟩ (fun h107 => ?_) (fun h107 => ?_)
      · refine lv_iconst (v := iI 0) X.1 X.2.1 d_M_agent_33 (by decide) ?_
        refine lv_istore_n (lv' := [(3, .int (iI 0)), (0, .ref h), (1, .int (iI a1)), (2, .int (iI a2))]) X.1 X.2.1 d_M_agent_34 rfl hl (by decide) rfl (fun ls hl => ?_)
        refine lv_aload_n X.1 X.2.1 d_M_agent_35 rfl (lv_at hl 1 rfl) ?_
        refine lv_iconst (v := iI 0) X.1 X.2.1 d_M_agent_36 (by decide) ?_
        refine r_puti (k := 2) X Y S (by decide) lk_length rfl rfl (t_M_ok 2 (by decide)) rfl rfl (sf_length _ _ _ _) (Nat.le_of_ble_eq_true rfl) rfl (show (0 : Int) ≤ 0 by omega) (show 0 ≤ (4000 : Int) by omega) ⟨by omega, by omega⟩ (by decide) d_M_agent_37 (fun I108 H locs Y S w108 => ?_)
        refine lv_iload_n X.1 X.2.1 d_M_agent_40 rfl (lv_at hl 0 rfl) ?_
        refine z_if_ne (tgt := 46) X.1 X.2.1 d_M_agent_41 (by decide) ⟨by decide, by decide⟩ (fun h109 => False.elim (by omega)) (fun h109 => ?_)
        · refine lv_iconst (v := iI 0) X.1 X.2.1 d_M_agent_44 (by decide) ?_
          exact m_retz hQQ X Y hr hlk (iI_bool (by omega) (by omega)).1 ⟨S, 0, rfl, ⟨by omega, by omega, (stT_cg rfl rfl rfl rfl rfl rfl (stT_cg (s101.2.2 97 (by decide)) (s101.2.2 98 (by decide)) (s101.2.2 100 (by decide)) (s101.2.2 107 (by decide)) (s101.2.2 108 (by decide)) (s101.2.2 109 (by decide)) f_FT)), (stA_cg rfl rfl rfl rfl (stA_cg (s101.2.2 110 (by decide)) (s101.2.2 118 (by decide)) (s101.2.2 119 (by decide)) (s101.2.2 120 (by decide)) f_FA))⟩⟩ d_M_agent_45
      · as_aux_lemma =>
          refine lv_iload_n X.1 X.2.1 d_M_agent_12 rfl (lv_at hl 1 rfl) ?_
          refine lv_iconst (v := iI 4) X.1 X.2.1 d_M_agent_13 (by decide) ?_
          refine z_icmp_ge (tgt := 33) X.1 X.2.1 d_M_agent_14 (by decide) ⟨by omega, by omega⟩ ⟨by decide, by decide⟩ (fun h110 => ?_) (fun h110 => ?_)
          · refine lv_iconst (v := iI 0) X.1 X.2.1 d_M_agent_33 (by decide) ?_
            refine lv_istore_n (lv' := [(3, .int (iI 0)), (0, .ref h), (1, .int (iI a1)), (2, .int (iI a2))]) X.1 X.2.1 d_M_agent_34 rfl hl (by decide) rfl (fun ls hl => ?_)
            refine lv_aload_n X.1 X.2.1 d_M_agent_35 rfl (lv_at hl 1 rfl) ?_
            refine lv_iconst (v := iI 0) X.1 X.2.1 d_M_agent_36 (by decide) ?_
            refine r_puti (k := 2) X Y S (by decide) lk_length rfl rfl (t_M_ok 2 (by decide)) rfl rfl (sf_length _ _ _ _) (Nat.le_of_ble_eq_true rfl) rfl (show (0 : Int) ≤ 0 by omega) (show 0 ≤ (4000 : Int) by omega) ⟨by omega, by omega⟩ (by decide) d_M_agent_37 (fun I111 H locs Y S w111 => ?_)
            refine lv_iload_n X.1 X.2.1 d_M_agent_40 rfl (lv_at hl 0 rfl) ?_
            refine z_if_ne (tgt := 46) X.1 X.2.1 d_M_agent_41 (by decide) ⟨by decide, by decide⟩ (fun h112 => False.elim (by omega)) (fun h112 => ?_)
            · refine lv_iconst (v := iI 0) X.1 X.2.1 d_M_agent_44 (by decide) ?_
              exact m_retz hQQ X Y hr hlk (iI_bool (by omega) (by omega)).1 ⟨S, 0, rfl, ⟨by omega, by omega, (stT_cg rfl rfl rfl rfl rfl rfl (stT_cg (s101.2.2 97 (by decide)) (s101.2.2 98 (by decide)) (s101.2.2 100 (by decide)) (s101.2.2 107 (by decide)) (s101.2.2 108 (by decide)) (s101.2.2 109 (by decide)) f_FT)), (stA_cg rfl rfl rfl rfl (stA_cg (s101.2.2 110 (by decide)) (s101.2.2 118 (by decide)) (s101.2.2 119 (by decide)) (s101.2.2 120 (by decide)) f_FA))⟩⟩ d_M_agent_45
          · as_aux_lemma =>
              refine lv_iload_n X.1 X.2.1 d_M_agent_17 rfl (lv_at hl 2 rfl) ?_
              refine lv_iconst (v := iI 1) X.1 X.2.1 d_M_agent_18 (by decide) ?_
              refine z_icmp_lt (tgt := 33) X.1 X.2.1 d_M_agent_19 (by decide) ⟨by omega, by omega⟩ ⟨by decide, by decide⟩ (fun h113 => ?_) (fun h113 => ?_)
              · refine lv_iconst (v := iI 0) X.1 X.2.1 d_M_agent_33 (by decide) ?_
                refine lv_istore_n (lv' := [(3, .int (iI 0)), (0, .ref h), (1, .int (iI a1)), (2, .int (iI a2))]) X.1 X.2.1 d_M_agent_34 rfl hl (by decide) rfl (fun ls hl => ?_)
                refine lv_aload_n X.1 X.2.1 d_M_agent_35 rfl (lv_at hl 1 rfl) ?_
                refine lv_iconst (v := iI 0) X.1 X.2.1 d_M_agent_36 (by decide) ?_
                refine r_puti (k := 2) X Y S (by decide) lk_length rfl rfl (t_M_ok 2 (by decide)) rfl rfl (sf_length _ _ _ _) (Nat.le_of_ble_eq_true rfl) rfl (show (0 : Int) ≤ 0 by omega) (show 0 ≤ (4000 : Int) by omega) ⟨by omega, by omega⟩ (by decide) d_M_agent_37 (fun I114 H locs Y S w114 => ?_)
                refine lv_iload_n X.1 X.2.1 d_M_agent_40 rfl (lv_at hl 0 rfl) ?_
                refine z_if_ne (tgt := 46) X.1 X.2.1 d_M_agent_41 (by decide) ⟨by decide, by decide⟩ (fun h115 => False.elim (by omega)) (fun h115 => ?_)
                · refine lv_iconst (v := iI 0) X.1 X.2.1 d_M_agent_44 (by decide) ?_
                  exact m_retz hQQ X Y hr hlk (iI_bool (by omega) (by omega)).1 ⟨S, 0, rfl, ⟨by omega, by omega, (stT_cg rfl rfl rfl rfl rfl rfl (stT_cg (s101.2.2 97 (by decide)) (s101.2.2 98 (by decide)) (s101.2.2 100 (by decide)) (s101.2.2 107 (by decide)) (s101.2.2 108 (by decide)) (s101.2.2 109 (by decide)) f_FT)), (stA_cg rfl rfl rfl rfl (stA_cg (s101.2.2 110 (by decide)) (s101.2.2 118 (by decide)) (s101.2.2 119 (by decide)) (s101.2.2 120 (by decide)) f_FA))⟩⟩ d_M_agent_45
              · as_aux_lemma =>
                  refine lv_iload_n X.1 X.2.1 d_M_agent_22 rfl (lv_at hl 2 rfl) ?_
                  refine lv_sipush (v := iI 200) X.1 X.2.1 d_M_agent_23 (by decide) ?_
                  refine z_icmp_gt (tgt := 33) X.1 X.2.1 d_M_agent_26 (by decide) ⟨by omega, by omega⟩ ⟨by decide, by decide⟩ (fun h116 => ?_) (fun h116 => ?_)
                  · refine lv_iconst (v := iI 0) X.1 X.2.1 d_M_agent_33 (by decide) ?_
                    refine lv_istore_n (lv' := [(3, .int (iI 0)), (0, .ref h), (1, .int (iI a1)), (2, .int (iI a2))]) X.1 X.2.1 d_M_agent_34 rfl hl (by decide) rfl (fun ls hl => ?_)
                    refine lv_aload_n X.1 X.2.1 d_M_agent_35 rfl (lv_at hl 1 rfl) ?_
                    refine lv_iconst (v := iI 0) X.1 X.2.1 d_M_agent_36 (by decide) ?_
                    refine r_puti (k := 2) X Y S (by decide) lk_length rfl rfl (t_M_ok 2 (by decide)) rfl rfl (sf_length _ _ _ _) (Nat.le_of_ble_eq_true rfl) rfl (show (0 : Int) ≤ 0 by omega) (show 0 ≤ (4000 : Int) by omega) ⟨by omega, by omega⟩ (by decide) d_M_agent_37 (fun I117 H locs Y S w117 => ?_)
                    refine lv_iload_n X.1 X.2.1 d_M_agent_40 rfl (lv_at hl 0 rfl) ?_
                    refine z_if_ne (tgt := 46) X.1 X.2.1 d_M_agent_41 (by decide) ⟨by decide, by decide⟩ (fun h118 => False.elim (by omega)) (fun h118 => ?_)
                    · refine lv_iconst (v := iI 0) X.1 X.2.1 d_M_agent_44 (by decide) ?_
                      exact m_retz hQQ X Y hr hlk (iI_bool (by omega) (by omega)).1 ⟨S, 0, rfl, ⟨by omega, by omega, (stT_cg rfl rfl rfl rfl rfl rfl (stT_cg (s101.2.2 97 (by decide)) (s101.2.2 98 (by decide)) (s101.2.2 100 (by decide)) (s101.2.2 107 (by decide)) (s101.2.2 108 (by decide)) (s101.2.2 109 (by decide)) f_FT)), (stA_cg rfl rfl rfl rfl (stA_cg (s101.2.2 110 (by decide)) (s101.2.2 118 (by decide)) (s101.2.2 119 (by decide)) (s101.2.2 120 (by decide)) f_FA))⟩⟩ d_M_agent_45
                  · as_aux_lemma =>
                      refine lv_iconst (v := iI 1) X.1 X.2.1 d_M_agent_29 (by decide) ?_
                      refine lv_goto (tgt := 34) X.1 X.2.1 d_M_agent_30 (by decide) ?_
                      refine lv_istore_n (lv' := [(3, .int (iI 1)), (0, .ref h), (1, .int (iI a1)), (2, .int (iI a2))]) X.1 X.2.1 d_M_agent_34 rfl hl (by decide) rfl (fun ls hl => ?_)
                      refine lv_aload_n X.1 X.2.1 d_M_agent_35 rfl (lv_at hl 1 rfl) ?_
                      refine lv_iconst (v := iI 0) X.1 X.2.1 d_M_agent_36 (by decide) ?_
                      refine r_puti (k := 2) X Y S (by decide) lk_length rfl rfl (t_M_ok 2 (by decide)) rfl rfl (sf_length _ _ _ _) (Nat.le_of_ble_eq_true rfl) rfl (show (0 : Int) ≤ 0 by omega) (show 0 ≤ (4000 : Int) by omega) ⟨by omega, by omega⟩ (by decide) d_M_agent_37 (fun I119 H locs Y S w119 => ?_)
                      refine lv_iload_n X.1 X.2.1 d_M_agent_40 rfl (lv_at hl 0 rfl) ?_
                      refine z_if_ne (tgt := 46) X.1 X.2.1 d_M_agent_41 (by decide) ⟨by decide, by decide⟩ (fun h120 => ?_) (fun h120 => False.elim (by omega))
                      · as_aux_lemma =>
                          refine lv_aload_n X.1 X.2.1 d_M_agent_46 rfl (lv_at hl 1 rfl) ?_
                          refine m_get X Y 91 (by decide) lk_isAgent (gf_isAgent _ _ _) rfl d_M_agent_47 ?_
                          refine lv_iload_n X.1 X.2.1 d_M_agent_50 rfl (lv_at hl 2 rfl) ?_
                          refine lv_iconst (v := iI 1) X.1 X.2.1 d_M_agent_51 (by decide) ?_
                          refine r_zast X Y S (aw_isAgent _ _ _ _ _ _ _) (sw_isAgent _ _ _ _ _ _ _) rfl ⟨by omega, by omega⟩ (by omega) (show a1 < ((4 : Nat) : Int) by omega) (by omega) (by decide) d_M_agent_52 (fun B121 H locs Y S w121 => ?_)
                          have f122 : stT (B121 97) (B121 98) (B121 100) (B121 107) (B121 108) (B121 109) := (stT_cg (w121.2 97 (by decide)) (w121.2 98 (by decide)) (w121.2 100 (by decide)) (w121.2 107 (by decide)) (w121.2 108 (by decide)) (w121.2 109 (by decide)) (stT_cg rfl rfl rfl rfl rfl rfl (stT_cg (s101.2.2 97 (by decide)) (s101.2.2 98 (by decide)) (s101.2.2 100 (by decide)) (s101.2.2 107 (by decide)) (s101.2.2 108 (by decide)) (s101.2.2 109 (by decide)) f_FT)))
                          have f123 : stA (B121 110) (B121 118) (B121 119) (B121 120) := (stA_cg (w121.2 110 (by decide)) (w121.2 118 (by decide)) (w121.2 119 (by decide)) (w121.2 120 (by decide)) (stA_cg rfl rfl rfl rfl (stA_cg (s101.2.2 110 (by decide)) (s101.2.2 118 (by decide)) (s101.2.2 119 (by decide)) (s101.2.2 120 (by decide)) f_FA)))
                          refine lv_aload_n X.1 X.2.1 d_M_agent_53 rfl (lv_at hl 1 rfl) ?_
                          refine m_get X Y 93 (by decide) lk_agentSizes (gf_agentSizes _ _ _) rfl d_M_agent_54 ?_
                          refine lv_iload_n X.1 X.2.1 d_M_agent_57 rfl (lv_at hl 2 rfl) ?_
                          refine lv_aload_n X.1 X.2.1 d_M_agent_58 rfl (lv_at hl 1 rfl) ?_
                          refine r_get0 X Y (by decide) lk_nameSize (gf_nameSize _ _ _) rfl ((w119.2 54 (by decide)).trans e102) d_M_agent_59 ?_
                          refine r_iast X Y S (aw_agentSizes _ _ _ _ _ _ _) (sw_agentSizes _ _ _ _ _ _ _) rfl ⟨(show (0 : Int) ≤ z102 by omega), (show z102 ≤ (33 : Int) by omega)⟩ ⟨by omega, by omega⟩ (by omega) (show a1 < ((4 : Nat) : Int) by omega) (by omega) (by decide) d_M_agent_62 (fun B124 H locs Y S w124 => ?_)
                          refine lv_iconst (v := iI 0) X.1 X.2.1 d_M_agent_63 (by decide) ?_
                          have J131 : ∀ (n133 : Nat) (z126 : Int) (I125 : Nat → Int32) (J125 : Nat → Int64) (B125 : Nat → Nat → Int32) (G125 : Nat → Nat → Int64) (H : Heap) (locs : List Loc) (ls : Array Slot), (40 - z126).toNat = n133 → (0 ≤ z126) → (z126 ≤ 40) → (stA (B125 110) (B125 118) (B125 119) (B125 120)) → (stT (B125 97) (B125 98) (B125 100) (B125 107) (B125 108) (B125 109)) → (I125 54 = iI z102) → (I125 30 = iI z103) → mH D E (mA E h q sz) s.heap h q I125 J125 B125 G125 H locs → rS [2, 8, 14, 18, 29, 30, 54, 55] [5, 6, 7, 9, 10, 11, 12, 13, 15, 16, 17, 19, 20, 21, 24, 25, 26, 27, 53, 56, 91, 92, 93, 94, 95, 96, 97, 110, 121, 125, 135] I B I125 B125 → lv_has ls 6 [(0, .ref h), (1, .int (iI a1)), (2, .int (iI a2)), (4, .int (iI z126))] → W p l e (mR 7 208) s m AV below meth c H locs 0 0 QQ (F0 m 66 ls []) := by
                            as_aux_lemma =>
                              intro n133
                              induction n133 using Nat.strongRecOn with
                              | ind n133 ih132 =>
                                intro z126 I125 J125 B125 G125 H locs ls hm134 l126 u126 f127 f128 e129 e130 Y S hl
                                refine lv_iload X.1 X.2.1 d_M_agent_66 (lv_at hl 3 rfl) ?_
                                refine lv_aload_n X.1 X.2.1 d_M_agent_68 rfl (lv_at hl 0 rfl) ?_
                                refine r_get0 X Y (by decide) lk_nameSize (gf_nameSize _ _ _) rfl e129 d_M_agent_69 ?_
                                refine z_icmp_ge (tgt := 100) X.1 X.2.1 d_M_agent_72 (by decide) ⟨by omega, by omega⟩ ⟨by omega, by omega⟩ (fun h135 => ?_) (fun h135 => ?_)
                                · as_aux_lemma =>
                                    refine lv_aload_n X.1 X.2.1 d_M_agent_100 rfl (lv_at hl 0 rfl) ?_
                                    refine lv_aload_n X.1 X.2.1 d_M_agent_101 rfl (lv_at hl 0 rfl) ?_
                                    refine m_get X Y 53 (by decide) lk_name (gf_name _ _ _) rfl d_M_agent_102 ?_
                                    refine lv_iconst (v := iI 0) X.1 X.2.1 d_M_agent_105 (by decide) ?_
                                    refine lv_aload_n X.1 X.2.1 d_M_agent_106 rfl (lv_at hl 0 rfl) ?_
                                    refine r_get0 X Y (by decide) lk_nameSize (gf_nameSize _ _ _) rfl e129 d_M_agent_107 ?_
                                    refine r_nv (m_run (As := [.ref ((q 53)), .int (iI 0), .int (iI z102)]) (rest := []) (n := 3) X Y hZ hA hml hl.1 (r_M_saltOf_name l D E h q H.size I125 J125 B125 G125 0 (by decide) (by decide) z102 (by omega) (by omega) S.1) kl_M_saltOf ks_M_saltOf kx_M_saltOf ki_M_saltOf ini_M hd_M_saltOf ⟨Nat.le_of_ble_eq_true rfl, Nat.le_of_ble_eq_true rfl⟩ rfl (Nat.le_of_ble_eq_true rfl) d_M_agent_110 ⟨Nat.le_refl _, Nat.le_refl _⟩) X Y hA S (by decide) (by decide) (fun u H locs Y S s136 p136 => ?_)
                                    obtain ⟨I136, J136, B136, G136⟩ := u
                                    dsimp only at Y S s136 p136
                                    refine lv_iconst (v := iI 0) X.1 X.2.1 d_M_agent_113 (by decide) ?_
                                    have J143 : ∀ (n145 : Nat) (z138 : Int) (I137 : Nat → Int32) (J137 : Nat → Int64) (B137 : Nat → Nat → Int32) (G137 : Nat → Nat → Int64) (H : Heap) (locs : List Loc) (ls : Array Slot), (2 - z138).toNat = n145 → (0 ≤ z138) → (z138 ≤ 2) → (stA (B137 110) (B137 118) (B137 119) (B137 120)) → (stT (B137 97) (B137 98) (B137 100) (B137 107) (B137 108) (B137 109)) → (I137 54 = iI z102) → (I137 30 = iI z103) → mH D E (mA E h q sz) s.heap h q I137 J137 B137 G137 H locs → rS [2, 8, 14, 18, 29, 30, 54, 55] [5, 6, 7, 9, 10, 11, 12, 13, 15, 16, 17, 19, 20, 21, 24, 25, 26, 27, 53, 56, 91, 92, 93, 94, 95, 96, 97, 110, 121, 125, 135] I B I137 B137 → lv_has ls 6 [(0, .ref h), (1, .int (iI a1)), (2, .int (iI a2)), (4, .int (iI z138))] → W p l e (mR 7 208) s m AV below meth c H locs 0 0 QQ (F0 m 116 ls []) := by
                                      as_aux_lemma =>
                                        intro n145
                                        induction n145 using Nat.strongRecOn with
                                        | ind n145 ih144 =>
                                          intro z138 I137 J137 B137 G137 H locs ls hm146 l138 u138 f139 f140 e141 e142 Y S hl
                                          refine lv_iload X.1 X.2.1 d_M_agent_116 (lv_at hl 3 rfl) ?_
                                          refine lv_iconst (v := iI 2) X.1 X.2.1 d_M_agent_118 (by decide) ?_
                                          refine z_icmp_ge (tgt := 190) X.1 X.2.1 d_M_agent_119 (by decide) ⟨by omega, by omega⟩ ⟨by decide, by decide⟩ (fun h147 => ?_) (fun h147 => ?_)
                                          · as_aux_lemma =>
                                              refine lv_aload_n X.1 X.2.1 d_M_agent_190 rfl (lv_at hl 0 rfl) ?_
                                              refine m_get X Y 94 (by decide) lk_shifts (gf_shifts _ _ _) rfl d_M_agent_191 ?_
                                              refine lv_iload_n X.1 X.2.1 d_M_agent_194 rfl (lv_at hl 1 rfl) ?_
                                              refine lv_iconst (v := iI 0) X.1 X.2.1 d_M_agent_195 (by decide) ?_
                                              refine r_iast X Y S (aw_shifts _ _ _ _ _ _ _) (sw_shifts _ _ _ _ _ _ _) rfl ⟨(show ((-100000) : Int) ≤ 0 by omega), (show 0 ≤ (100000 : Int) by omega)⟩ ⟨by omega, by omega⟩ (by omega) (show a1 < ((4 : Nat) : Int) by omega) (by omega) (by decide) d_M_agent_196 (fun B148 H locs Y S w148 => ?_)
                                              refine lv_aload_n X.1 X.2.1 d_M_agent_197 rfl (lv_at hl 0 rfl) ?_
                                              refine m_get X Y 95 (by decide) lk_micros (gf_micros _ _ _) rfl d_M_agent_198 ?_
                                              refine lv_iload_n X.1 X.2.1 d_M_agent_201 rfl (lv_at hl 1 rfl) ?_
                                              refine lv_iconst (v := iI 0) X.1 X.2.1 d_M_agent_202 (by decide) ?_
                                              refine r_iast X Y S (aw_micros _ _ _ _ _ _ _) (sw_micros _ _ _ _ _ _ _) rfl ⟨(show ((-2147483648) : Int) ≤ 0 by omega), (show 0 ≤ (2147483647 : Int) by omega)⟩ ⟨by omega, by omega⟩ (by omega) (show a1 < ((4 : Nat) : Int) by omega) (by omega) (by decide) d_M_agent_203 (fun B149 H locs Y S w149 => ?_)
                                              have f150 : stT (B149 97) (B149 98) (B149 100) (B149 107) (B149 108) (B149 109) := (stT_cg (w149.2 97 (by decide)) (w149.2 98 (by decide)) (w149.2 100 (by decide)) (w149.2 107 (by decide)) (w149.2 108 (by decide)) (w149.2 109 (by decide)) (stT_cg (w148.2 97 (by decide)) (w148.2 98 (by decide)) (w148.2 100 (by decide)) (w148.2 107 (by decide)) (w148.2 108 (by decide)) (w148.2 109 (by decide)) f140))
                                              refine lv_aload_n X.1 X.2.1 d_M_agent_204 rfl (lv_at hl 0 rfl) ?_
                                              refine m_get X Y 110 (by decide) lk_askedKind (gf_askedKind _ _ _) rfl d_M_agent_205 ?_
                                              refine lv_iload_n X.1 X.2.1 d_M_agent_208 rfl (lv_at hl 1 rfl) ?_
                                              refine lv_iconst (v := iI (-1)) X.1 X.2.1 d_M_agent_209 (by decide) ?_
                                              refine r_iast X Y S (aw_askedKind _ _ _ _ _ _ _) (sw_askedKind _ _ _ _ _ _ _) rfl ⟨(show ((-1) : Int) ≤ (-1) by omega), (show (-1) ≤ (2 : Int) by omega)⟩ ⟨by omega, by omega⟩ (by omega) (show a1 < ((4 : Nat) : Int) by omega) (by omega) (by decide) d_M_agent_210 (fun B151 H locs Y S w151 => ?_)
                                              have f152 : stA (B151 110) (B151 118) (B151 119) (B151 120) := by rw [w151.1, w151.2 118 (by decide), w151.2 119 (by decide), w151.2 120 (by decide)]; exact stA_off ⟨by omega, by omega⟩ (by omega) (stA_cg (w149.2 110 (by decide)) (w149.2 118 (by decide)) (w149.2 119 (by decide)) (w149.2 120 (by decide)) (stA_cg (w148.2 110 (by decide)) (w148.2 118 (by decide)) (w148.2 119 (by decide)) (w148.2 120 (by decide)) f139))
                                              refine lv_aload_n X.1 X.2.1 d_M_agent_211 rfl (lv_at hl 0 rfl) ?_
                                              refine m_get X Y 121 (by decide) lk_wantsMet (gf_wantsMet _ _ _) rfl d_M_agent_212 ?_
                                              refine lv_iload_n X.1 X.2.1 d_M_agent_215 rfl (lv_at hl 1 rfl) ?_
                                              refine lv_iconst (v := iI 0) X.1 X.2.1 d_M_agent_216 (by decide) ?_
                                              refine r_zast X Y S (aw_wantsMet _ _ _ _ _ _ _) (sw_wantsMet _ _ _ _ _ _ _) rfl ⟨by omega, by omega⟩ (by omega) (show a1 < ((4 : Nat) : Int) by omega) (by omega) (by decide) d_M_agent_217 (fun B153 H locs Y S w153 => ?_)
                                              have f154 : stT (B153 97) (B153 98) (B153 100) (B153 107) (B153 108) (B153 109) := (stT_cg (w153.2 97 (by decide)) (w153.2 98 (by decide)) (w153.2 100 (by decide)) (w153.2 107 (by decide)) (w153.2 108 (by decide)) (w153.2 109 (by decide)) (stT_cg (w151.2 97 (by decide)) (w151.2 98 (by decide)) (w151.2 100 (by decide)) (w151.2 107 (by decide)) (w151.2 108 (by decide)) (w151.2 109 (by decide)) f150))
                                              refine lv_aload_n X.1 X.2.1 d_M_agent_218 rfl (lv_at hl 0 rfl) ?_
                                              refine m_get X Y 125 (by decide) lk_apSerial (gf_apSerial _ _ _) rfl d_M_agent_219 ?_
                                              refine lv_iload_n X.1 X.2.1 d_M_agent_222 rfl (lv_at hl 1 rfl) ?_
                                              refine lv_iconst (v := iI (-1)) X.1 X.2.1 d_M_agent_223 (by decide) ?_
                                              refine r_iast X Y S (aw_apSerial _ _ _ _ _ _ _) (sw_apSerial _ _ _ _ _ _ _) rfl ⟨(show ((-2147483648) : Int) ≤ (-1) by omega), (show (-1) ≤ (2147483647 : Int) by omega)⟩ ⟨by omega, by omega⟩ (by omega) (show a1 < ((4 : Nat) : Int) by omega) (by omega) (by decide) d_M_agent_224 (fun B155 H locs Y S w155 => ?_)
                                              refine lv_iconst (v := iI 0) X.1 X.2.1 d_M_agent_225 (by decide) ?_
                                              have J162 : ∀ (n164 : Nat) (z157 : Int) (I156 : Nat → Int32) (J156 : Nat → Int64) (B156 : Nat → Nat → Int32) (G156 : Nat → Nat → Int64) (H : Heap) (locs : List Loc) (ls : Array Slot), (8 - z157).toNat = n164 → (0 ≤ z157) → (z157 ≤ 8) → (stA (B156 110) (B156 118) (B156 119) (B156 120)) → (stT (B156 97) (B156 98) (B156 100) (B156 107) (B156 108) (B156 109)) → (I156 54 = iI z102) → (I156 30 = iI z103) → mH D E (mA E h q sz) s.heap h q I156 J156 B156 G156 H locs → rS [2, 8, 14, 18, 29, 30, 54, 55] [5, 6, 7, 9, 10, 11, 12, 13, 15, 16, 17, 19, 20, 21, 24, 25, 26, 27, 53, 56, 91, 92, 93, 94, 95, 96, 97, 110, 121, 125, 135] I B I156 B156 → lv_has ls 6 [(0, .ref h), (1, .int (iI a1)), (4, .int (iI z157))] → W p l e (mR 7 208) s m AV below meth c H locs 0 0 QQ (F0 m 228 ls []) := by
                                                as_aux_lemma =>
                                                  intro n164
                                                  induction n164 using Nat.strongRecOn with
                                                  | ind n164 ih163 =>
                                                    intro z157 I156 J156 B156 G156 H locs ls hm165 l157 u157 f158 f159 e160 e161 Y S hl
                                                    refine lv_iload X.1 X.2.1 d_M_agent_228 (lv_at hl 2 rfl) ?_
                                                    refine lv_bipush (v := iI 8) X.1 X.2.1 d_M_agent_230 (by decide) ?_
                                                    refine z_icmp_ge (tgt := 273) X.1 X.2.1 d_M_agent_232 (by decide) ⟨by omega, by omega⟩ ⟨by decide, by decide⟩ (fun h166 => ?_) (fun h166 => ?_)
                                                    · refine lv_iconst (v := iI 1) X.1 X.2.1 d_M_agent_273 (by decide) ?_
                                                      exact m_retz hQQ X Y hr hlk (iI_bool (by omega) (by omega)).1 ⟨S, 1, rfl, ⟨by omega, by omega, f159, f158⟩⟩ d_M_agent_274
                                                    · as_aux_lemma =>
                                                        refine lv_aload_n X.1 X.2.1 d_M_agent_235 rfl (lv_at hl 0 rfl) ?_
                                                        refine m_get X Y 97 (by decide) lk_isTicket (gf_isTicket _ _ _) rfl d_M_agent_236 ?_
                                                        refine lv_bipush (v := iI 8) X.1 X.2.1 d_M_agent_239 (by decide) ?_
                                                        refine lv_iload_n X.1 X.2.1 d_M_agent_241 rfl (lv_at hl 1 rfl) ?_
                                                        refine z_imul X.1 X.2.1 d_M_agent_242 ?_
                                                        refine lv_iload X.1 X.2.1 d_M_agent_243 (lv_at hl 2 rfl) ?_
                                                        refine z_iadd X.1 X.2.1 d_M_agent_245 ?_
                                                        refine lv_iconst (v := iI 0) X.1 X.2.1 d_M_agent_246 (by decide) ?_
                                                        refine r_zast X Y S (aw_isTicket _ _ _ _ _ _ _) (sw_isTicket _ _ _ _ _ _ _) rfl ⟨by omega, by omega⟩ (by omega) (show (8 * a1) + z157 < ((32 : Nat) : Int) by omega) (by omega) (by decide) d_M_agent_247 (fun B167 H locs Y S w167 => ?_)
                                                        have f168 : stT (B167 97) (B167 98) (B167 100) (B167 107) (B167 108) (B167 109) := by rw [w167.1, w167.2 98 (by decide), w167.2 100 (by decide), w167.2 107 (by decide), w167.2 108 (by decide), w167.2 109 (by decide)]; exact stT_off (by decide) f159
                                                        refine lv_aload_n X.1 X.2.1 d_M_agent_248 rfl (lv_at hl 0 rfl) ?_
                                                        refine m_get X Y 135 (by decide) lk_sessionAgents (gf_sessionAgents _ _ _) rfl d_M_agent_249 ?_
                                                        refine lv_iload X.1 X.2.1 d_M_agent_252 (lv_at hl 2 rfl) ?_
                                                        refine r_iald X Y S (aw_sessionAgents _ _ _ _ _ _ _) rfl (by omega) (show z157 < ((8 : Nat) : Int) by omega) (by omega) d_M_agent_254 (fun z169 q169 l169 u169 => ?_)
                                                        refine lv_iload_n X.1 X.2.1 d_M_agent_255 rfl (lv_at hl 1 rfl) ?_
                                                        have J175 : ∀ (I170 : Nat → Int32) (J170 : Nat → Int64) (B170 : Nat → Nat → Int32) (G170 : Nat → Nat → Int64) (H : Heap) (locs : List Loc) (ls : Array Slot), (stA (B170 110) (B170 118) (B170 119) (B170 120)) → (stT (B170 97) (B170 98) (B170 100) (B170 107) (B170 108) (B170 109)) → (I170 54 = iI z102) → (I170 30 = iI z103) → mH D E (mA E h q sz) s.heap h q I170 J170 B170 G170 H locs → rS [2, 8, 14, 18, 29, 30, 54, 55] [5, 6, 7, 9, 10, 11, 12, 13, 15, 16, 17, 19, 20, 21, 24, 25, 26, 27, 53, 56, 91, 92, 93, 94, 95, 96, 97, 110, 121, 125, 135] I B I170 B170 → lv_has ls 6 [(0, .ref h), (1, .int (iI a1)), (4, .int (iI z157))] → W p l e (mR 7 208) s m AV below meth c H locs 0 0 QQ (F0 m 267 ls []) := by
                                                          as_aux_lemma =>
                                                            intro I170 J170 B170 G170 H locs ls f171 f172 e173 e174 Y S hl
                                                            refine lv_iinc (v := iI (z157 + 1)) (lv' := [(4, .int (iI (z157 + 1))), (0, .ref h), (1, .int (iI a1))]) X.1 X.2.1 d_M_agent_267 hl (k := 2) rfl ((iI_add _ _).trans (congrArg iI (by omega))) (by decide) rfl (fun ls hl => ?_)
                                                            refine lv_goto (tgt := 228) X.1 X.2.1 d_M_agent_270 (by decide) ?_
                                                            exact ih163 ((8 - (z157 + 1)).toNat) (by omega) (z157 + 1) I170 J170 B170 G170 _ _ _ rfl (by omega) (by omega) f171 f172 e173 e174 Y S (lv_sub hl [1, 2, 0] rfl)
                                                        refine z_icmp_ne (tgt := 267) X.1 X.2.1 d_M_agent_256 (by decide) ⟨by omega, by omega⟩ ⟨by omega, by omega⟩ (fun h179 => ?_) (fun h179 => ?_)
                                                        · exact J175 I156 J156 B167 G156 _ _ _ (stA_cg (w167.2 110 (by decide)) (w167.2 118 (by decide)) (w167.2 119 (by decide)) (w167.2 120 (by decide)) f158) f168 e160 e161 Y S (lv_sub hl [0, 1, 2] rfl)
                                                        · refine lv_aload_n X.1 X.2.1 d_M_agent_259 rfl (lv_at hl 0 rfl) ?_
                                                          refine m_get X Y 135 (by decide) lk_sessionAgents (gf_sessionAgents _ _ _) rfl d_M_agent_260 ?_
                                                          refine lv_iload X.1 X.2.1 d_M_agent_263 (lv_at hl 2 rfl) ?_
                                                          refine lv_iconst (v := iI (-1)) X.1 X.2.1 d_M_agent_265 (by decide) ?_
                                                          refine r_iast X Y S (aw_sessionAgents _ _ _ _ _ _ _) (sw_sessionAgents _ _ _ _ _ _ _) rfl ⟨(show ((-1) : Int) ≤ (-1) by omega), (show (-1) ≤ (3 : Int) by omega)⟩ ⟨by omega, by omega⟩ (by omega) (show z157 < ((8 : Nat) : Int) by omega) (by omega) (by decide) d_M_agent_266 (fun B180 H locs Y S w180 => ?_)
                                                          exact J175 I156 J156 B180 G156 _ _ _ (stA_cg (w180.2 110 (by decide)) (w180.2 118 (by decide)) (w180.2 119 (by decide)) (w180.2 120 (by decide)) (stA_cg (w167.2 110 (by decide)) (w167.2 118 (by decide)) (w167.2 119 (by decide)) (w167.2 120 (by decide)) f158)) (stT_cg (w180.2 97 (by decide)) (w180.2 98 (by decide)) (w180.2 100 (by decide)) (w180.2 107 (by decide)) (w180.2 108 (by decide)) (w180.2 109 (by decide)) f168) e160 e161 Y S (lv_sub hl [0, 1, 2] rfl)
                                              refine lv_istore (lv' := [(4, .int (iI 0)), (0, .ref h), (1, .int (iI a1)), (2, .int (iI a2))]) X.1 X.2.1 d_M_agent_226 hl (by decide) rfl (fun ls hl => ?_)
                                              exact J162 _ 0 I137 J137 B155 G137 _ _ _ rfl (by omega) (by omega) (stA_cg (w155.2 110 (by decide)) (w155.2 118 (by decide)) (w155.2 119 (by decide)) (w155.2 120 (by decide)) (stA_cg (w153.2 110 (by decide)) (w153.2 118 (by decide)) (w153.2 119 (by decide)) (w153.2 120 (by decide)) f152)) (stT_cg (w155.2 97 (by decide)) (w155.2 98 (by decide)) (w155.2 100 (by decide)) (w155.2 107 (by decide)) (w155.2 108 (by decide)) (w155.2 109 (by decide)) f154) e141 e142 Y S (lv_sub hl [1, 2, 0] rfl)
                                          · as_aux_lemma =>
                                              refine lv_aload_n X.1 X.2.1 d_M_agent_122 rfl (lv_at hl 0 rfl) ?_
                                              refine lv_iload X.1 X.2.1 d_M_agent_123 (lv_at hl 3 rfl) ?_
                                              have J182 : ∀ (z181 : Int) (H : Heap) (locs : List Loc) (ls : Array Slot), (16 ≤ z181) → (z181 ≤ 32) → mH D E (mA E h q sz) s.heap h q I137 J137 B137 G137 H locs → rS [2, 8, 14, 18, 29, 30, 54, 55] [5, 6, 7, 9, 10, 11, 12, 13, 15, 16, 17, 19, 20, 21, 24, 25, 26, 27, 53, 56, 91, 92, 93, 94, 95, 96, 97, 110, 121, 125, 135] I B I137 B137 → lv_has ls 6 [(0, .ref h), (1, .int (iI a1)), (2, .int (iI a2)), (4, .int (iI z138))] → W p l e (mR 7 208) s m AV below meth c H locs 0 0 QQ (F0 m 135 ls [.int (iI z181), .ref h]) := by
                                                as_aux_lemma =>
                                                  intro z181 H locs ls l181 u181 Y S hl
                                                  refine lv_iload_n X.1 X.2.1 d_M_agent_135 rfl (lv_at hl 2 rfl) ?_
                                                  refine lv_aload_n X.1 X.2.1 d_M_agent_136 rfl (lv_at hl 0 rfl) ?_
                                                  refine m_get X Y 56 (by decide) lk_made (gf_made _ _ _) rfl d_M_agent_137 ?_
                                                  refine r_nv (m_run (As := [.int (iI z181), .int (iI a2), .ref ((q 56))]) (rest := []) (n := 3) X Y hZ hA hml hl.1 (r_M_passwordKey_made l D E h q H.size I137 J137 B137 G137 z181 (by omega) (by omega) a2 (by omega) (by omega) S.1 z103 e142 (by omega) (by omega)) kl_M_passwordKey ks_M_passwordKey kx_M_passwordKey ki_M_passwordKey ini_M hd_M_passwordKey ⟨Nat.le_of_ble_eq_true rfl, Nat.le_of_ble_eq_true rfl⟩ rfl (Nat.le_of_ble_eq_true rfl) d_M_agent_140 ⟨Nat.le_refl _, Nat.le_refl _⟩) X Y hA S (by decide) (by decide) (fun u H locs Y S s186 p186 => ?_)
                                                  obtain ⟨I186, J186, B186, G186⟩ := u
                                                  dsimp only at Y S s186 p186
                                                  refine lv_iconst (v := iI 0) X.1 X.2.1 d_M_agent_143 (by decide) ?_
                                                  have J193 : ∀ (n195 : Nat) (z188 : Int) (I187 : Nat → Int32) (J187 : Nat → Int64) (B187 : Nat → Nat → Int32) (G187 : Nat → Nat → Int64) (H : Heap) (locs : List Loc) (ls : Array Slot), (32 - z188).toNat = n195 → (0 ≤ z188) → (z188 ≤ 32) → (stA (B187 110) (B187 118) (B187 119) (B187 120)) → (stT (B187 97) (B187 98) (B187 100) (B187 107) (B187 108) (B187 109)) → (I187 54 = iI z102) → (I187 30 = iI z103) → mH D E (mA E h q sz) s.heap h q I187 J187 B187 G187 H locs → rS [2, 8, 14, 18, 29, 30, 54, 55] [5, 6, 7, 9, 10, 11, 12, 13, 15, 16, 17, 19, 20, 21, 24, 25, 26, 27, 53, 56, 91, 92, 93, 94, 95, 96, 97, 110, 121, 125, 135] I B I187 B187 → lv_has ls 6 [(0, .ref h), (1, .int (iI a1)), (2, .int (iI a2)), (4, .int (iI z138)), (5, .int (iI z188))] → W p l e (mR 7 208) s m AV below meth c H locs 0 0 QQ (F0 m 146 ls []) := by
                                                    as_aux_lemma =>
                                                      intro n195
                                                      induction n195 using Nat.strongRecOn with
                                                      | ind n195 ih194 =>
                                                        intro z188 I187 J187 B187 G187 H locs ls hm196 l188 u188 f189 f190 e191 e192 Y S hl
                                                        refine lv_iload X.1 X.2.1 d_M_agent_146 (lv_at hl 4 rfl) ?_
                                                        refine lv_bipush (v := iI 32) X.1 X.2.1 d_M_agent_148 (by decide) ?_
                                                        refine z_icmp_ge (tgt := 184) X.1 X.2.1 d_M_agent_150 (by decide) ⟨by omega, by omega⟩ ⟨by decide, by decide⟩ (fun h197 => ?_) (fun h197 => ?_)
                                                        · refine lv_iinc (v := iI (z138 + 1)) (lv' := [(4, .int (iI (z138 + 1))), (0, .ref h), (1, .int (iI a1)), (2, .int (iI a2)), (5, .int (iI z188))]) X.1 X.2.1 d_M_agent_184 hl (k := 3) rfl ((iI_add _ _).trans (congrArg iI (by omega))) (by decide) rfl (fun ls hl => ?_)
                                                          refine lv_goto (tgt := 116) X.1 X.2.1 d_M_agent_187 (by decide) ?_
                                                          exact ih144 ((2 - (z138 + 1)).toNat) (by omega) (z138 + 1) I187 J187 B187 G187 _ _ _ rfl (by omega) (by omega) f189 f190 e191 e192 Y S (lv_sub hl [1, 2, 3, 0] rfl)
                                                        · refine lv_aload_n X.1 X.2.1 d_M_agent_153 rfl (lv_at hl 0 rfl) ?_
                                                          refine m_get X Y 96 (by decide) lk_agentKeys (gf_agentKeys _ _ _) rfl d_M_agent_154 ?_
                                                          refine lv_bipush (v := iI 64) X.1 X.2.1 d_M_agent_157 (by decide) ?_
                                                          refine lv_iload_n X.1 X.2.1 d_M_agent_159 rfl (lv_at hl 1 rfl) ?_
                                                          refine z_imul X.1 X.2.1 d_M_agent_160 ?_
                                                          refine lv_bipush (v := iI 32) X.1 X.2.1 d_M_agent_161 (by decide) ?_
                                                          refine lv_iload X.1 X.2.1 d_M_agent_163 (lv_at hl 3 rfl) ?_
                                                          refine z_imul X.1 X.2.1 d_M_agent_165 ?_
                                                          refine z_iadd X.1 X.2.1 d_M_agent_166 ?_
                                                          refine lv_iload X.1 X.2.1 d_M_agent_167 (lv_at hl 4 rfl) ?_
                                                          refine z_iadd X.1 X.2.1 d_M_agent_169 ?_
                                                          refine lv_aload_n X.1 X.2.1 d_M_agent_170 rfl (lv_at hl 0 rfl) ?_
                                                          refine m_get X Y 56 (by decide) lk_made (gf_made _ _ _) rfl d_M_agent_171 ?_
                                                          refine lv_iload X.1 X.2.1 d_M_agent_174 (lv_at hl 4 rfl) ?_
                                                          refine r_bald X Y S (aw_made _ _ _ _ _ _ _) rfl (by omega) (show z188 < ((32 : Nat) : Int) by omega) (by omega) d_M_agent_176 (fun z198 q198 l198 u198 => ?_)
                                                          refine r_bast X Y S (aw_agentKeys _ _ _ _ _ _ _) (sw_agentKeys _ _ _ _ _ _ _) rfl (by omega) (show ((64 * a1) + (32 * z138)) + z188 < ((256 : Nat) : Int) by omega) (by omega) (by decide) d_M_agent_177 (fun B199 H locs Y S w199 => ?_)
                                                          refine lv_iinc (v := iI (z188 + 1)) (lv' := [(5, .int (iI (z188 + 1))), (0, .ref h), (1, .int (iI a1)), (2, .int (iI a2)), (4, .int (iI z138))]) X.1 X.2.1 d_M_agent_178 hl (k := 4) rfl ((iI_add _ _).trans (congrArg iI (by omega))) (by decide) rfl (fun ls hl => ?_)
                                                          refine lv_goto (tgt := 146) X.1 X.2.1 d_M_agent_181 (by decide) ?_
                                                          exact ih194 ((32 - (z188 + 1)).toNat) (by omega) (z188 + 1) I187 J187 B199 G187 _ _ _ rfl (by omega) (by omega) (stA_cg (w199.2 110 (by decide)) (w199.2 118 (by decide)) (w199.2 119 (by decide)) (w199.2 120 (by decide)) f189) (stT_cg (w199.2 97 (by decide)) (w199.2 98 (by decide)) (w199.2 100 (by decide)) (w199.2 107 (by decide)) (w199.2 108 (by decide)) (w199.2 109 (by decide)) f190) e191 e192 Y S (lv_sub hl [1, 2, 3, 4, 0] rfl)
                                                  refine lv_istore (lv' := [(5, .int (iI 0)), (0, .ref h), (1, .int (iI a1)), (2, .int (iI a2)), (4, .int (iI z138))]) X.1 X.2.1 d_M_agent_144 hl (by decide) rfl (fun ls hl => ?_)
                                                  exact J193 _ 0 I186 J186 B186 G186 _ _ _ rfl (by omega) (by omega) (stA_cg (s186.2.2 110 (by decide)) (s186.2.2 118 (by decide)) (s186.2.2 119 (by decide)) (s186.2.2 120 (by decide)) f139) (stT_cg (s186.2.2 97 (by decide)) (s186.2.2 98 (by decide)) (s186.2.2 100 (by decide)) (s186.2.2 107 (by decide)) (s186.2.2 108 (by decide)) (s186.2.2 109 (by decide)) f140) ((s186.2.1 54 (by decide)).trans e141) ((s186.2.1 30 (by decide)).trans e142) Y S (lv_sub hl [1, 2, 3, 4, 0] rfl)
                                              refine z_if_ne (tgt := 133) X.1 X.2.1 d_M_agent_125 (by decide) ⟨by omega, by omega⟩ (fun h200 => ?_) (fun h200 => ?_)
                                              · refine lv_bipush (v := iI 32) X.1 X.2.1 d_M_agent_133 (by decide) ?_
                                                exact J182 32 _ _ _ (by omega) (by omega) Y S (lv_sub hl [0, 1, 2, 3] rfl)
                                              · refine lv_bipush (v := iI 16) X.1 X.2.1 d_M_agent_128 (by decide) ?_
                                                refine lv_goto (tgt := 135) X.1 X.2.1 d_M_agent_130 (by decide) ?_
                                                exact J182 16 _ _ _ (by omega) (by omega) Y S (lv_sub hl [0, 1, 2, 3] rfl)
                                    refine lv_istore (lv' := [(4, .int (iI 0)), (0, .ref h), (1, .int (iI a1)), (2, .int (iI a2))]) X.1 X.2.1 d_M_agent_114 hl (by decide) rfl (fun ls hl => ?_)
                                    exact J143 _ 0 I136 J136 B136 G136 _ _ _ rfl (by omega) (by omega) (stA_cg (s136.2.2 110 (by decide)) (s136.2.2 118 (by decide)) (s136.2.2 119 (by decide)) (s136.2.2 120 (by decide)) f127) (stT_cg (s136.2.2 97 (by decide)) (s136.2.2 98 (by decide)) (s136.2.2 100 (by decide)) (s136.2.2 107 (by decide)) (s136.2.2 108 (by decide)) (s136.2.2 109 (by decide)) f128) ((s136.2.1 54 (by decide)).trans e129) ((s136.2.1 30 (by decide)).trans e130) Y S (lv_sub hl [1, 2, 3, 0] rfl)
                                · refine lv_aload_n X.1 X.2.1 d_M_agent_75 rfl (lv_at hl 0 rfl) ?_
                                  refine m_get X Y 92 (by decide) lk_agentNames (gf_agentNames _ _ _) rfl d_M_agent_76 ?_
                                  refine lv_bipush (v := iI 40) X.1 X.2.1 d_M_agent_79 (by decide) ?_
                                  refine lv_iload_n X.1 X.2.1 d_M_agent_81 rfl (lv_at hl 1 rfl) ?_
                                  refine z_imul X.1 X.2.1 d_M_agent_82 ?_
                                  refine lv_iload X.1 X.2.1 d_M_agent_83 (lv_at hl 3 rfl) ?_
                                  refine z_iadd X.1 X.2.1 d_M_agent_85 ?_
                                  refine lv_aload_n X.1 X.2.1 d_M_agent_86 rfl (lv_at hl 0 rfl) ?_
                                  refine m_get X Y 53 (by decide) lk_name (gf_name _ _ _) rfl d_M_agent_87 ?_
                                  refine lv_iload X.1 X.2.1 d_M_agent_90 (lv_at hl 3 rfl) ?_
                                  refine r_bald X Y S (aw_name _ _ _ _ _ _ _) rfl (by omega) (show z126 < ((40 : Nat) : Int) by omega) (by omega) d_M_agent_92 (fun z201 q201 l201 u201 => ?_)
                                  refine r_bast X Y S (aw_agentNames _ _ _ _ _ _ _) (sw_agentNames _ _ _ _ _ _ _) rfl (by omega) (show (40 * a1) + z126 < ((160 : Nat) : Int) by omega) (by omega) (by decide) d_M_agent_93 (fun B202 H locs Y S w202 => ?_)
                                  refine lv_iinc (v := iI (z126 + 1)) (lv' := [(4, .int (iI (z126 + 1))), (0, .ref h), (1, .int (iI a1)), (2, .int (iI a2))]) X.1 X.2.1 d_M_agent_94 hl (k := 3) rfl ((iI_add _ _).trans (congrArg iI (by omega))) (by decide) rfl (fun ls hl => ?_)
                                  refine lv_goto (tgt := 66) X.1 X.2.1 d_M_agent_97 (by decide) ?_
                                  exact ih132 ((40 - (z126 + 1)).toNat) (by omega) (z126 + 1) I125 J125 B202 G125 _ _ _ rfl (by omega) (by omega) (stA_cg (w202.2 110 (by decide)) (w202.2 118 (by decide)) (w202.2 119 (by decide)) (w202.2 120 (by decide)) f127) (stT_cg (w202.2 97 (by decide)) (w202.2 98 (by decide)) (w202.2 100 (by decide)) (w202.2 107 (by decide)) (w202.2 108 (by decide)) (w202.2 109 (by decide)) f128) e129 e130 Y S (lv_sub hl [1, 2, 3, 0] rfl)
                          refine lv_istore (lv' := [(4, .int (iI 0)), (3, .int (iI 1)), (0, .ref h), (1, .int (iI a1)), (2, .int (iI a2))]) X.1 X.2.1 d_M_agent_64 hl (by decide) rfl (fun ls hl => ?_)
                          exact J131 _ 0 I119 J101 B124 G101 _ _ _ rfl (by omega) (by omega) (stA_cg (w124.2 110 (by decide)) (w124.2 118 (by decide)) (w124.2 119 (by decide)) (w124.2 120 (by decide)) f123) (stT_cg (w124.2 97 (by decide)) (w124.2 98 (by decide)) (w124.2 100 (by decide)) (w124.2 107 (by decide)) (w124.2 108 (by decide)) (w124.2 109 (by decide)) f122) ((w119.2 54 (by decide)).trans e102) ((w119.2 30 (by decide)).trans e103) Y S (lv_sub hl [2, 3, 4, 0] rfl)
